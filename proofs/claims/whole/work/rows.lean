section
-- ===== PART A: goes FIRST, ahead of the names: the tables' words, and 'selects' of the private methods out of them =====
/-- a private method of a class that the tables say can be made, by its rows of tables_1 -/
def lw_okq (q : MethodName × Nat) : Prop := (q.1.cls ≠ "java/lang/invoke/MethodHandle" ∧ q.1.cls ≠ "java/lang/invoke/VarHandle") ∧ Cond.instantiable q.1.cls q.2 ∈ tables_1 ∧ Cond.privateMethod q.1 ∈ tables_1 ∧ Cond.instanceMethod q.1 ∈ tables_1
theorem lw_p0 : lw_okq (⟨"ShaftWinder$RideFinder", "aimAt", "(II)V"⟩, 5) := ⟨⟨by decide +kernel, by decide +kernel⟩, List.mem_of_getElem? (i := 59) (by decide +kernel), List.mem_of_getElem? (i := 313) (by decide +kernel), List.mem_of_getElem? (i := 314) (by decide +kernel)⟩
theorem lw_p1 : lw_okq (⟨"ShaftWinder$RideFinder", "fillRow", "(I)V"⟩, 5) := ⟨⟨by decide +kernel, by decide +kernel⟩, List.mem_of_getElem? (i := 59) (by decide +kernel), List.mem_of_getElem? (i := 321) (by decide +kernel), List.mem_of_getElem? (i := 322) (by decide +kernel)⟩
theorem lw_p2 : lw_okq (⟨"ShaftWinder$RideFinder", "greatestFrom", "(I)I"⟩, 5) := ⟨⟨by decide +kernel, by decide +kernel⟩, List.mem_of_getElem? (i := 59) (by decide +kernel), List.mem_of_getElem? (i := 325) (by decide +kernel), List.mem_of_getElem? (i := 326) (by decide +kernel)⟩
theorem lw_p3 : lw_okq (⟨"ShaftWinder$RideFinder", "ticksAfter", "(II)I"⟩, 5) := ⟨⟨by decide +kernel, by decide +kernel⟩, List.mem_of_getElem? (i := 59) (by decide +kernel), List.mem_of_getElem? (i := 332) (by decide +kernel), List.mem_of_getElem? (i := 333) (by decide +kernel)⟩
theorem lw_p4 : lw_okq (⟨"ShaftWinder$RideFinder", "farthestOfBest", "(II)I"⟩, 5) := ⟨⟨by decide +kernel, by decide +kernel⟩, List.mem_of_getElem? (i := 59) (by decide +kernel), List.mem_of_getElem? (i := 345) (by decide +kernel), List.mem_of_getElem? (i := 346) (by decide +kernel)⟩
theorem lw_p5 : lw_okq (⟨"ShaftWinder$Winding", "mustBrake", "()Z"⟩, 15) := ⟨⟨by decide +kernel, by decide +kernel⟩, List.mem_of_getElem? (i := 85) (by decide +kernel), List.mem_of_getElem? (i := 385) (by decide +kernel), List.mem_of_getElem? (i := 386) (by decide +kernel)⟩
theorem lw_p6 : lw_okq (⟨"ShaftWinder$Winding", "nextSpeed", "()I"⟩, 15) := ⟨⟨by decide +kernel, by decide +kernel⟩, List.mem_of_getElem? (i := 85) (by decide +kernel), List.mem_of_getElem? (i := 390) (by decide +kernel), List.mem_of_getElem? (i := 391) (by decide +kernel)⟩
theorem lw_p7 : lw_okq (⟨"ShaftWinder$Winding", "rideOn", "()V"⟩, 15) := ⟨⟨by decide +kernel, by decide +kernel⟩, List.mem_of_getElem? (i := 85) (by decide +kernel), List.mem_of_getElem? (i := 405) (by decide +kernel), List.mem_of_getElem? (i := 406) (by decide +kernel)⟩
theorem lw_p8 : lw_okq (⟨"ShaftWinder$Winding", "slowDown", "()V"⟩, 15) := ⟨⟨by decide +kernel, by decide +kernel⟩, List.mem_of_getElem? (i := 85) (by decide +kernel), List.mem_of_getElem? (i := 409) (by decide +kernel), List.mem_of_getElem? (i := 410) (by decide +kernel)⟩
theorem lw_p9 : lw_okq (⟨"ShaftWinder", "finding", "(I)I"⟩, 11) := ⟨⟨by decide +kernel, by decide +kernel⟩, List.mem_of_getElem? (i := 14) (by decide +kernel), List.mem_of_getElem? (i := 545) (by decide +kernel), List.mem_of_getElem? (i := 546) (by decide +kernel)⟩
theorem lw_p10 : lw_okq (⟨"ShaftWinderModel", "isPlace", "(I)Z"⟩, 40) := ⟨⟨by decide +kernel, by decide +kernel⟩, List.mem_of_getElem? (i := 624) (by decide +kernel), List.mem_of_getElem? (i := 762) (by decide +kernel), List.mem_of_getElem? (i := 763) (by decide +kernel)⟩
theorem lw_p11 : lw_okq (⟨"ShaftWinderModel", "lookAtZones", "()V"⟩, 40) := ⟨⟨by decide +kernel, by decide +kernel⟩, List.mem_of_getElem? (i := 624) (by decide +kernel), List.mem_of_getElem? (i := 774) (by decide +kernel), List.mem_of_getElem? (i := 775) (by decide +kernel)⟩
theorem lw_p12 : lw_okq (⟨"ShaftWinderModel", "allowed", "(I)I"⟩, 40) := ⟨⟨by decide +kernel, by decide +kernel⟩, List.mem_of_getElem? (i := 624) (by decide +kernel), List.mem_of_getElem? (i := 778) (by decide +kernel), List.mem_of_getElem? (i := 779) (by decide +kernel)⟩
theorem lw_p13 : lw_okq (⟨"ShaftWinderModel", "isTick", "(II)Z"⟩, 40) := ⟨⟨by decide +kernel, by decide +kernel⟩, List.mem_of_getElem? (i := 624) (by decide +kernel), List.mem_of_getElem? (i := 782) (by decide +kernel), List.mem_of_getElem? (i := 783) (by decide +kernel)⟩
theorem lw_p14 : lw_okq (⟨"ShaftWinderModel", "plans", "(II)I"⟩, 40) := ⟨⟨by decide +kernel, by decide +kernel⟩, List.mem_of_getElem? (i := 624) (by decide +kernel), List.mem_of_getElem? (i := 790) (by decide +kernel), List.mem_of_getElem? (i := 791) (by decide +kernel)⟩
theorem lw_p15 : lw_okq (⟨"ShaftWinderModel", "workBack", "(I)V"⟩, 40) := ⟨⟨by decide +kernel, by decide +kernel⟩, List.mem_of_getElem? (i := 624) (by decide +kernel), List.mem_of_getElem? (i := 794) (by decide +kernel), List.mem_of_getElem? (i := 795) (by decide +kernel)⟩
def lw_privs_1 : List (MethodName × Nat) := [(⟨"ShaftWinder$RideFinder", "aimAt", "(II)V"⟩, 5), (⟨"ShaftWinder$RideFinder", "fillRow", "(I)V"⟩, 5), (⟨"ShaftWinder$RideFinder", "greatestFrom", "(I)I"⟩, 5), (⟨"ShaftWinder$RideFinder", "ticksAfter", "(II)I"⟩, 5), (⟨"ShaftWinder$RideFinder", "farthestOfBest", "(II)I"⟩, 5), (⟨"ShaftWinder$Winding", "mustBrake", "()Z"⟩, 15), (⟨"ShaftWinder$Winding", "nextSpeed", "()I"⟩, 15), (⟨"ShaftWinder$Winding", "rideOn", "()V"⟩, 15), (⟨"ShaftWinder$Winding", "slowDown", "()V"⟩, 15), (⟨"ShaftWinder", "finding", "(I)I"⟩, 11), (⟨"ShaftWinderModel", "isPlace", "(I)Z"⟩, 40), (⟨"ShaftWinderModel", "lookAtZones", "()V"⟩, 40), (⟨"ShaftWinderModel", "allowed", "(I)I"⟩, 40), (⟨"ShaftWinderModel", "isTick", "(II)Z"⟩, 40), (⟨"ShaftWinderModel", "plans", "(II)I"⟩, 40), (⟨"ShaftWinderModel", "workBack", "(I)V"⟩, 40)]
theorem lw_r1 : ∀ q ∈ lw_privs_1, lw_okq q := List.forall_mem_cons.mpr ⟨lw_p0, List.forall_mem_cons.mpr ⟨lw_p1, List.forall_mem_cons.mpr ⟨lw_p2, List.forall_mem_cons.mpr ⟨lw_p3, List.forall_mem_cons.mpr ⟨lw_p4, List.forall_mem_cons.mpr ⟨lw_p5, List.forall_mem_cons.mpr ⟨lw_p6, List.forall_mem_cons.mpr ⟨lw_p7, List.forall_mem_cons.mpr ⟨lw_p8, List.forall_mem_cons.mpr ⟨lw_p9, List.forall_mem_cons.mpr ⟨lw_p10, List.forall_mem_cons.mpr ⟨lw_p11, List.forall_mem_cons.mpr ⟨lw_p12, List.forall_mem_cons.mpr ⟨lw_p13, List.forall_mem_cons.mpr ⟨lw_p14, List.forall_mem_cons.mpr ⟨lw_p15, fun _ h => absurd h List.not_mem_nil⟩⟩⟩⟩⟩⟩⟩⟩⟩⟩⟩⟩⟩⟩⟩⟩
theorem lw_p16 : lw_okq (⟨"ShaftWinderModel", "goes", "(III)Z"⟩, 40) := ⟨⟨by decide +kernel, by decide +kernel⟩, List.mem_of_getElem? (i := 624) (by decide +kernel), List.mem_of_getElem? (i := 798) (by decide +kernel), List.mem_of_getElem? (i := 799) (by decide +kernel)⟩
theorem lw_p17 : lw_okq (⟨"ShaftWinderModel", "opens", "()I"⟩, 40) := ⟨⟨by decide +kernel, by decide +kernel⟩, List.mem_of_getElem? (i := 624) (by decide +kernel), List.mem_of_getElem? (i := 826) (by decide +kernel), List.mem_of_getElem? (i := 827) (by decide +kernel)⟩
theorem lw_p18 : lw_okq (⟨"ShaftWinderModel", "rides", "()V"⟩, 40) := ⟨⟨by decide +kernel, by decide +kernel⟩, List.mem_of_getElem? (i := 624) (by decide +kernel), List.mem_of_getElem? (i := 834) (by decide +kernel), List.mem_of_getElem? (i := 835) (by decide +kernel)⟩
theorem lw_p19 : lw_okq (⟨"ShaftWinderModel", "told", "()I"⟩, 40) := ⟨⟨by decide +kernel, by decide +kernel⟩, List.mem_of_getElem? (i := 624) (by decide +kernel), List.mem_of_getElem? (i := 838) (by decide +kernel), List.mem_of_getElem? (i := 839) (by decide +kernel)⟩
theorem lw_p20 : lw_okq (⟨"ShaftWinderModel", "brakes", "()V"⟩, 40) := ⟨⟨by decide +kernel, by decide +kernel⟩, List.mem_of_getElem? (i := 624) (by decide +kernel), List.mem_of_getElem? (i := 842) (by decide +kernel), List.mem_of_getElem? (i := 843) (by decide +kernel)⟩
theorem lw_p21 : lw_okq (⟨"ShaftWinderModel", "isSlipping", "(III)Z"⟩, 40) := ⟨⟨by decide +kernel, by decide +kernel⟩, List.mem_of_getElem? (i := 624) (by decide +kernel), List.mem_of_getElem? (i := 862) (by decide +kernel), List.mem_of_getElem? (i := 863) (by decide +kernel)⟩
theorem lw_p22 : lw_okq (⟨"ShaftWinderModel", "firstSlip", "(III)I"⟩, 40) := ⟨⟨by decide +kernel, by decide +kernel⟩, List.mem_of_getElem? (i := 624) (by decide +kernel), List.mem_of_getElem? (i := 870) (by decide +kernel), List.mem_of_getElem? (i := 871) (by decide +kernel)⟩
theorem lw_p23 : lw_okq (⟨"ShaftWinderModel", "worstFrom", "(II)I"⟩, 40) := ⟨⟨by decide +kernel, by decide +kernel⟩, List.mem_of_getElem? (i := 624) (by decide +kernel), List.mem_of_getElem? (i := 886) (by decide +kernel), List.mem_of_getElem? (i := 887) (by decide +kernel)⟩
theorem lw_p24 : lw_okq (⟨"ShaftWinderModel", "sumOf", "(II)I"⟩, 40) := ⟨⟨by decide +kernel, by decide +kernel⟩, List.mem_of_getElem? (i := 624) (by decide +kernel), List.mem_of_getElem? (i := 890) (by decide +kernel), List.mem_of_getElem? (i := 891) (by decide +kernel)⟩
theorem lw_p25 : lw_okq (⟨"ShaftWinderModel", "logged", "()I"⟩, 40) := ⟨⟨by decide +kernel, by decide +kernel⟩, List.mem_of_getElem? (i := 624) (by decide +kernel), List.mem_of_getElem? (i := 921) (by decide +kernel), List.mem_of_getElem? (i := 922) (by decide +kernel)⟩
theorem lw_p26 : lw_okq (⟨"ShaftWinderModel", "meets", "(I)I"⟩, 40) := ⟨⟨by decide +kernel, by decide +kernel⟩, List.mem_of_getElem? (i := 624) (by decide +kernel), List.mem_of_getElem? (i := 932) (by decide +kernel), List.mem_of_getElem? (i := 933) (by decide +kernel)⟩
theorem lw_p27 : lw_okq (⟨"ShaftWinderModel", "lacks", "(III)I"⟩, 40) := ⟨⟨by decide +kernel, by decide +kernel⟩, List.mem_of_getElem? (i := 624) (by decide +kernel), List.mem_of_getElem? (i := 944) (by decide +kernel), List.mem_of_getElem? (i := 945) (by decide +kernel)⟩
theorem lw_p28 : lw_okq (⟨"ShaftWinderModel", "lay", "(III)V"⟩, 40) := ⟨⟨by decide +kernel, by decide +kernel⟩, List.mem_of_getElem? (i := 624) (by decide +kernel), List.mem_of_getElem? (i := 948) (by decide +kernel), List.mem_of_getElem? (i := 949) (by decide +kernel)⟩
theorem lw_p29 : lw_okq (⟨"ShaftWinderModel", "fits", "(III)Z"⟩, 40) := ⟨⟨by decide +kernel, by decide +kernel⟩, List.mem_of_getElem? (i := 624) (by decide +kernel), List.mem_of_getElem? (i := 977) (by decide +kernel), List.mem_of_getElem? (i := 978) (by decide +kernel)⟩
def lw_privs_2 : List (MethodName × Nat) := [(⟨"ShaftWinderModel", "goes", "(III)Z"⟩, 40), (⟨"ShaftWinderModel", "opens", "()I"⟩, 40), (⟨"ShaftWinderModel", "rides", "()V"⟩, 40), (⟨"ShaftWinderModel", "told", "()I"⟩, 40), (⟨"ShaftWinderModel", "brakes", "()V"⟩, 40), (⟨"ShaftWinderModel", "isSlipping", "(III)Z"⟩, 40), (⟨"ShaftWinderModel", "firstSlip", "(III)I"⟩, 40), (⟨"ShaftWinderModel", "worstFrom", "(II)I"⟩, 40), (⟨"ShaftWinderModel", "sumOf", "(II)I"⟩, 40), (⟨"ShaftWinderModel", "logged", "()I"⟩, 40), (⟨"ShaftWinderModel", "meets", "(I)I"⟩, 40), (⟨"ShaftWinderModel", "lacks", "(III)I"⟩, 40), (⟨"ShaftWinderModel", "lay", "(III)V"⟩, 40), (⟨"ShaftWinderModel", "fits", "(III)Z"⟩, 40)]
theorem lw_r2 : ∀ q ∈ lw_privs_2, lw_okq q := List.forall_mem_cons.mpr ⟨lw_p16, List.forall_mem_cons.mpr ⟨lw_p17, List.forall_mem_cons.mpr ⟨lw_p18, List.forall_mem_cons.mpr ⟨lw_p19, List.forall_mem_cons.mpr ⟨lw_p20, List.forall_mem_cons.mpr ⟨lw_p21, List.forall_mem_cons.mpr ⟨lw_p22, List.forall_mem_cons.mpr ⟨lw_p23, List.forall_mem_cons.mpr ⟨lw_p24, List.forall_mem_cons.mpr ⟨lw_p25, List.forall_mem_cons.mpr ⟨lw_p26, List.forall_mem_cons.mpr ⟨lw_p27, List.forall_mem_cons.mpr ⟨lw_p28, List.forall_mem_cons.mpr ⟨lw_p29, fun _ h => absurd h List.not_mem_nil⟩⟩⟩⟩⟩⟩⟩⟩⟩⟩⟩⟩⟩⟩
def lw_privs : List (MethodName × Nat) := lw_privs_1 ++ (lw_privs_2)
def lw_tbl : List Cond := k2_sels lw_privs ++ tables_1
theorem lw_privs_ok : ∀ q ∈ lw_privs, lw_okq q := by
  show ∀ q ∈ lw_privs_1 ++ (lw_privs_2), lw_okq q
  exact List.forall_mem_append.mpr ⟨lw_r1, lw_r2⟩
end
section
def RX0 : String := "ShaftWinder$Book"
def TX0 : u_T := fun k => match k with
  | _ => ("ShaftWinder$Book", "wires", "[I", true)
def tyX0 : Nat → FieldType := fun k => match k with
  | _ => .array .int
theorem nmX0 : ∀ a, a < 1 → ∀ b, b < 1 → a ≠ b → (TX0 a).2.1 ≠ (TX0 b).2.1 := by decide +kernel
theorem tyX0_ok : ∀ k, k < 1 → parseFieldDescriptor (TX0 k).2.2.1 = some (tyX0 k) := by decide +kernel
abbrev cX0_init : ByteArray := prog_2_method_1_code
def yX0_init : MethodName := ⟨RX0, "<init>", "()V"⟩
abbrev cX0_addBroken : ByteArray := prog_2_method_2_code
def yX0_addBroken : MethodName := ⟨RX0, "addBroken", "(II)I"⟩
abbrev cX0_wiresIn : ByteArray := prog_2_method_3_code
def yX0_wiresIn : MethodName := ⟨RX0, "wiresIn", "(II)I"⟩
abbrev cX0_firstOfWorst : ByteArray := prog_2_method_4_code
def yX0_firstOfWorst : MethodName := ⟨RX0, "firstOfWorst", "(I)I"⟩
abbrev cX0_cutAway : ByteArray := prog_2_method_5_code
def yX0_cutAway : MethodName := ⟨RX0, "cutAway", "(I)I"⟩
abbrev cX0_fewestToCut : ByteArray := prog_2_method_6_code
def yX0_fewestToCut : MethodName := ⟨RX0, "fewestToCut", "(II)I"⟩
abbrev cX0_take : ByteArray := prog_2_method_7_code
def yX0_take : MethodName := ⟨RX0, "take", "([II)V"⟩
def RX1 : String := "ShaftWinder$RideFinder"
def TX1 : u_T := fun k => match k with
  | 0 => ("ShaftWinder$RideFinder", "shaft", "LShaftWinder$Shaft;", true)
  | 1 => ("ShaftWinder$RideFinder", "left", "[I", true)
  | 2 => ("ShaftWinder$RideFinder", "end", "I", false)
  | 3 => ("ShaftWinder$RideFinder", "way", "I", false)
  | _ => ("ShaftWinder$RideFinder", "farthest", "I", false)
def tyX1 : Nat → FieldType := fun k => match k with
  | 0 => .object "ShaftWinder$Shaft"
  | 1 => .array .int
  | 2 => .int
  | 3 => .int
  | _ => .int
theorem nmX1 : ∀ a, a < 5 → ∀ b, b < 5 → a ≠ b → (TX1 a).2.1 ≠ (TX1 b).2.1 := by decide +kernel
theorem tyX1_ok : ∀ k, k < 5 → parseFieldDescriptor (TX1 k).2.2.1 = some (tyX1 k) := by decide +kernel
abbrev cX1_init : ByteArray := prog_3_method_1_code
def yX1_init : MethodName := ⟨RX1, "<init>", "(LShaftWinder$Shaft;)V"⟩
abbrev cX1_forget : ByteArray := prog_3_method_2_code
def yX1_forget : MethodName := ⟨RX1, "forget", "()V"⟩
abbrev cX1_ticksBetween : ByteArray := prog_3_method_3_code
def yX1_ticksBetween : MethodName := ⟨RX1, "ticksBetween", "(II)I"⟩
abbrev cX1_trace : ByteArray := prog_3_method_4_code
def yX1_trace : MethodName := ⟨RX1, "trace", "(II[I)I"⟩
abbrev cX1_aimAt : ByteArray := prog_3_method_5_code
def yX1_aimAt : MethodName := ⟨RX1, "aimAt", "(II)V"⟩
abbrev cX1_fillRow : ByteArray := prog_3_method_6_code
def yX1_fillRow : MethodName := ⟨RX1, "fillRow", "(I)V"⟩
abbrev cX1_farthestOfBest : ByteArray := prog_3_method_7_code
def yX1_farthestOfBest : MethodName := ⟨RX1, "farthestOfBest", "(II)I"⟩
abbrev cX1_greatestFrom : ByteArray := prog_3_method_8_code
def yX1_greatestFrom : MethodName := ⟨RX1, "greatestFrom", "(I)I"⟩
abbrev cX1_ticksAfter : ByteArray := prog_3_method_9_code
def yX1_ticksAfter : MethodName := ⟨RX1, "ticksAfter", "(II)I"⟩
def RX2 : String := "ShaftWinder$Rope"
def TX2 : u_T := fun k => match k with
  | 0 => ("ShaftWinder$Rope", "shaft", "LShaftWinder$Shaft;", true)
  | 1 => ("ShaftWinder$Rope", "load0", "I", false)
  | 2 => ("ShaftWinder$Rope", "load1", "I", false)
  | 3 => ("ShaftWinder$Rope", "weight", "I", false)
  | _ => ("ShaftWinder$Rope", "kept", "I", false)
def tyX2 : Nat → FieldType := fun k => match k with
  | 0 => .object "ShaftWinder$Shaft"
  | 1 => .int
  | 2 => .int
  | 3 => .int
  | _ => .int
theorem nmX2 : ∀ a, a < 5 → ∀ b, b < 5 → a ≠ b → (TX2 a).2.1 ≠ (TX2 b).2.1 := by decide +kernel
theorem tyX2_ok : ∀ k, k < 5 → parseFieldDescriptor (TX2 k).2.2.1 = some (tyX2 k) := by decide +kernel
abbrev cX2_init : ByteArray := prog_4_method_1_code
def yX2_init : MethodName := ⟨RX2, "<init>", "(LShaftWinder$Shaft;)V"⟩
abbrev cX2_slipsAt : ByteArray := prog_4_method_2_code
def yX2_slipsAt : MethodName := ⟨RX2, "slipsAt", "(III)Z"⟩
abbrev cX2_firstSlip : ByteArray := prog_4_method_3_code
def yX2_firstSlip : MethodName := ⟨RX2, "firstSlip", "(I[II)I"⟩
abbrev cX2_leastRatio : ByteArray := prog_4_method_4_code
def yX2_leastRatio : MethodName := ⟨RX2, "leastRatio", "(I[II)I"⟩
def RX3 : String := "ShaftWinder$Shaft"
def TX3 : u_T := fun k => match k with
  | 0 => ("ShaftWinder$Shaft", "deep", "I", false)
  | 1 => ("ShaftWinder$Shaft", "top", "I", false)
  | 2 => ("ShaftWinder$Shaft", "change", "I", false)
  | 3 => ("ShaftWinder$Shaft", "zones", "I", false)
  | _ => ("ShaftWinder$Shaft", "limits", "[I", true)
def tyX3 : Nat → FieldType := fun k => match k with
  | 0 => .int
  | 1 => .int
  | 2 => .int
  | 3 => .int
  | _ => .array .int
theorem nmX3 : ∀ a, a < 5 → ∀ b, b < 5 → a ≠ b → (TX3 a).2.1 ≠ (TX3 b).2.1 := by decide +kernel
theorem tyX3_ok : ∀ k, k < 5 → parseFieldDescriptor (TX3 k).2.2.1 = some (tyX3 k) := by decide +kernel
abbrev cX3_init : ByteArray := prog_5_method_1_code
def yX3_init : MethodName := ⟨RX3, "<init>", "()V"⟩
abbrev cX3_renew : ByteArray := prog_5_method_2_code
def yX3_renew : MethodName := ⟨RX3, "renew", "(III)V"⟩
abbrev cX3_has : ByteArray := prog_5_method_3_code
def yX3_has : MethodName := ⟨RX3, "has", "(I)Z"⟩
abbrev cX3_addZone : ByteArray := prog_5_method_4_code
def yX3_addZone : MethodName := ⟨RX3, "addZone", "(III)V"⟩
abbrev cX3_limitAt : ByteArray := prog_5_method_5_code
def yX3_limitAt : MethodName := ⟨RX3, "limitAt", "(I)I"⟩
abbrev cX3_greatestSpeed : ByteArray := prog_5_method_6_code
def yX3_greatestSpeed : MethodName := ⟨RX3, "greatestSpeed", "(II)I"⟩
abbrev cX3_allowsTick : ByteArray := prog_5_method_7_code
def yX3_allowsTick : MethodName := ⟨RX3, "allowsTick", "(III)Z"⟩
abbrev cX3_lawfulSpeeds : ByteArray := prog_5_method_8_code
def yX3_lawfulSpeeds : MethodName := ⟨RX3, "lawfulSpeeds", "(I[II)I"⟩
def RX4 : String := "ShaftWinder$Sheet"
def TX4 : u_T := fun k => match k with
  | 0 => ("ShaftWinder$Sheet", "items", "[I", true)
  | 1 => ("ShaftWinder$Sheet", "lost", "Z", false)
  | 2 => ("ShaftWinder$Sheet", "form", "I", false)
  | _ => ("ShaftWinder$Sheet", "size", "I", false)
def tyX4 : Nat → FieldType := fun k => match k with
  | 0 => .array .int
  | 1 => .boolean
  | 2 => .int
  | _ => .int
theorem nmX4 : ∀ a, a < 4 → ∀ b, b < 4 → a ≠ b → (TX4 a).2.1 ≠ (TX4 b).2.1 := by decide +kernel
theorem tyX4_ok : ∀ k, k < 4 → parseFieldDescriptor (TX4 k).2.2.1 = some (tyX4 k) := by decide +kernel
abbrev cX4_init : ByteArray := prog_6_method_1_code
def yX4_init : MethodName := ⟨RX4, "<init>", "()V"⟩
abbrev cX4_renew : ByteArray := prog_6_method_2_code
def yX4_renew : MethodName := ⟨RX4, "renew", "(II)V"⟩
abbrev cX4_hasItems : ByteArray := prog_6_method_3_code
def yX4_hasItems : MethodName := ⟨RX4, "hasItems", "(II)Z"⟩
abbrev cX4_store : ByteArray := prog_6_method_4_code
def yX4_store : MethodName := ⟨RX4, "store", "(II)V"⟩
def RX5 : String := "ShaftWinder$TickLog"
def TX5 : u_T := fun k => match k with
  | 0 => ("ShaftWinder$TickLog", "parts", "[I", true)
  | _ => ("ShaftWinder$TickLog", "noted", "I", false)
def tyX5 : Nat → FieldType := fun k => match k with
  | 0 => .array .int
  | _ => .int
theorem nmX5 : ∀ a, a < 2 → ∀ b, b < 2 → a ≠ b → (TX5 a).2.1 ≠ (TX5 b).2.1 := by decide +kernel
theorem tyX5_ok : ∀ k, k < 2 → parseFieldDescriptor (TX5 k).2.2.1 = some (tyX5 k) := by decide +kernel
abbrev cX5_init : ByteArray := prog_7_method_1_code
def yX5_init : MethodName := ⟨RX5, "<init>", "()V"⟩
abbrev cX5_size : ByteArray := prog_7_method_2_code
def yX5_size : MethodName := ⟨RX5, "size", "()I"⟩
abbrev cX5_note : ByteArray := prog_7_method_3_code
def yX5_note : MethodName := ⟨RX5, "note", "(III)V"⟩
abbrev cX5_latest : ByteArray := prog_7_method_4_code
def yX5_latest : MethodName := ⟨RX5, "latest", "(II)I"⟩
def RX6 : String := "ShaftWinder$Winding"
def TX6 : u_T := fun k => match k with
  | 0 => ("ShaftWinder$Winding", "shaft", "LShaftWinder$Shaft;", true)
  | 1 => ("ShaftWinder$Winding", "past", "LShaftWinder$TickLog;", true)
  | 2 => ("ShaftWinder$Winding", "linkOpen", "[Z", true)
  | 3 => ("ShaftWinder$Winding", "errors", "[I", true)
  | 4 => ("ShaftWinder$Winding", "ride", "[I", true)
  | 5 => ("ShaftWinder$Winding", "length", "I", false)
  | 6 => ("ShaftWinder$Winding", "ridden", "I", false)
  | 7 => ("ShaftWinder$Winding", "place", "I", false)
  | 8 => ("ShaftWinder$Winding", "speed", "I", false)
  | 9 => ("ShaftWinder$Winding", "how", "I", false)
  | 10 => ("ShaftWinder$Winding", "bell", "I", false)
  | 11 => ("ShaftWinder$Winding", "margin", "I", false)
  | 12 => ("ShaftWinder$Winding", "brake", "I", false)
  | 13 => ("ShaftWinder$Winding", "ended", "I", false)
  | _ => ("ShaftWinder$Winding", "braked", "I", false)
def tyX6 : Nat → FieldType := fun k => match k with
  | 0 => .object "ShaftWinder$Shaft"
  | 1 => .object "ShaftWinder$TickLog"
  | 2 => .array .boolean
  | 3 => .array .int
  | 4 => .array .int
  | 5 => .int
  | 6 => .int
  | 7 => .int
  | 8 => .int
  | 9 => .int
  | 10 => .int
  | 11 => .int
  | 12 => .int
  | 13 => .int
  | _ => .int
theorem nmX6 : ∀ a, a < 15 → ∀ b, b < 15 → a ≠ b → (TX6 a).2.1 ≠ (TX6 b).2.1 := by decide +kernel
theorem tyX6_ok : ∀ k, k < 15 → parseFieldDescriptor (TX6 k).2.2.1 = some (tyX6 k) := by decide +kernel
abbrev cX6_init : ByteArray := prog_8_method_1_code
def yX6_init : MethodName := ⟨RX6, "<init>", "(LShaftWinder$Shaft;)V"⟩
abbrev cX6_rests : ByteArray := prog_8_method_2_code
def yX6_rests : MethodName := ⟨RX6, "rests", "()Z"⟩
abbrev cX6_openLinks : ByteArray := prog_8_method_3_code
def yX6_openLinks : MethodName := ⟨RX6, "openLinks", "()I"⟩
abbrev cX6_told : ByteArray := prog_8_method_4_code
def yX6_told : MethodName := ⟨RX6, "told", "()I"⟩
abbrev cX6_ticksLeft : ByteArray := prog_8_method_5_code
def yX6_ticksLeft : MethodName := ⟨RX6, "ticksLeft", "()I"⟩
abbrev cX6_setOut : ByteArray := prog_8_method_6_code
def yX6_setOut : MethodName := ⟨RX6, "setOut", "(I)V"⟩
abbrev cX6_passTick : ByteArray := prog_8_method_7_code
def yX6_passTick : MethodName := ⟨RX6, "passTick", "()V"⟩
abbrev cX6_nextSpeed : ByteArray := prog_8_method_8_code
def yX6_nextSpeed : MethodName := ⟨RX6, "nextSpeed", "()I"⟩
abbrev cX6_mustBrake : ByteArray := prog_8_method_9_code
def yX6_mustBrake : MethodName := ⟨RX6, "mustBrake", "()Z"⟩
abbrev cX6_rideOn : ByteArray := prog_8_method_10_code
def yX6_rideOn : MethodName := ⟨RX6, "rideOn", "()V"⟩
abbrev cX6_slowDown : ByteArray := prog_8_method_11_code
def yX6_slowDown : MethodName := ⟨RX6, "slowDown", "()V"⟩
def RX7 : String := "ShaftWinder"
def TX7 : u_T := fun k => match k with
  | 0 => ("ShaftWinder", "shaft", "LShaftWinder$Shaft;", true)
  | 1 => ("ShaftWinder", "finder", "LShaftWinder$RideFinder;", true)
  | 2 => ("ShaftWinder", "winding", "LShaftWinder$Winding;", true)
  | 3 => ("ShaftWinder", "rope", "LShaftWinder$Rope;", true)
  | 4 => ("ShaftWinder", "book", "LShaftWinder$Book;", true)
  | 5 => ("ShaftWinder", "sheets", "[LShaftWinder$Sheet;", true)
  | 6 => ("ShaftWinder", "stopPlaces", "[I", true)
  | 7 => ("ShaftWinder", "stopCodes", "[I", true)
  | 8 => ("ShaftWinder", "stops", "I", false)
  | 9 => ("ShaftWinder", "latestFinding", "I", false)
  | _ => ("ShaftWinder", "asked", "[I", true)
def tyX7 : Nat → FieldType := fun k => match k with
  | 0 => .object "ShaftWinder$Shaft"
  | 1 => .object "ShaftWinder$RideFinder"
  | 2 => .object "ShaftWinder$Winding"
  | 3 => .object "ShaftWinder$Rope"
  | 4 => .object "ShaftWinder$Book"
  | 5 => .array (.object "ShaftWinder$Sheet")
  | 6 => .array .int
  | 7 => .array .int
  | 8 => .int
  | 9 => .int
  | _ => .array .int
theorem nmX7 : ∀ a, a < 11 → ∀ b, b < 11 → a ≠ b → (TX7 a).2.1 ≠ (TX7 b).2.1 := by decide +kernel
theorem tyX7_ok : ∀ k, k < 11 → parseFieldDescriptor (TX7 k).2.2.1 = some (tyX7 k) := by decide +kernel
abbrev cX7_init : ByteArray := prog_1_method_1_code
def yX7_init : MethodName := ⟨RX7, "<init>", "()V"⟩
abbrev cX7_shaft : ByteArray := prog_1_method_2_code
def yX7_shaft : MethodName := ⟨RX7, "shaft", "(III)I"⟩
abbrev cX7_zone : ByteArray := prog_1_method_3_code
def yX7_zone : MethodName := ⟨RX7, "zone", "(III)I"⟩
abbrev cX7_stop : ByteArray := prog_1_method_4_code
def yX7_stop : MethodName := ⟨RX7, "stop", "(II)I"⟩
abbrev cX7_most : ByteArray := prog_1_method_5_code
def yX7_most : MethodName := ⟨RX7, "most", "(II)I"⟩
abbrev cX7_ticks : ByteArray := prog_1_method_6_code
def yX7_ticks : MethodName := ⟨RX7, "ticks", "(I)I"⟩
abbrev cX7_speed : ByteArray := prog_1_method_7_code
def yX7_speed : MethodName := ⟨RX7, "speed", "(II)I"⟩
abbrev cX7_ring : ByteArray := prog_1_method_8_code
def yX7_ring : MethodName := ⟨RX7, "ring", "(I)I"⟩
abbrev cX7_link : ByteArray := prog_1_method_9_code
def yX7_link : MethodName := ⟨RX7, "link", "(IZ)I"⟩
abbrev cX7_error : ByteArray := prog_1_method_10_code
def yX7_error : MethodName := ⟨RX7, "error", "(II)I"⟩
abbrev cX7_guard : ByteArray := prog_1_method_11_code
def yX7_guard : MethodName := ⟨RX7, "guard", "(II)I"⟩
abbrev cX7_begin : ByteArray := prog_1_method_12_code
def yX7_begin : MethodName := ⟨RX7, "begin", "(I)I"⟩
abbrev cX7_pass : ByteArray := prog_1_method_13_code
def yX7_pass : MethodName := ⟨RX7, "pass", "(I)I"⟩
abbrev cX7_state : ByteArray := prog_1_method_14_code
def yX7_state : MethodName := ⟨RX7, "state", "(I)I"⟩
abbrev cX7_loads : ByteArray := prog_1_method_15_code
def yX7_loads : MethodName := ⟨RX7, "loads", "(III)I"⟩
abbrev cX7_ratio : ByteArray := prog_1_method_16_code
def yX7_ratio : MethodName := ⟨RX7, "ratio", "(I)I"⟩
abbrev cX7_slips : ByteArray := prog_1_method_17_code
def yX7_slips : MethodName := ⟨RX7, "slips", "(II)I"⟩
abbrev cX7_slipAt : ByteArray := prog_1_method_18_code
def yX7_slipAt : MethodName := ⟨RX7, "slipAt", "(I)I"⟩
abbrev cX7_hold : ByteArray := prog_1_method_19_code
def yX7_hold : MethodName := ⟨RX7, "hold", "(I)I"⟩
abbrev cX7_broken : ByteArray := prog_1_method_20_code
def yX7_broken : MethodName := ⟨RX7, "broken", "(II)I"⟩
abbrev cX7_worst : ByteArray := prog_1_method_21_code
def yX7_worst : MethodName := ⟨RX7, "worst", "(I)I"⟩
abbrev cX7_worstAt : ByteArray := prog_1_method_22_code
def yX7_worstAt : MethodName := ⟨RX7, "worstAt", "(I)I"⟩
abbrev cX7_cut : ByteArray := prog_1_method_23_code
def yX7_cut : MethodName := ⟨RX7, "cut", "(I)I"⟩
abbrev cX7_mend : ByteArray := prog_1_method_24_code
def yX7_mend : MethodName := ⟨RX7, "mend", "(II)I"⟩
abbrev cX7_shift : ByteArray := prog_1_method_25_code
def yX7_shift : MethodName := ⟨RX7, "shift", "(IIII)I"⟩
abbrev cX7_both : ByteArray := prog_1_method_26_code
def yX7_both : MethodName := ⟨RX7, "both", "(III)I"⟩
abbrev cX7_log : ByteArray := prog_1_method_27_code
def yX7_log : MethodName := ⟨RX7, "log", "(II)I"⟩
abbrev cX7_sheet : ByteArray := prog_1_method_28_code
def yX7_sheet : MethodName := ⟨RX7, "sheet", "(III)I"⟩
abbrev cX7_lose : ByteArray := prog_1_method_29_code
def yX7_lose : MethodName := ⟨RX7, "lose", "(I)I"⟩
abbrev cX7_put : ByteArray := prog_1_method_30_code
def yX7_put : MethodName := ⟨RX7, "put", "(IIII)I"⟩
abbrev cX7_get : ByteArray := prog_1_method_31_code
def yX7_get : MethodName := ⟨RX7, "get", "(III)I"⟩
abbrev cX7_copy : ByteArray := prog_1_method_32_code
def yX7_copy : MethodName := ⟨RX7, "copy", "(IIIII)I"⟩
abbrev cX7_read : ByteArray := prog_1_method_33_code
def yX7_read : MethodName := ⟨RX7, "read", "(I)I"⟩
abbrev cX7_write : ByteArray := prog_1_method_34_code
def yX7_write : MethodName := ⟨RX7, "write", "(II)I"⟩
abbrev cX7_plan : ByteArray := prog_1_method_35_code
def yX7_plan : MethodName := ⟨RX7, "plan", "(II)I"⟩
abbrev cX7_check : ByteArray := prog_1_method_36_code
def yX7_check : MethodName := ⟨RX7, "check", "(I)I"⟩
abbrev cX7_digest : ByteArray := prog_1_method_37_code
def yX7_digest : MethodName := ⟨RX7, "digest", "()J"⟩
abbrev cX7_within : ByteArray := prog_1_method_38_code
def yX7_within : MethodName := ⟨RX7, "within", "(III)Z"⟩
abbrev cX7_isSheet : ByteArray := prog_1_method_39_code
def yX7_isSheet : MethodName := ⟨RX7, "isSheet", "(I)Z"⟩
abbrev cX7_isForm : ByteArray := prog_1_method_40_code
def yX7_isForm : MethodName := ⟨RX7, "isForm", "(I)Z"⟩
abbrev cX7_areMen : ByteArray := prog_1_method_41_code
def yX7_areMen : MethodName := ⟨RX7, "areMen", "(III)Z"⟩
abbrev cX7_tripsFor : ByteArray := prog_1_method_42_code
def yX7_tripsFor : MethodName := ⟨RX7, "tripsFor", "(II)I"⟩
abbrev cX7_finding : ByteArray := prog_1_method_43_code
def yX7_finding : MethodName := ⟨RX7, "finding", "(I)I"⟩
abbrev cX7_wrongOfItem : ByteArray := prog_1_method_44_code
def yX7_wrongOfItem : MethodName := ⟨RX7, "wrongOfItem", "(LShaftWinder$Sheet;II)I"⟩
def RX8 : String := "ShaftWinderModel"
def TX8 : u_T := fun k => match k with
  | 0 => ("ShaftWinderModel", "deep", "I", false)
  | 1 => ("ShaftWinderModel", "top", "I", false)
  | 2 => ("ShaftWinderModel", "change", "I", false)
  | 3 => ("ShaftWinderModel", "zones", "I", false)
  | 4 => ("ShaftWinderModel", "zoneFrom", "[I", true)
  | 5 => ("ShaftWinderModel", "zoneTo", "[I", true)
  | 6 => ("ShaftWinderModel", "zoneSpeed", "[I", true)
  | 7 => ("ShaftWinderModel", "stops", "I", false)
  | 8 => ("ShaftWinderModel", "stopPlace", "[I", true)
  | 9 => ("ShaftWinderModel", "stopCode", "[I", true)
  | 10 => ("ShaftWinderModel", "place", "I", false)
  | 11 => ("ShaftWinderModel", "speed", "I", false)
  | 12 => ("ShaftWinderModel", "how", "I", false)
  | 13 => ("ShaftWinderModel", "bell", "I", false)
  | 14 => ("ShaftWinderModel", "isOpen", "[Z", true)
  | 15 => ("ShaftWinderModel", "errors", "[I", true)
  | 16 => ("ShaftWinderModel", "margin", "I", false)
  | 17 => ("ShaftWinderModel", "brake", "I", false)
  | 18 => ("ShaftWinderModel", "ticks", "I", false)
  | 19 => ("ShaftWinderModel", "ended", "I", false)
  | 20 => ("ShaftWinderModel", "braked", "I", false)
  | 21 => ("ShaftWinderModel", "ride", "[I", true)
  | 22 => ("ShaftWinderModel", "rideMany", "I", false)
  | 23 => ("ShaftWinderModel", "rideAt", "I", false)
  | 24 => ("ShaftWinderModel", "limits", "[I", true)
  | 25 => ("ShaftWinderModel", "left", "[I", true)
  | 26 => ("ShaftWinderModel", "queue", "[I", true)
  | 27 => ("ShaftWinderModel", "plan", "[I", true)
  | 28 => ("ShaftWinderModel", "logRows", "[I", true)
  | 29 => ("ShaftWinderModel", "load0", "I", false)
  | 30 => ("ShaftWinderModel", "load1", "I", false)
  | 31 => ("ShaftWinderModel", "weight", "I", false)
  | 32 => ("ShaftWinderModel", "ratio", "I", false)
  | 33 => ("ShaftWinderModel", "lays", "[I", true)
  | 34 => ("ShaftWinderModel", "isThere", "[Z", true)
  | 35 => ("ShaftWinderModel", "forms", "[I", true)
  | 36 => ("ShaftWinderModel", "sizes", "[I", true)
  | 37 => ("ShaftWinderModel", "items", "[I", true)
  | 38 => ("ShaftWinderModel", "moved", "[I", true)
  | _ => ("ShaftWinderModel", "finding", "I", false)
def tyX8 : Nat → FieldType := fun k => match k with
  | 0 => .int
  | 1 => .int
  | 2 => .int
  | 3 => .int
  | 4 => .array .int
  | 5 => .array .int
  | 6 => .array .int
  | 7 => .int
  | 8 => .array .int
  | 9 => .array .int
  | 10 => .int
  | 11 => .int
  | 12 => .int
  | 13 => .int
  | 14 => .array .boolean
  | 15 => .array .int
  | 16 => .int
  | 17 => .int
  | 18 => .int
  | 19 => .int
  | 20 => .int
  | 21 => .array .int
  | 22 => .int
  | 23 => .int
  | 24 => .array .int
  | 25 => .array .int
  | 26 => .array .int
  | 27 => .array .int
  | 28 => .array .int
  | 29 => .int
  | 30 => .int
  | 31 => .int
  | 32 => .int
  | 33 => .array .int
  | 34 => .array .boolean
  | 35 => .array .int
  | 36 => .array .int
  | 37 => .array .int
  | 38 => .array .int
  | _ => .int
theorem nmX8 : ∀ a, a < 40 → ∀ b, b < 40 → a ≠ b → (TX8 a).2.1 ≠ (TX8 b).2.1 := by decide +kernel
theorem tyX8_ok : ∀ k, k < 40 → parseFieldDescriptor (TX8 k).2.2.1 = some (tyX8 k) := by decide +kernel
abbrev cX8_init : ByteArray := prog_10_method_1_code
def yX8_init : MethodName := ⟨RX8, "<init>", "()V"⟩
abbrev cX8_in : ByteArray := prog_10_method_3_code
def yX8_in : MethodName := ⟨RX8, "in", "(III)Z"⟩
abbrev cX8_shaft : ByteArray := prog_10_method_4_code
def yX8_shaft : MethodName := ⟨RX8, "shaft", "(III)I"⟩
abbrev cX8_isPlace : ByteArray := prog_10_method_5_code
def yX8_isPlace : MethodName := ⟨RX8, "isPlace", "(I)Z"⟩
abbrev cX8_zone : ByteArray := prog_10_method_6_code
def yX8_zone : MethodName := ⟨RX8, "zone", "(III)I"⟩
abbrev cX8_stop : ByteArray := prog_10_method_7_code
def yX8_stop : MethodName := ⟨RX8, "stop", "(II)I"⟩
abbrev cX8_allowed : ByteArray := prog_10_method_8_code
def yX8_allowed : MethodName := ⟨RX8, "allowed", "(I)I"⟩
abbrev cX8_lookAtZones : ByteArray := prog_10_method_9_code
def yX8_lookAtZones : MethodName := ⟨RX8, "lookAtZones", "()V"⟩
abbrev cX8_isTick : ByteArray := prog_10_method_10_code
def yX8_isTick : MethodName := ⟨RX8, "isTick", "(II)Z"⟩
abbrev cX8_most : ByteArray := prog_10_method_11_code
def yX8_most : MethodName := ⟨RX8, "most", "(II)I"⟩
abbrev cX8_workBack : ByteArray := prog_10_method_12_code
def yX8_workBack : MethodName := ⟨RX8, "workBack", "(I)V"⟩
abbrev cX8_plans : ByteArray := prog_10_method_13_code
def yX8_plans : MethodName := ⟨RX8, "plans", "(II)I"⟩
abbrev cX8_goes : ByteArray := prog_10_method_14_code
def yX8_goes : MethodName := ⟨RX8, "goes", "(III)Z"⟩
abbrev cX8_ticks : ByteArray := prog_10_method_15_code
def yX8_ticks : MethodName := ⟨RX8, "ticks", "(I)I"⟩
abbrev cX8_speed : ByteArray := prog_10_method_16_code
def yX8_speed : MethodName := ⟨RX8, "speed", "(II)I"⟩
abbrev cX8_ring : ByteArray := prog_10_method_17_code
def yX8_ring : MethodName := ⟨RX8, "ring", "(I)I"⟩
abbrev cX8_link : ByteArray := prog_10_method_18_code
def yX8_link : MethodName := ⟨RX8, "link", "(IZ)I"⟩
abbrev cX8_error : ByteArray := prog_10_method_19_code
def yX8_error : MethodName := ⟨RX8, "error", "(II)I"⟩
abbrev cX8_guard : ByteArray := prog_10_method_20_code
def yX8_guard : MethodName := ⟨RX8, "guard", "(II)I"⟩
abbrev cX8_opens : ByteArray := prog_10_method_21_code
def yX8_opens : MethodName := ⟨RX8, "opens", "()I"⟩
abbrev cX8_told : ByteArray := prog_10_method_22_code
def yX8_told : MethodName := ⟨RX8, "told", "()I"⟩
abbrev cX8_begin : ByteArray := prog_10_method_23_code
def yX8_begin : MethodName := ⟨RX8, "begin", "(I)I"⟩
abbrev cX8_brakes : ByteArray := prog_10_method_24_code
def yX8_brakes : MethodName := ⟨RX8, "brakes", "()V"⟩
abbrev cX8_rides : ByteArray := prog_10_method_25_code
def yX8_rides : MethodName := ⟨RX8, "rides", "()V"⟩
abbrev cX8_pass : ByteArray := prog_10_method_26_code
def yX8_pass : MethodName := ⟨RX8, "pass", "(I)I"⟩
abbrev cX8_state : ByteArray := prog_10_method_27_code
def yX8_state : MethodName := ⟨RX8, "state", "(I)I"⟩
abbrev cX8_loads : ByteArray := prog_10_method_28_code
def yX8_loads : MethodName := ⟨RX8, "loads", "(III)I"⟩
abbrev cX8_ratio : ByteArray := prog_10_method_29_code
def yX8_ratio : MethodName := ⟨RX8, "ratio", "(I)I"⟩
abbrev cX8_isSlipping : ByteArray := prog_10_method_30_code
def yX8_isSlipping : MethodName := ⟨RX8, "isSlipping", "(III)Z"⟩
abbrev cX8_slips : ByteArray := prog_10_method_31_code
def yX8_slips : MethodName := ⟨RX8, "slips", "(II)I"⟩
abbrev cX8_firstSlip : ByteArray := prog_10_method_32_code
def yX8_firstSlip : MethodName := ⟨RX8, "firstSlip", "(III)I"⟩
abbrev cX8_slipAt : ByteArray := prog_10_method_33_code
def yX8_slipAt : MethodName := ⟨RX8, "slipAt", "(I)I"⟩
abbrev cX8_hold : ByteArray := prog_10_method_34_code
def yX8_hold : MethodName := ⟨RX8, "hold", "(I)I"⟩
abbrev cX8_broken : ByteArray := prog_10_method_35_code
def yX8_broken : MethodName := ⟨RX8, "broken", "(II)I"⟩
abbrev cX8_worstFrom : ByteArray := prog_10_method_36_code
def yX8_worstFrom : MethodName := ⟨RX8, "worstFrom", "(II)I"⟩
abbrev cX8_sumOf : ByteArray := prog_10_method_37_code
def yX8_sumOf : MethodName := ⟨RX8, "sumOf", "(II)I"⟩
abbrev cX8_worst : ByteArray := prog_10_method_38_code
def yX8_worst : MethodName := ⟨RX8, "worst", "(I)I"⟩
abbrev cX8_worstAt : ByteArray := prog_10_method_39_code
def yX8_worstAt : MethodName := ⟨RX8, "worstAt", "(I)I"⟩
abbrev cX8_cut : ByteArray := prog_10_method_40_code
def yX8_cut : MethodName := ⟨RX8, "cut", "(I)I"⟩
abbrev cX8_mend : ByteArray := prog_10_method_41_code
def yX8_mend : MethodName := ⟨RX8, "mend", "(II)I"⟩
abbrev cX8_areMen : ByteArray := prog_10_method_42_code
def yX8_areMen : MethodName := ⟨RX8, "areMen", "(III)Z"⟩
abbrev cX8_shift : ByteArray := prog_10_method_43_code
def yX8_shift : MethodName := ⟨RX8, "shift", "(IIII)I"⟩
abbrev cX8_both : ByteArray := prog_10_method_44_code
def yX8_both : MethodName := ⟨RX8, "both", "(III)I"⟩
abbrev cX8_logged : ByteArray := prog_10_method_45_code
def yX8_logged : MethodName := ⟨RX8, "logged", "()I"⟩
abbrev cX8_log : ByteArray := prog_10_method_46_code
def yX8_log : MethodName := ⟨RX8, "log", "(II)I"⟩
abbrev cX8_meets : ByteArray := prog_10_method_47_code
def yX8_meets : MethodName := ⟨RX8, "meets", "(I)I"⟩
abbrev cX8_isSheet : ByteArray := prog_10_method_48_code
def yX8_isSheet : MethodName := ⟨RX8, "isSheet", "(I)Z"⟩
abbrev cX8_sheet : ByteArray := prog_10_method_49_code
def yX8_sheet : MethodName := ⟨RX8, "sheet", "(III)I"⟩
abbrev cX8_lose : ByteArray := prog_10_method_50_code
def yX8_lose : MethodName := ⟨RX8, "lose", "(I)I"⟩
abbrev cX8_lacks : ByteArray := prog_10_method_51_code
def yX8_lacks : MethodName := ⟨RX8, "lacks", "(III)I"⟩
abbrev cX8_lay : ByteArray := prog_10_method_52_code
def yX8_lay : MethodName := ⟨RX8, "lay", "(III)V"⟩
abbrev cX8_put : ByteArray := prog_10_method_53_code
def yX8_put : MethodName := ⟨RX8, "put", "(IIII)I"⟩
abbrev cX8_get : ByteArray := prog_10_method_54_code
def yX8_get : MethodName := ⟨RX8, "get", "(III)I"⟩
abbrev cX8_copy : ByteArray := prog_10_method_55_code
def yX8_copy : MethodName := ⟨RX8, "copy", "(IIIII)I"⟩
abbrev cX8_read : ByteArray := prog_10_method_56_code
def yX8_read : MethodName := ⟨RX8, "read", "(I)I"⟩
abbrev cX8_write : ByteArray := prog_10_method_57_code
def yX8_write : MethodName := ⟨RX8, "write", "(II)I"⟩
abbrev cX8_plan : ByteArray := prog_10_method_58_code
def yX8_plan : MethodName := ⟨RX8, "plan", "(II)I"⟩
abbrev cX8_check : ByteArray := prog_10_method_59_code
def yX8_check : MethodName := ⟨RX8, "check", "(I)I"⟩
abbrev cX8_fits : ByteArray := prog_10_method_60_code
def yX8_fits : MethodName := ⟨RX8, "fits", "(III)Z"⟩
abbrev cX8_digest : ByteArray := prog_10_method_61_code
def yX8_digest : MethodName := ⟨RX8, "digest", "()J"⟩
def RJ9 : String := "java/lang/Math"
def TJ9 : u_T := fun k => match k with
  | _ => ("", "", "", false)
def tyJ9 : Nat → FieldType := fun k => match k with
  | _ => .int
abbrev wsJ90 : List Cond := u_ws RJ9 TJ9 0
theorem nmJ9 : ∀ a, a < 0 → ∀ b, b < 0 → a ≠ b → (TJ9 a).2.1 ≠ (TJ9 b).2.1 := by decide +kernel
theorem tyJ9_ok : ∀ k, k < 0 → parseFieldDescriptor (TJ9 k).2.2.1 = some (tyJ9 k) := by decide +kernel
abbrev cJ9_floorMod_7cf53 : ByteArray := prog_11_method_50_code
def yJ9_floorMod_7cf53 : MethodName := ⟨RJ9, "floorMod", "(II)I"⟩
abbrev cJ9_abs_0f7a4 : ByteArray := prog_11_method_59_code
def yJ9_abs_0f7a4 : MethodName := ⟨RJ9, "abs", "(I)I"⟩
abbrev cJ9_max_7cf53 : ByteArray := prog_11_method_65_code
def yJ9_max_7cf53 : MethodName := ⟨RJ9, "max", "(II)I"⟩
abbrev cJ9_min_7cf53 : ByteArray := prog_11_method_69_code
def yJ9_min_7cf53 : MethodName := ⟨RJ9, "min", "(II)I"⟩
def RJ10 : String := "java/lang/System"
def TJ10 : u_T := fun k => match k with
  | _ => ("", "", "", false)
def tyJ10 : Nat → FieldType := fun k => match k with
  | _ => .int
abbrev wsJ100 : List Cond := u_ws RJ10 TJ10 0
theorem nmJ10 : ∀ a, a < 0 → ∀ b, b < 0 → a ≠ b → (TJ10 a).2.1 ≠ (TJ10 b).2.1 := by decide +kernel
theorem tyJ10_ok : ∀ k, k < 0 → parseFieldDescriptor (TJ10 k).2.2.1 = some (tyJ10 k) := by decide +kernel
def RJ7 : String := "java/util/Arrays"
def TJ7 : u_T := fun k => match k with
  | _ => ("", "", "", false)
def tyJ7 : Nat → FieldType := fun k => match k with
  | _ => .int
abbrev wsJ70 : List Cond := u_ws RJ7 TJ7 0
theorem nmJ7 : ∀ a, a < 0 → ∀ b, b < 0 → a ≠ b → (TJ7 a).2.1 ≠ (TJ7 b).2.1 := by decide +kernel
theorem tyJ7_ok : ∀ k, k < 0 → parseFieldDescriptor (TJ7 k).2.2.1 = some (tyJ7 k) := by decide +kernel
abbrev cJ7_fill_53178 : ByteArray := prog_13_method_103_code
def yJ7_fill_53178 : MethodName := ⟨RJ7, "fill", "([II)V"⟩
def RL : String := "ShaftWinderLaw"
abbrev cL_law : ByteArray := code
def yL_law : MethodName := ⟨RL, "law", "([I)Z"⟩
end
section
/-! THE PLAIN MACHINE: values are whole numbers (Int), longs (Int) and places of cells (Nat); the cells and where they refer to are fixed; a state of the heap is a table of numbers. -/
abbrev sw_Vl : Type := Int ⊕ Int ⊕ Nat
abbrev sw_L : Type := List (Nat × sw_Vl)
abbrev sw_S : Type := Nat → Nat → Int
abbrev sw_Rf : Type := Nat → Nat → Option Nat
abbrev sw_I : Type := Instr × Nat × Nat × Int
abbrev sw_M : Type := MethodName × ByteArray × Nat × Option FieldType × Nat × Nat
abbrev sw_C3 : Type := ClassId × ClassId × ClassId
abbrev sw_Ly : Type := List (Nat × Nat)
abbrev sw_cl : List vw_C := [(RX0, TX0, 1), (RX1, TX1, 5), (RX2, TX2, 5), (RX3, TX3, 5), (RX4, TX4, 4), (RX5, TX5, 2), (RX6, TX6, 15), (RX7, TX7, 11), (RX8, TX8, 40)]
/-- the words of the tables that stay as they are -/
def sw_tb : List Cond := lw_tbl.filter goodWord
def sw_tv (ad : Nat → Nat) : sw_Vl → Value
  | .inl x => .int (Int32.ofInt x)
  | .inr (.inl x) => .long (Int64.ofInt x)
  | .inr (.inr a) => .ref (ad a)
def sw_cat : sw_Vl → Nat
  | .inl _ => 1
  | .inr (.inl _) => 2
  | .inr (.inr _) => 1
theorem sw_tv_cat (ad : Nat → Nat) (v : sw_Vl) : (sw_tv ad v).category = sw_cat v := by rcases v with x | x | a <;> rfl
def sw_tl (ad : Nat → Nat) (L : sw_L) : List (Nat × Value) := L.map fun q => (q.1, sw_tv ad q.2)
def sw_N (a : Nat) : Nat := match sw_cl[a]? with
  | some r => r.2.2
  | none => 0
def sw_fv (ad : Nat → Nat) (r : Option Nat) (x : Int) : Value := match r with
  | some a => .ref (ad a)
  | none => .int (Int32.ofInt x)
def sw_ce (c3 : sw_C3) (ad : Nat → Nat) (ρ : sw_Rf) (σ : sw_S) (i : Nat) (k : Nat × Nat) : va_E :=
  if k.1 = 100 then .inl (c3.1, k.2, .inl fun j => Int32.ofInt (σ i j))
  else if k.1 = 101 then .inl (c3.2.1, k.2, .inl fun j => Int32.ofInt (σ i j))
  else if k.1 = 102 then .inl (c3.2.2, k.2, .inr (.inr (.inr (.inr fun j => (ρ i j).map ad))))
  else .inr (k.1, (List.range (sw_N k.1)).map fun j => sw_fv ad (ρ i j) (σ i j))
def sw_wl (c3 : sw_C3) (ad : Nat → Nat) (ly : sw_Ly) (ρ : sw_Rf) (σ : sw_S) : va_W := ly.mapIdx fun i k => (ad i, sw_ce c3 ad ρ σ i k)
theorem sw_wl_at {c3 : sw_C3} {ad : Nat → Nat} {ly : sw_Ly} {ρ : sw_Rf} {σ : sw_S} {i : Nat} {k : Nat × Nat} (h : ly[i]? = some k) : (sw_wl c3 ad ly ρ σ)[i]? = some (ad i, sw_ce c3 ad ρ σ i k) := by
  simp [sw_wl, h]
theorem sw_ce_cong {c3 : sw_C3} {ad : Nat → Nat} {ρ : sw_Rf} {σ σ' : sw_S} {i : Nat} {k : Nat × Nat} (h : ∀ j, σ' i j = σ i j) : sw_ce c3 ad ρ σ' i k = sw_ce c3 ad ρ σ i k := by
  unfold sw_ce
  simp only [h]
def sw_u (σ : sw_S) (i j : Nat) (v : Int) : sw_S := fun a b => if a = i ∧ b = j then v else σ a b
theorem sw_u_same (σ : sw_S) (i j : Nat) (v : Int) : sw_u σ i j v i j = v := by simp [sw_u]
theorem sw_u_ne (σ : sw_S) {i j a b : Nat} (v : Int) (h : ¬ (a = i ∧ b = j)) : sw_u σ i j v a b = σ a b := by simp [sw_u, h]
theorem sw_u_row (σ : sw_S) {i j a b : Nat} (v : Int) (h : a ≠ i) : sw_u σ i j v a b = σ a b := sw_u_ne σ v (fun q => h q.1)
theorem sw_wl_set {c3 : sw_C3} {ad : Nat → Nat} {ly : sw_Ly} {ρ : sw_Rf} {σ σ' : sw_S} {i : Nat} {k : Nat × Nat} (h : ly[i]? = some k) (ho : ∀ a b, a ≠ i → σ' a b = σ a b) : (sw_wl c3 ad ly ρ σ).set i (ad i, sw_ce c3 ad ρ σ' i k) = sw_wl c3 ad ly ρ σ' := by
  apply List.ext_getElem?
  intro n
  have hi : i < ly.length := (List.getElem?_eq_some_iff.mp h).1
  by_cases hn : n = i
  · subst hn
    rw [List.getElem?_set_self (by simpa [sw_wl] using hi), sw_wl_at h]
  · rw [List.getElem?_set_ne (Ne.symm hn)]
    cases hk : ly[n]? with
    | none => simp [sw_wl, hk]
    | some k' => rw [sw_wl_at hk, sw_wl_at hk, sw_ce_cong (fun j => ho n j hn)]
def sw_A (ad : Nat → Nat) (n sz : Nat) : Nat → Prop := fun q => (∃ i, i < n ∧ q = ad i) ∨ sz ≤ q
def sw_inj (ad : Nat → Nat) (n : Nat) : Prop := ∀ i j, i < n → j < n → ad i = ad j → i = j
theorem sw_D {c3 : sw_C3} {ad : Nat → Nat} {ly : sw_Ly} {ρ : sw_Rf} {σ : sw_S} {sz : Nat} (hj : sw_inj ad ly.length) : va_D (sw_A ad ly.length sz) (sw_wl c3 ad ly ρ σ) := by
  have key : ∀ (k : Nat) (q : Nat × va_E), (sw_wl c3 ad ly ρ σ)[k]? = some q → k < ly.length ∧ q.1 = ad k := by
    intro k q hk
    cases h : ly[k]? with
    | none => simp [sw_wl, h] at hk
    | some kd =>
      rw [sw_wl_at h] at hk
      cases hk
      exact ⟨(List.getElem?_eq_some_iff.mp h).1, rfl⟩
  refine ⟨fun i j x y hx hy hxy => ?_, fun k q hk => ?_⟩
  · obtain ⟨h1, e1⟩ := key i x hx
    obtain ⟨h2, e2⟩ := key j y hy
    exact hj i j h1 h2 (by rw [← e1, ← e2, hxy])
  · obtain ⟨h1, e1⟩ := key k q hk
    exact Or.inl ⟨k, h1, e1⟩
abbrev sw_tys (c3 : sw_C3) : List (ClassId × FieldType) := [(c3.1, .int), (c3.2.1, .boolean), (c3.2.2, .object "ShaftWinder$Sheet")]
def sw_ws (M : sw_M) : List Cond := Cond.code M.1 M.2.1 M.2.2.1 M.2.2.2.1 :: sw_tb
def sw_rm (M : sw_M) : Room := { frames := M.2.2.2.2.1, cells := 0, slots := 0, locals := M.2.2.2.2.2 }
def sw_Qc (D : va_G) (c3 : sw_C3) (ad : Nat → Nat) (ly : sw_Ly) (ρ : sw_Rf) (Q : Option sw_Vl → sw_S → Prop) (A : Nat → Prop) : Array Value → State → Outcome → State → Prop := fun _ st oc t =>
  (∃ (r : Option sw_Vl) (σ' : sw_S), oc = .returned (r.map (sw_tv ad)) ∧ Q r σ' ∧ va_P D sw_cl (sw_wl c3 ad ly ρ σ') t.heap ∧ va_K D sw_cl (sw_tys c3) t) ∧ va_F A st t
def sw_Pc (D : va_G) (c3 : sw_C3) (ad : Nat → Nat) (ly : sw_Ly) (ρ : sw_Rf) (σ : sw_S) (args : List sw_Vl) (sz : Nat) : Array Value → State → Prop := va_Pc (args.map (sw_tv ad)) (fun U => U.heap.size = sz ∧ va_P D sw_cl (sw_wl c3 ad ly ρ σ) U.heap ∧ va_K D sw_cl (sw_tys c3) U)
/-- THE CONTRACT of a method over the plain machine: from these numbers it returns, and Q holds of its answer and the numbers behind it -/
def sw_Con (ly : sw_Ly) (ρ : sw_Rf) (M : sw_M) (args : List sw_Vl) (σ : sw_S) (Q : Option sw_Vl → sw_S → Prop) : Prop :=
  ∀ (l : Launch) (D : va_G) (c3 : sw_C3) (ad : Nat → Nat) (sz : Nat), sw_inj ad ly.length → Met l M.1 (sw_ws M) (sw_rm M) (sw_Pc D c3 ad ly ρ σ args sz) (sw_Qc D c3 ad ly ρ Q (sw_A ad ly.length sz)) 0 0 (sw_A ad ly.length sz)
def sw_CX (M : sw_M) (D : va_G) (c3 : sw_C3) (ad : Nat → Nat) (n : Nat) (p : Program) (s : State) (m : MethodId) (args : Array Value) (meth : Method) (c : Code) : Prop :=
  p.tables.exec = Jvm.exec ∧ c.code = M.2.1 ∧ meth.sig.returnType = M.2.2.2.1 ∧ c.maxLocals = M.2.2.1 ∧ s.vm.findClass M.1.cls = some m.cls ∧ (∀ w ∈ sw_tb, w.before args s = true) ∧ meth.locks = false ∧ va_K D sw_cl (sw_tys c3) s ∧ sw_inj ad n
/-- within a method: from this place, with these locals, this stack and these numbers, it comes to its end with Q -/
def sw_E (ly : sw_Ly) (ρ : sw_Rf) (M : sw_M) (pc : Nat) (L : sw_L) (st : List sw_Vl) (σ : sw_S) (Q : Option sw_Vl → sw_S → Prop) : Prop :=
  ∀ (l : Launch) (D : va_G) (c3 : sw_C3) (ad : Nat → Nat) (p : Program) (e : Env) (s : State) (m : MethodId) (args : Array Value) (below : List Frame) (meth : Method) (c : Code) (H : Heap) (locs : List Loc) (ls : Array Slot),
    sw_CX M D c3 ad ly.length p s m args meth c → va_P D sw_cl (sw_wl c3 ad ly ρ σ) H → va_S (sw_A ad ly.length s.heap.size) s.heap H locs → lv_has ls M.2.2.1 (sw_tl ad L) →
    W p l e (sw_rm M) s m args below meth c H locs 0 0 (MQ below (sw_Qc D c3 ad ly ρ Q (sw_A ad ly.length s.heap.size)) args s 0 0 (sw_A ad ly.length s.heap.size)) (F0 m pc ls (st.map (sw_tv ad)))
def sw_L0 : Nat → List sw_Vl → sw_L
  | _, [] => []
  | i, v :: vs => (i, v) :: sw_L0 (if sw_cat v = 2 then i + 2 else i + 1) vs
theorem sw_L0_tl (ad : Nat → Nat) : ∀ (vs : List sw_Vl) (i : Nat), lv_args i (vs.map (sw_tv ad)) = sw_tl ad (sw_L0 i vs)
  | [], _ => rfl
  | v :: vs, i => by
    have h := sw_L0_tl ad vs (if sw_cat v = 2 then i + 2 else i + 1)
    simp only [List.map_cons, lv_args, sw_L0, sw_tl, sw_tv_cat] at h ⊢
    rw [h]
def sw_wd : List sw_Vl → Nat
  | [] => 0
  | v :: vs => sw_cat v + sw_wd vs
theorem sw_wd_sl (ad : Nat → Nat) : ∀ (vs : List sw_Vl), (lg_sl (vs.map (sw_tv ad))).length = sw_wd vs
  | [] => rfl
  | v :: vs => by
    have h := sw_wd_sl ad vs
    have hc := sw_tv_cat ad v
    simp only [lg_sl, List.map_cons, List.flatMap_cons, List.length_append, sw_wd] at h ⊢
    rw [h]
    rcases v with x | x | a <;> simp [sw_tv, sw_cat, Value.category]
theorem sw_con {ly : sw_Ly} {ρ : sw_Rf} {M : sw_M} {args : List sw_Vl} {σ : sw_S} {Q : Option sw_Vl → sw_S → Prop} (hy : plainName M.1.cls = true) (hw : sw_wd args ≤ M.2.2.1) (hE : sw_E ly ρ M 0 (sw_L0 0 args) [] σ Q) : sw_Con ly ρ M args σ Q := by
  intro l D c3 ad sz hj
  refine Met.ofW (cc := M.2.1) (maxL := M.2.2.1) (ret := M.2.2.2.1) hy rfl ?_
  intro p e s m args' below meth c s₁ B hml hv
  obtain ⟨rfl, hsz, hP, hK⟩ := hv
  subst hsz
  have hts := atoms_spec (ws := sw_ws M) B.pre
  rw [lg_entry_eq]
  have hl := lv_entry (args.map (sw_tv ad)) (n := M.2.2.1) (by rw [sw_wd_sl]; exact hw)
  rw [sw_L0_tl] at hl
  exact hE l D c3 ad p e s m _ below meth c s.heap [] _ ⟨B.exec, B.bytes, B.returns, hml, findClass_of_methodNamed B.named, fun w hw => hts w (List.mem_cons_of_mem _ hw), B.notSynchronized, hK, hj⟩ hP va_S.rf hl
/-- numbers within the ints -/
abbrev sw_g (x : Int) : Prop := -2147483648 ≤ x ∧ x < 2147483648
theorem sw_ti {x : Int} (h : sw_g x) : (Int32.ofInt x).toInt = x := Int32.toInt_ofInt_of_le (by have := h.1; omega) (by have := h.2; omega)
theorem sw_lt {x y : Int} (hx : sw_g x) (hy : sw_g y) : Int32.ofInt x < Int32.ofInt y ↔ x < y := by rw [Int32.lt_iff_toInt_lt, sw_ti hx, sw_ti hy]
theorem sw_le {x y : Int} (hx : sw_g x) (hy : sw_g y) : Int32.ofInt x ≤ Int32.ofInt y ↔ x ≤ y := by rw [Int32.le_iff_toInt_le, sw_ti hx, sw_ti hy]
theorem sw_eq {x y : Int} (hx : sw_g x) (hy : sw_g y) : Int32.ofInt x = Int32.ofInt y ↔ x = y := by rw [← Int32.toInt_inj, sw_ti hx, sw_ti hy]
theorem sw_g0 : sw_g 0 := ⟨by decide, by decide⟩
theorem sw_of0 : Int32.ofInt 0 = 0 := rfl
theorem sw_ix {x : Int} {n : Nat} (h0 : 0 ≤ x) (hn : x < n) (hg : (n : Int) ≤ 2147483648) : vp_in (Int32.ofInt x) n ∧ (Int32.ofInt x).toNatClampNeg = x.toNat := by
  have hx : sw_g x := ⟨by omega, by omega⟩
  have e : (Int32.ofInt x).toNatClampNeg = x.toNat := by
    show (Int32.ofInt x).toInt.toNat = _
    rw [sw_ti hx]
  refine ⟨?_, e⟩
  rw [vp_in_iff, sw_ti hx]
  exact ⟨h0, hn⟩
end
section
def sw_len (x : sw_I) : Nat := match x.1 with
  | .bipush _ => 2
  | .iload _ => 2
  | .aload _ => 2
  | .lload _ => 2
  | .istore _ => 2
  | .astore _ => 2
  | .lstore _ => 2
  | .ldc _ => 2
  | .sipush _ => 3
  | .ldc2_w _ => 3
  | .iinc _ _ => 3
  | .goto _ => 3
  | .if_icmp _ _ => 3
  | .ifCond _ _ => 3
  | .getfield _ => 3
  | .putfield _ => 3
  | .invokestatic _ => 3
  | .invokevirtual _ => 3
  | .invokespecial _ => 3
  | .tableswitch _ _ _ _ => x.2.1
  | .lookupswitch _ _ => x.2.1
  | _ => 1
def sw_okf (own : String) (idx a b : Nat) : Bool := match sw_cl[a]? with
  | some r => decide (b < r.2.2) && decide (Cond.fieldLink own idx (r.2.1 b).1 (r.2.1 b).2.1 (r.2.1 b).2.2.1 ∈ sw_tb)
  | none => false
def sw_okp (a b : Nat) (z : Int) : Bool := match sw_cl[a]? with
  | some r => !(r.2.1 b).2.2.2 && (decide ((r.2.1 b).2.2.1 = "I") || (decide ((r.2.1 b).2.2.1 = "Z") && decide (z = 1)))
  | none => false
def sw_ok2 (own : String) (x : sw_I) : Bool := match x.1 with
  | .bipush n => decide ((Int8.ofInt n).toInt32 = Int32.ofInt x.2.2.2)
  | .sipush n => decide ((Int16.ofInt n).toInt32 = Int32.ofInt x.2.2.2)
  | .ldc idx => decide (Cond.constant own idx (Int32.ofInt x.2.2.2) ∈ sw_tb)
  | .ldc2_w idx => decide (Cond.constantLong own idx (Int64.ofInt x.2.2.2) ∈ sw_tb)
  | .getfield idx => sw_okf own idx x.2.1 x.2.2.1
  | .putfield idx => sw_okf own idx x.2.1 x.2.2.1 && sw_okp x.2.1 x.2.2.1 x.2.2.2
  | _ => true
def sw_ok1 (own : String) (cc : ByteArray) (pc : Nat) (x : sw_I) : Bool := decide (decode cc pc = .ok (x.1, sw_len x)) && sw_ok2 own x
def sw_ok : String → ByteArray → Nat → List (Option sw_I) → Bool
  | _, _, _, [] => true
  | own, cc, pc, none :: r => sw_ok own cc (pc + 1) r
  | own, cc, pc, some x :: r => sw_ok1 own cc pc x && sw_ok own cc (pc + 1) r
theorem sw_ok_at {own : String} {cc : ByteArray} : ∀ {I : List (Option sw_I)} {p0 pc : Nat} {x : sw_I}, sw_ok own cc p0 I = true → I[pc]? = some (some x) → sw_ok1 own cc (p0 + pc) x = true
  | [], _, _, _, _, h => by simp at h
  | none :: r, p0, 0, x, _, h => by simp at h
  | none :: r, p0, pc + 1, x, hk, h => by
    have := sw_ok_at (I := r) (p0 := p0 + 1) (pc := pc) (x := x) (by simpa [sw_ok] using hk) (by simpa using h)
    rw [show p0 + (pc + 1) = p0 + 1 + pc by omega]; exact this
  | some y :: r, p0, 0, x, hk, h => by
    simp only [List.getElem?_cons_zero, Option.some.injEq] at h
    subst h
    simp only [sw_ok, Bool.and_eq_true] at hk
    exact hk.1
  | some y :: r, p0, pc + 1, x, hk, h => by
    simp only [sw_ok, Bool.and_eq_true] at hk
    have := sw_ok_at (I := r) (p0 := p0 + 1) (pc := pc) (x := x) hk.2 (by simpa using h)
    rw [show p0 + (pc + 1) = p0 + 1 + pc by omega]; exact this
def sw_Ok (M : sw_M) (I : List (Option sw_I)) : Prop := sw_ok M.1.cls M.2.1 0 I = true
theorem sw_dec {M : sw_M} {I : List (Option sw_I)} {pc : Nat} {x : sw_I} (hI : sw_Ok M I) (h : I[pc]? = some (some x)) : decode M.2.1 pc = .ok (x.1, sw_len x) ∧ sw_ok2 M.1.cls x = true := by
  have h1 := sw_ok_at hI h
  simp only [sw_ok1, Bool.and_eq_true, decide_eq_true_eq, Nat.zero_add] at h1
  exact h1
/-- each class's words -/
theorem sw_clf : ∀ (a : Nat) (r : vw_C), sw_cl[a]? = some r → (∀ w ∈ u_ws r.1 r.2.1 r.2.2, w ∈ sw_tb) ∧ (∃ ty0 : Nat → FieldType, ∀ k, k < r.2.2 → parseFieldDescriptor (r.2.1 k).2.2.1 = some (ty0 k)) ∧ (∀ a, a < r.2.2 → ∀ b, b < r.2.2 → a ≠ b → (r.2.1 a).2.1 ≠ (r.2.1 b).2.1)
  | 0, r, h => by cases h; exact ⟨by decide +kernel, ⟨_, tyX0_ok⟩, nmX0⟩
  | 1, r, h => by cases h; exact ⟨by decide +kernel, ⟨_, tyX1_ok⟩, nmX1⟩
  | 2, r, h => by cases h; exact ⟨by decide +kernel, ⟨_, tyX2_ok⟩, nmX2⟩
  | 3, r, h => by cases h; exact ⟨by decide +kernel, ⟨_, tyX3_ok⟩, nmX3⟩
  | 4, r, h => by cases h; exact ⟨by decide +kernel, ⟨_, tyX4_ok⟩, nmX4⟩
  | 5, r, h => by cases h; exact ⟨by decide +kernel, ⟨_, tyX5_ok⟩, nmX5⟩
  | 6, r, h => by cases h; exact ⟨by decide +kernel, ⟨_, tyX6_ok⟩, nmX6⟩
  | 7, r, h => by cases h; exact ⟨by decide +kernel, ⟨_, tyX7_ok⟩, nmX7⟩
  | 8, r, h => by cases h; exact ⟨by decide +kernel, ⟨_, tyX8_ok⟩, nmX8⟩
  | n + 9, r, h => by simp at h
/-! locals -/
def sw_lk (L : sw_L) (k : Nat) : Option sw_Vl := match L with
  | [] => none
  | q :: r => if q.1 = k then some q.2 else sw_lk r k
theorem sw_lk_mem {k : Nat} {v : sw_Vl} : ∀ {L : sw_L}, sw_lk L k = some v → (k, v) ∈ L
  | [], h => by simp [sw_lk] at h
  | q :: r, h => by
    unfold sw_lk at h
    split at h
    · next e => cases h; subst e; exact List.mem_cons_self
    · exact List.mem_cons_of_mem _ (sw_lk_mem h)
theorem sw_lk_at {ad : Nat → Nat} {ls : Array Slot} {n : Nat} {L : sw_L} {k : Nat} {v : sw_Vl} (h : lv_has ls n (sw_tl ad L)) (hk : sw_lk L k = some v) : ls[k]? = some (.val (sw_tv ad v)) :=
  h.2.2 (k, sw_tv ad v) (List.mem_map.mpr ⟨(k, v), sw_lk_mem hk, rfl⟩)
def sw_p1 (L : sw_L) (k : Nat) (v : sw_Vl) : sw_L := (k, v) :: L.filter fun q => !(q.1 == k) && !(q.1 + 1 == k && sw_cat q.2 == 2)
def sw_p2 (L : sw_L) (k : Nat) (v : sw_Vl) : sw_L := (k, v) :: L.filter fun q => !(q.1 == k) && (!(q.1 == k + 1) && !(q.1 + 1 == k && sw_cat q.2 == 2))
theorem sw_p1_tl (ad : Nat → Nat) (L : sw_L) (k : Nat) (v : sw_Vl) : (k, sw_tv ad v) :: (sw_tl ad L).filter (fun q => !(q.1 == k) && !(q.1 + 1 == k && q.2.category == 2)) = sw_tl ad (sw_p1 L k v) := by
  simp only [sw_p1, sw_tl, List.map_cons, List.filter_map]
  congr 3
  funext q
  simp only [Function.comp, sw_tv_cat]
theorem sw_p2_tl (ad : Nat → Nat) (L : sw_L) (k : Nat) (v : sw_Vl) : (k, sw_tv ad v) :: (sw_tl ad L).filter (fun q => !(q.1 == k) && (!(q.1 == k + 1) && !(q.1 + 1 == k && q.2.category == 2))) = sw_tl ad (sw_p2 L k v) := by
  simp only [sw_p2, sw_tl, List.map_cons, List.filter_map]
  congr 3
  funext q
  simp only [Function.comp, sw_tv_cat]
def sw_b (x : Int) : Int := (Int32.ofInt x).toInt8.toInt32.toInt
def sw_h (x : Int) : Int := (Int32.ofInt x).toInt16.toInt32.toInt
def sw_fa (r : Option Nat) (x : Int) : sw_Vl := match r with
  | some a => .inr (.inr a)
  | none => .inl x
theorem sw_fa_tv (ad : Nat → Nat) (r : Option Nat) (x : Int) : sw_tv ad (sw_fa r x) = sw_fv ad r x := by cases r <;> rfl
def sw_pI : List sw_Vl → Option (Int × List sw_Vl)
  | .inl v :: r => some (v, r)
  | _ => none
def sw_pL : List sw_Vl → Option (Int × List sw_Vl)
  | .inr (.inl v) :: r => some (v, r)
  | _ => none
def sw_pR : List sw_Vl → Option (Nat × List sw_Vl)
  | .inr (.inr v) :: r => some (v, r)
  | _ => none
theorem sw_pI_eq {st : List sw_Vl} {q : Int × List sw_Vl} (h : sw_pI st = some q) : st = .inl q.1 :: q.2 := by
  rcases st with _ | ⟨v | v | v, r⟩ <;> simp [sw_pI] at h
  subst h; rfl
theorem sw_pL_eq {st : List sw_Vl} {q : Int × List sw_Vl} (h : sw_pL st = some q) : st = .inr (.inl q.1) :: q.2 := by
  rcases st with _ | ⟨v | v | v, r⟩ <;> simp [sw_pL] at h
  subst h; rfl
theorem sw_pR_eq {st : List sw_Vl} {q : Nat × List sw_Vl} (h : sw_pR st = some q) : st = .inr (.inr q.1) :: q.2 := by
  rcases st with _ | ⟨v | v | v, r⟩ <;> simp [sw_pR] at h
  subst h; rfl
def sw_lI (L : sw_L) (k : Nat) : Option Int := match sw_lk L k with
  | some (.inl v) => some v
  | _ => none
def sw_lL (L : sw_L) (k : Nat) : Option Int := match sw_lk L k with
  | some (.inr (.inl v)) => some v
  | _ => none
def sw_lR (L : sw_L) (k : Nat) : Option Nat := match sw_lk L k with
  | some (.inr (.inr v)) => some v
  | _ => none
theorem sw_lI_eq {L : sw_L} {k : Nat} {v : Int} (h : sw_lI L k = some v) : sw_lk L k = some (.inl v) := by
  unfold sw_lI at h
  split at h
  · next e => cases h; exact e
  · cases h
theorem sw_lL_eq {L : sw_L} {k : Nat} {v : Int} (h : sw_lL L k = some v) : sw_lk L k = some (.inr (.inl v)) := by
  unfold sw_lL at h
  split at h
  · next e => cases h; exact e
  · cases h
theorem sw_lR_eq {L : sw_L} {k : Nat} {v : Nat} (h : sw_lR L k = some v) : sw_lk L k = some (.inr (.inr v)) := by
  unfold sw_lR at h
  split at h
  · next e => cases h; exact e
  · cases h
/-- one instruction that asks for nothing -/
def sw_st (ly : sw_Ly) (ρ : sw_Rf) (nL : Nat) (x : sw_I) (pc : Nat) (L : sw_L) (st : List sw_Vl) (σ : sw_S) : Option (Nat × sw_L × List sw_Vl × sw_S) :=
  match x.1 with
  | .iconst n => some (pc + 1, L, .inl n :: st, σ)
  | .bipush _ => some (pc + 2, L, .inl x.2.2.2 :: st, σ)
  | .sipush _ => some (pc + 3, L, .inl x.2.2.2 :: st, σ)
  | .ldc _ => some (pc + 2, L, .inl x.2.2.2 :: st, σ)
  | .ldc2_w _ => some (pc + 3, L, .inr (.inl x.2.2.2) :: st, σ)
  | .iload_n k => (sw_lI L k).bind fun v => some (pc + 1, L, .inl v :: st, σ)
  | .iload k => (sw_lI L k).bind fun v => some (pc + 2, L, .inl v :: st, σ)
  | .aload_n k => (sw_lR L k).bind fun v => some (pc + 1, L, .inr (.inr v) :: st, σ)
  | .aload k => (sw_lR L k).bind fun v => some (pc + 2, L, .inr (.inr v) :: st, σ)
  | .lload_n k => (sw_lL L k).bind fun v => some (pc + 1, L, .inr (.inl v) :: st, σ)
  | .lload k => (sw_lL L k).bind fun v => some (pc + 2, L, .inr (.inl v) :: st, σ)
  | .istore_n k => (sw_pI st).bind fun q => if k.val < nL then some (pc + 1, sw_p1 L k.val (.inl q.1), q.2, σ) else none
  | .istore k => (sw_pI st).bind fun q => if k < nL then some (pc + 2, sw_p1 L k (.inl q.1), q.2, σ) else none
  | .astore_n k => (sw_pR st).bind fun q => if k.val < nL then some (pc + 1, sw_p1 L k.val (.inr (.inr q.1)), q.2, σ) else none
  | .astore k => (sw_pR st).bind fun q => if k < nL then some (pc + 2, sw_p1 L k (.inr (.inr q.1)), q.2, σ) else none
  | .lstore_n k => (sw_pL st).bind fun q => if k.val + 1 < nL then some (pc + 1, sw_p2 L k.val (.inr (.inl q.1)), q.2, σ) else none
  | .lstore k => (sw_pL st).bind fun q => if k + 1 < nL then some (pc + 2, sw_p2 L k (.inr (.inl q.1)), q.2, σ) else none
  | .iinc k n => (sw_lI L k).bind fun v => if k < nL then some (pc + 3, sw_p1 L k (.inl (v + n)), st, σ) else none
  | .iadd => (sw_pI st).bind fun q => (sw_pI q.2).bind fun q2 => some (pc + 1, L, .inl (q2.1 + q.1) :: q2.2, σ)
  | .isub => (sw_pI st).bind fun q => (sw_pI q.2).bind fun q2 => some (pc + 1, L, .inl (q2.1 - q.1) :: q2.2, σ)
  | .imul => (sw_pI st).bind fun q => (sw_pI q.2).bind fun q2 => some (pc + 1, L, .inl (q2.1 * q.1) :: q2.2, σ)
  | .ineg => (sw_pI st).bind fun q => some (pc + 1, L, .inl (-q.1) :: q.2, σ)
  | .ladd => (sw_pL st).bind fun q => (sw_pL q.2).bind fun q2 => some (pc + 1, L, .inr (.inl (q2.1 + q.1)) :: q2.2, σ)
  | .lmul => (sw_pL st).bind fun q => (sw_pL q.2).bind fun q2 => some (pc + 1, L, .inr (.inl (q2.1 * q.1)) :: q2.2, σ)
  | .i2b => (sw_pI st).bind fun q => some (pc + 1, L, .inl (sw_b q.1) :: q.2, σ)
  | .i2s => (sw_pI st).bind fun q => some (pc + 1, L, .inl (sw_h q.1) :: q.2, σ)
  | .dup => match st with
    | v :: r => if sw_cat v = 1 then some (pc + 1, L, v :: v :: r, σ) else none
    | [] => none
  | .goto off => if 0 ≤ (pc : Int) + off then some (((pc : Int) + off).toNat, L, st, σ) else none
  | .getfield _ => (sw_pR st).bind fun q => (ly[q.1]?).bind fun k => if k.1 = x.2.1 then some (pc + 3, L, sw_fa (ρ q.1 x.2.2.1) (σ q.1 x.2.2.1) :: q.2, σ) else none
  | .putfield _ => (sw_pI st).bind fun q => (sw_pR q.2).bind fun q2 => (ly[q2.1]?).bind fun k => if k.1 = x.2.1 ∧ (ρ q2.1 x.2.2.1).isNone = true ∧ (x.2.2.2 = 0 ∨ q.1 = 0 ∨ q.1 = 1) then some (pc + 3, L, q2.2, sw_u σ q2.1 x.2.2.1 q.1) else none
  | .arraylength => (sw_pR st).bind fun q => (ly[q.1]?).bind fun k => if 100 ≤ k.1 ∧ k.1 ≤ 102 then some (pc + 1, L, .inl (k.2 : Int) :: q.2, σ) else none
  | _ => none
section Step
variable {ly : sw_Ly} {ρ : sw_Rf} {M : sw_M} {I : List (Option sw_I)} {pc : Nat} {L : sw_L} {st : List sw_Vl} {σ : sw_S} {Q : Option sw_Vl → sw_S → Prop}
theorem sw_const {v : Value} {n : Nat} {w : sw_Vl} (h : ∀ (l : Launch) (p : Program) (e : Env) (s : State) (m : MethodId) (args : Array Value) (below : List Frame) (meth : Method) (c : Code) (H : Heap) (locs : List Loc) (ls : Array Slot) (rest : List Value) (Qw : State → Prop), p.tables.exec = Jvm.exec → c.code = M.2.1 → s.vm.findClass M.1.cls = some m.cls → (∀ w ∈ sw_tb, w.before args s = true) → W p l e (sw_rm M) s m args below meth c H locs 0 0 Qw (F0 m n ls (v :: rest)) → W p l e (sw_rm M) s m args below meth c H locs 0 0 Qw (F0 m pc ls rest)) (hv : ∀ ad, sw_tv ad w = v) (k : sw_E ly ρ M n L (w :: st) σ Q) : sw_E ly ρ M pc L st σ Q := by
  intro l D c3 ad p e s m args below meth c H locs ls C hP hS hl
  obtain ⟨hx, hb, hr, hml, hown, hts, hlk, hK, hj⟩ := C
  refine h l p e s m args below meth c H locs ls _ _ hx hb hown hts ?_
  rw [← hv ad]
  exact k l D c3 ad p e s m args below meth c H locs ls ⟨hx, hb, hr, hml, hown, hts, hlk, hK, hj⟩ hP hS hl
theorem sw_step {x : sw_I} {g : Nat × sw_L × List sw_Vl × sw_S} (hI : sw_Ok M I) (h : I[pc]? = some (some x)) (hs : sw_st ly ρ M.2.2.1 x pc L st σ = some g) (k : sw_E ly ρ M g.1 g.2.1 g.2.2.1 g.2.2.2 Q) : sw_E ly ρ M pc L st σ Q := by
  obtain ⟨hd, h2⟩ := sw_dec hI h
  obtain ⟨i, a, b, z⟩ := x
  unfold sw_st at hs
  split at hs
  all_goals first | (rename_i e; dsimp only at e; subst e; simp only [sw_len] at hd; done) | (rename_i e; dsimp only at e; subst e; simp only [sw_len] at hd) | contradiction
  · cases hs
    exact sw_const (fun l p e s m args below meth c H locs ls rest Qw hx hb ho ht kk => lv_iconst hx hb hd rfl kk) (fun _ => rfl) k
  · cases hs
    simp only [sw_ok2, decide_eq_true_eq] at h2
    exact sw_const (fun l p e s m args below meth c H locs ls rest Qw hx hb ho ht kk => lv_bipush hx hb hd h2 kk) (fun _ => rfl) k
  · cases hs
    simp only [sw_ok2, decide_eq_true_eq] at h2
    exact sw_const (fun l p e s m args below meth c H locs ls rest Qw hx hb ho ht kk => lv_sipush hx hb hd h2 kk) (fun _ => rfl) k
  · cases hs
    simp only [sw_ok2, decide_eq_true_eq] at h2
    exact sw_const (fun l p e s m args below meth c H locs ls rest Qw hx hb ho ht kk => lv_ldc hx hb ho (ht _ h2) hd kk) (fun _ => rfl) k
  · cases hs
    simp only [sw_ok2, decide_eq_true_eq] at h2
    exact sw_const (fun l p e s m args below meth c H locs ls rest Qw hx hb ho ht kk => lv_ldc2 hx hb ho (ht _ h2) hd kk) (fun _ => rfl) k
  · obtain ⟨v, hv, hg⟩ := Option.bind_eq_some_iff.mp hs
    cases hg
    intro l D c3 ad p e s m args below meth c H locs ls C hP hS hl
    exact lv_iload_n C.1 C.2.1 hd rfl (sw_lk_at hl (sw_lI_eq hv)) (k l D c3 ad p e s m args below meth c H locs ls C hP hS hl)
  · obtain ⟨v, hv, hg⟩ := Option.bind_eq_some_iff.mp hs
    cases hg
    intro l D c3 ad p e s m args below meth c H locs ls C hP hS hl
    exact lv_iload C.1 C.2.1 hd (sw_lk_at hl (sw_lI_eq hv)) (k l D c3 ad p e s m args below meth c H locs ls C hP hS hl)
  · obtain ⟨v, hv, hg⟩ := Option.bind_eq_some_iff.mp hs
    cases hg
    intro l D c3 ad p e s m args below meth c H locs ls C hP hS hl
    exact lv_aload_n C.1 C.2.1 hd rfl (sw_lk_at hl (sw_lR_eq hv)) (k l D c3 ad p e s m args below meth c H locs ls C hP hS hl)
  · obtain ⟨v, hv, hg⟩ := Option.bind_eq_some_iff.mp hs
    cases hg
    intro l D c3 ad p e s m args below meth c H locs ls C hP hS hl
    exact lv_aload C.1 C.2.1 hd (sw_lk_at hl (sw_lR_eq hv)) (k l D c3 ad p e s m args below meth c H locs ls C hP hS hl)
  · obtain ⟨v, hv, hg⟩ := Option.bind_eq_some_iff.mp hs
    cases hg
    intro l D c3 ad p e s m args below meth c H locs ls C hP hS hl
    exact lv_lload_n C.1 C.2.1 hd rfl (sw_lk_at hl (sw_lL_eq hv)) (k l D c3 ad p e s m args below meth c H locs ls C hP hS hl)
  · obtain ⟨v, hv, hg⟩ := Option.bind_eq_some_iff.mp hs
    cases hg
    intro l D c3 ad p e s m args below meth c H locs ls C hP hS hl
    exact lv_lload C.1 C.2.1 hd (sw_lk_at hl (sw_lL_eq hv)) (k l D c3 ad p e s m args below meth c H locs ls C hP hS hl)
  · obtain ⟨q, hq, hg⟩ := Option.bind_eq_some_iff.mp hs
    split at hg
    · next hn =>
      cases hg
      rw [sw_pI_eq hq]
      intro l D c3 ad p e s m args below meth c H locs ls C hP hS hl
      exact lv_istore_n C.1 C.2.1 hd rfl hl hn (sw_p1_tl ad L _ (.inl q.1)) (fun ls' hl' => k l D c3 ad p e s m args below meth c H locs ls' C hP hS hl')
    · cases hg
  · obtain ⟨q, hq, hg⟩ := Option.bind_eq_some_iff.mp hs
    split at hg
    · next hn =>
      cases hg
      rw [sw_pI_eq hq]
      intro l D c3 ad p e s m args below meth c H locs ls C hP hS hl
      exact lv_istore C.1 C.2.1 hd hl hn (sw_p1_tl ad L _ (.inl q.1)) (fun ls' hl' => k l D c3 ad p e s m args below meth c H locs ls' C hP hS hl')
    · cases hg
  · obtain ⟨q, hq, hg⟩ := Option.bind_eq_some_iff.mp hs
    split at hg
    · next hn =>
      cases hg
      rw [sw_pR_eq hq]
      intro l D c3 ad p e s m args below meth c H locs ls C hP hS hl
      exact lv_astore_n C.1 C.2.1 hd rfl hl hn (sw_p1_tl ad L _ (.inr (.inr q.1))) (fun ls' hl' => k l D c3 ad p e s m args below meth c H locs ls' C hP hS hl')
    · cases hg
  · obtain ⟨q, hq, hg⟩ := Option.bind_eq_some_iff.mp hs
    split at hg
    · next hn =>
      cases hg
      rw [sw_pR_eq hq]
      intro l D c3 ad p e s m args below meth c H locs ls C hP hS hl
      exact lv_astore C.1 C.2.1 hd hl hn (sw_p1_tl ad L _ (.inr (.inr q.1))) (fun ls' hl' => k l D c3 ad p e s m args below meth c H locs ls' C hP hS hl')
    · cases hg
  · obtain ⟨q, hq, hg⟩ := Option.bind_eq_some_iff.mp hs
    split at hg
    · next hn =>
      cases hg
      rw [sw_pL_eq hq]
      intro l D c3 ad p e s m args below meth c H locs ls C hP hS hl
      exact lv_lstore_n C.1 C.2.1 hd rfl hl hn (sw_p2_tl ad L _ (.inr (.inl q.1))) (fun ls' hl' => k l D c3 ad p e s m args below meth c H locs ls' C hP hS hl')
    · cases hg
  · obtain ⟨q, hq, hg⟩ := Option.bind_eq_some_iff.mp hs
    split at hg
    · next hn =>
      cases hg
      rw [sw_pL_eq hq]
      intro l D c3 ad p e s m args below meth c H locs ls C hP hS hl
      exact lv_lstore C.1 C.2.1 hd hl hn (sw_p2_tl ad L _ (.inr (.inl q.1))) (fun ls' hl' => k l D c3 ad p e s m args below meth c H locs ls' C hP hS hl')
    · cases hg
  · obtain ⟨v, hv, hg⟩ := Option.bind_eq_some_iff.mp hs
    split at hg
    · next hn =>
      cases hg
      intro l D c3 ad p e s m args below meth c H locs ls C hP hS hl
      obtain ⟨j, hj⟩ := List.getElem?_of_mem (List.mem_map.mpr ⟨_, sw_lk_mem (sw_lI_eq hv), rfl⟩ : _ ∈ sw_tl ad L)
      exact lv_iinc (k := j) C.1 C.2.1 hd hl hj (Int32.ofInt_add _ _).symm hn (sw_p1_tl ad L _ (.inl _)) (fun ls' hl' => k l D c3 ad p e s m args below meth c H locs ls' C hP hS hl')
    · cases hg
  · obtain ⟨q, hq, hg⟩ := Option.bind_eq_some_iff.mp hs
    obtain ⟨q2, hq2, hg⟩ := Option.bind_eq_some_iff.mp hg
    cases hg
    rw [sw_pI_eq hq, sw_pI_eq hq2]
    intro l D c3 ad p e s m args below meth c H locs ls C hP hS hl
    refine lv_iadd C.1 C.2.1 hd ?_
    rw [← Int32.ofInt_add]
    exact k l D c3 ad p e s m args below meth c H locs ls C hP hS hl
  · obtain ⟨q, hq, hg⟩ := Option.bind_eq_some_iff.mp hs
    obtain ⟨q2, hq2, hg⟩ := Option.bind_eq_some_iff.mp hg
    cases hg
    rw [sw_pI_eq hq, sw_pI_eq hq2]
    intro l D c3 ad p e s m args below meth c H locs ls C hP hS hl
    refine lv_isub C.1 C.2.1 hd ?_
    rw [← Int32.ofInt_sub]
    exact k l D c3 ad p e s m args below meth c H locs ls C hP hS hl
  · obtain ⟨q, hq, hg⟩ := Option.bind_eq_some_iff.mp hs
    obtain ⟨q2, hq2, hg⟩ := Option.bind_eq_some_iff.mp hg
    cases hg
    rw [sw_pI_eq hq, sw_pI_eq hq2]
    intro l D c3 ad p e s m args below meth c H locs ls C hP hS hl
    refine lv_imul C.1 C.2.1 hd ?_
    rw [← Int32.ofInt_mul]
    exact k l D c3 ad p e s m args below meth c H locs ls C hP hS hl
  · obtain ⟨q, hq, hg⟩ := Option.bind_eq_some_iff.mp hs
    cases hg
    rw [sw_pI_eq hq]
    intro l D c3 ad p e s m args below meth c H locs ls C hP hS hl
    refine lv_ineg C.1 C.2.1 hd ?_
    rw [← Int32.ofInt_neg]
    exact k l D c3 ad p e s m args below meth c H locs ls C hP hS hl
  · obtain ⟨q, hq, hg⟩ := Option.bind_eq_some_iff.mp hs
    obtain ⟨q2, hq2, hg⟩ := Option.bind_eq_some_iff.mp hg
    cases hg
    rw [sw_pL_eq hq, sw_pL_eq hq2]
    intro l D c3 ad p e s m args below meth c H locs ls C hP hS hl
    refine lv_ladd C.1 C.2.1 hd ?_
    rw [← Int64.ofInt_add]
    exact k l D c3 ad p e s m args below meth c H locs ls C hP hS hl
  · obtain ⟨q, hq, hg⟩ := Option.bind_eq_some_iff.mp hs
    obtain ⟨q2, hq2, hg⟩ := Option.bind_eq_some_iff.mp hg
    cases hg
    rw [sw_pL_eq hq, sw_pL_eq hq2]
    intro l D c3 ad p e s m args below meth c H locs ls C hP hS hl
    refine lv_lmul C.1 C.2.1 hd ?_
    rw [← Int64.ofInt_mul]
    exact k l D c3 ad p e s m args below meth c H locs ls C hP hS hl
  · obtain ⟨q, hq, hg⟩ := Option.bind_eq_some_iff.mp hs
    cases hg
    rw [sw_pI_eq hq]
    intro l D c3 ad p e s m args below meth c H locs ls C hP hS hl
    exact lv_i2b C.1 C.2.1 hd (Int32.ofInt_toInt _).symm (k l D c3 ad p e s m args below meth c H locs ls C hP hS hl)
  · obtain ⟨q, hq, hg⟩ := Option.bind_eq_some_iff.mp hs
    cases hg
    rw [sw_pI_eq hq]
    intro l D c3 ad p e s m args below meth c H locs ls C hP hS hl
    exact lv_i2s C.1 C.2.1 hd (Int32.ofInt_toInt _).symm (k l D c3 ad p e s m args below meth c H locs ls C hP hS hl)
  · split at hs
    · next v r =>
      split at hs
      · next hc =>
        cases hs
        intro l D c3 ad p e s m args below meth c H locs ls C hP hS hl
        exact lv_dup C.1 C.2.1 hd (by rw [sw_tv_cat]; exact hc) (k l D c3 ad p e s m args below meth c H locs ls C hP hS hl)
      · cases hs
    · cases hs
  · split at hs
    · next ho =>
      cases hs
      intro l D c3 ad p e s m args below meth c H locs ls C hP hS hl
      exact lv_goto C.1 C.2.1 hd (Int.toNat_of_nonneg ho).symm (k l D c3 ad p e s m args below meth c H locs ls C hP hS hl)
    · cases hs
  · obtain ⟨q, hq, hg⟩ := Option.bind_eq_some_iff.mp hs
    obtain ⟨kd, hkd, hg⟩ := Option.bind_eq_some_iff.mp hg
    split at hg
    · next ha =>
      cases hg
      rw [sw_pR_eq hq]
      intro l D c3 ad p e s m args below meth c H locs ls C hP hS hl
      have C0 := C
      obtain ⟨hx, hb, hr, hml, hown, hts, hlk, hK, hj⟩ := C
      simp only [sw_ok2, sw_okf] at h2
      split at h2
      · next r hcl =>
        simp only [Bool.and_eq_true, decide_eq_true_eq] at h2
        obtain ⟨hin, ⟨ty0, hty⟩, hnm⟩ := sw_clf _ _ hcl
        have he := sw_wl_at (c3 := c3) (ad := ad) (ρ := ρ) (σ := σ) hkd
        have ha9 : a < 9 := by
          rcases Nat.lt_or_ge a 9 with q | q
          · exact q
          · exact absurd hcl (by rw [List.getElem?_eq_none (by exact q)]; simp)
        have hce : sw_ce c3 ad ρ σ q.1 kd = .inr (a, (List.range (sw_N a)).map fun j => sw_fv ad (ρ q.1 j) (σ q.1 j)) := by
          unfold sw_ce
          rw [ha, if_neg (by show ¬ a = 100; omega), if_neg (by show ¬ a = 101; omega), if_neg (by show ¬ a = 102; omega)]
        rw [hce] at he
        have hN : sw_N a = r.2.2 := by simp only [sw_N, hcl]
        refine va_get (v := sw_fv ad (ρ q.1 b) (σ q.1 b)) hx hb hts hin hown hK hP q.1 he (by rw [hcl]) b h2.1 (hts _ h2.2) (fun _ h9 => h9) ?_ hd ?_
        · rw [List.getElem?_map, List.getElem?_range (by rw [hN]; exact h2.1)]; rfl
        · have kk := k l D c3 ad p e s m args below meth c H locs ls C0 hP hS hl
          simp only [List.map_cons, sw_fa_tv] at kk
          exact kk
      · cases h2
    · cases hg
  · obtain ⟨q, hq, hg⟩ := Option.bind_eq_some_iff.mp hs
    obtain ⟨q2, hq2, hg⟩ := Option.bind_eq_some_iff.mp hg
    obtain ⟨kd, hkd, hg⟩ := Option.bind_eq_some_iff.mp hg
    split at hg
    · next ha =>
      cases hg
      obtain ⟨ha, hrn, hz⟩ := ha
      rw [sw_pI_eq hq, sw_pR_eq hq2]
      intro l D c3 ad p e s m args below meth c H locs ls C hP hS hl
      have C0 := C
      obtain ⟨hx, hb, hr, hml, hown, hts, hlk, hK, hj⟩ := C
      simp only [sw_ok2, sw_okf, sw_okp] at h2
      split at h2
      · next r hcl =>
        simp only [hcl, Bool.and_eq_true, Bool.or_eq_true, decide_eq_true_eq, Bool.not_eq_true'] at h2
        obtain ⟨⟨hbN, hlink⟩, hfin, hdsc⟩ := h2
        obtain ⟨hin, ⟨ty0, hty⟩, hnm⟩ := sw_clf _ _ hcl
        have he := sw_wl_at (c3 := c3) (ad := ad) (ρ := ρ) (σ := σ) hkd
        have ha9 : a < 9 := by
          rcases Nat.lt_or_ge a 9 with q | q
          · exact q
          · exact absurd hcl (by rw [List.getElem?_eq_none (by exact q)]; simp)
        have hce : ∀ σ : sw_S, sw_ce c3 ad ρ σ q2.1 kd = .inr (a, (List.range (sw_N a)).map fun j => sw_fv ad (ρ q2.1 j) (σ q2.1 j)) := by
          intro σ
          unfold sw_ce
          rw [ha, if_neg (by show ¬ a = 100; omega), if_neg (by show ¬ a = 101; omega), if_neg (by show ¬ a = 102; omega)]
        rw [hce] at he
        have hN : sw_N a = r.2.2 := by simp only [sw_N, hcl]
        have hrn2 : ρ q2.1 b = none := by simpa using hrn
        have hset : ((List.range (sw_N a)).map fun j => sw_fv ad (ρ q2.1 j) (σ q2.1 j)).set b (.int (Int32.ofInt q.1)) = (List.range (sw_N a)).map fun j => sw_fv ad (ρ q2.1 j) (sw_u σ q2.1 b q.1 q2.1 j) := by
          apply List.ext_getElem?
          intro n
          by_cases hnb : n = b
          · subst hnb
            rw [List.getElem?_set_self (by simpa [hN] using hbN), List.getElem?_map, List.getElem?_range (by rw [hN]; exact hbN)]
            simp [sw_u, hrn2, sw_fv]
          · rw [List.getElem?_set_ne (Ne.symm hnb), List.getElem?_map, List.getElem?_map]
            by_cases hn : n < sw_N a
            · rw [List.getElem?_range hn]
              simp [sw_u, hnb]
            · rw [List.getElem?_eq_none (by simpa using hn)]
              rfl
        have go : ∀ (ty : FieldType), parseFieldDescriptor (r.2.1 b).2.2.1 = some ty → narrow ty (.int (Int32.ofInt q.1)) = .int (Int32.ofInt q.1) → fits ty (.int (Int32.ofInt q.1)) = true → W p l e (sw_rm M) s m args below meth c H locs 0 0 (MQ below (sw_Qc D c3 ad ly ρ Q (sw_A ad ly.length s.heap.size)) args s 0 0 (sw_A ad ly.length s.heap.size)) (F0 m pc ls (.int (Int32.ofInt q.1) :: .ref (ad q2.1) :: q2.2.map (sw_tv ad))) := by
          intro ty h3 h4 h5
          refine va_put hx hb hts hin ty0 hty hnm hown hK hP (sw_D hj) hS q2.1 he (by rw [hcl]) b hbN (hts _ hlink) (fun _ h9 => h9) hfin h3 h4 h5 (by simpa [hN] using hbN) hd (fun H1 locs1 hP1 hD1 hS1 => ?_)
          rw [hset] at hP1
          rw [← hce (sw_u σ q2.1 b q.1)] at hP1
          rw [sw_wl_set hkd (fun a' b' h' => sw_u_row σ q.1 h')] at hP1
          exact k l D c3 ad p e s m args below meth c H1 locs1 ls C0 hP1 hS1 hl
        rcases hdsc with h6 | ⟨h6, h7⟩
        · exact go .int (by rw [h6]; decide +kernel) rfl rfl
        · have hz2 : q.1 = 0 ∨ q.1 = 1 := by
            rcases hz with h | h | h
            · exact absurd (h7.symm.trans h) (by decide)
            · exact Or.inl h
            · exact Or.inr h
          rcases hz2 with h8 | h8
          · exact go .boolean (by rw [h6]; decide +kernel) (by rw [h8]; rfl) (by rw [h8]; rfl)
          · exact go .boolean (by rw [h6]; decide +kernel) (by rw [h8]; rfl) (by rw [h8]; rfl)
      · cases h2
    · cases hg
  · obtain ⟨q, hq, hg⟩ := Option.bind_eq_some_iff.mp hs
    obtain ⟨kd, hkd, hg⟩ := Option.bind_eq_some_iff.mp hg
    split at hg
    · next ha =>
      cases hg
      rw [sw_pR_eq hq]
      intro l D c3 ad p e s m args below meth c H locs ls C hP hS hl
      have he := sw_wl_at (c3 := c3) (ad := ad) (ρ := ρ) (σ := σ) hkd
      have kk := k l D c3 ad p e s m args below meth c H locs ls C hP hS hl
      obtain ⟨k1, k2⟩ := kd
      dsimp only at ha kk
      have e3 : k1 = 100 ∨ k1 = 101 ∨ k1 = 102 := by omega
      rcases e3 with rfl | rfl | rfl
      · exact va_alen C.1 C.2.1 C.2.2.2.2.2.2.2.1 hP q.1 0 he rfl Int32.ofInt_eq_ofNat.symm hd kk
      · exact va_alen C.1 C.2.1 C.2.2.2.2.2.2.2.1 hP q.1 1 he rfl Int32.ofInt_eq_ofNat.symm hd kk
      · exact va_alen C.1 C.2.1 C.2.2.2.2.2.2.2.1 hP q.1 2 he rfl Int32.ofInt_eq_ofNat.symm hd kk
    · cases hg
end Step
def sw_adv (ly : sw_Ly) (ρ : sw_Rf) (nL : Nat) (I : List (Option sw_I)) : Nat → Nat → sw_L → List sw_Vl → sw_S → Option (Nat × sw_L × List sw_Vl × sw_S)
  | 0, pc, L, st, σ => some (pc, L, st, σ)
  | n + 1, pc, L, st, σ => (I[pc]?).bind fun o => o.bind fun x => (sw_st ly ρ nL x pc L st σ).bind fun g => sw_adv ly ρ nL I n g.1 g.2.1 g.2.2.1 g.2.2.2
/-- a block of instructions that ask for nothing -/
theorem sw_blk {ly : sw_Ly} {ρ : sw_Rf} {M : sw_M} {I : List (Option sw_I)} {Q : Option sw_Vl → sw_S → Prop} (hI : sw_Ok M I) : ∀ (n : Nat) {pc : Nat} {L : sw_L} {st : List sw_Vl} {σ : sw_S} (pc' : Nat) (L' : sw_L) (st' : List sw_Vl) (σ' : sw_S), sw_adv ly ρ M.2.2.1 I n pc L st σ = some (pc', L', st', σ') → sw_E ly ρ M pc' L' st' σ' Q → sw_E ly ρ M pc L st σ Q
  | 0, pc, L, st, σ, pc', L', st', σ', h, k => by
    cases h
    exact k
  | n + 1, pc, L, st, σ, pc', L', st', σ', h, k => by
    obtain ⟨o, ho, h1⟩ := Option.bind_eq_some_iff.mp h
    obtain ⟨x, hx, h2⟩ := Option.bind_eq_some_iff.mp h1
    obtain ⟨g, hg, h3⟩ := Option.bind_eq_some_iff.mp h2
    subst hx
    exact sw_step hI ho hg (sw_blk hI n pc' L' st' σ' h3 k)
end
section
section Rows
variable {ly : sw_Ly} {ρ : sw_Rf} {M : sw_M} {I : List (Option sw_I)} {pc : Nat} {L : sw_L} {st : List sw_Vl} {σ : sw_S} {Q : Option sw_Vl → sw_S → Prop}
theorem sw_icmp_eq (hI : sw_Ok M I) {off : Int} {a b : Nat} {z x y : Int} (h : I[pc]? = some (some (.if_icmp .eq off, a, b, z))) (gx : sw_g x) (gy : sw_g y) (tgt nx : Nat) (ht : (pc : Int) + off = (tgt : Int)) (hn : pc + 3 = nx) (kt : x = y → sw_E ly ρ M tgt L st σ Q) (kf : ¬ x = y → sw_E ly ρ M nx L st σ Q) : sw_E ly ρ M pc L (.inl y :: .inl x :: st) σ Q := by
  subst hn
  intro l D c3 ad p e s m args below meth c H locs ls C hP hS hl
  exact lv_icmp_eq C.1 C.2.1 (sw_dec hI h).1 ht (fun q => kt ((sw_eq gx gy).mp q) l D c3 ad p e s m args below meth c H locs ls C hP hS hl) (fun q => kf (fun z => q ((sw_eq gx gy).mpr z)) l D c3 ad p e s m args below meth c H locs ls C hP hS hl)
theorem sw_if_eq (hI : sw_Ok M I) {off : Int} {a b : Nat} {z x : Int} (h : I[pc]? = some (some (.ifCond .eq off, a, b, z))) (gx : sw_g x) (tgt nx : Nat) (ht : (pc : Int) + off = (tgt : Int)) (hn : pc + 3 = nx) (kt : x = 0 → sw_E ly ρ M tgt L st σ Q) (kf : ¬ x = 0 → sw_E ly ρ M nx L st σ Q) : sw_E ly ρ M pc L (.inl x :: st) σ Q := by
  subst hn
  intro l D c3 ad p e s m args below meth c H locs ls C hP hS hl
  exact lv_if_eq C.1 C.2.1 (sw_dec hI h).1 ht (fun q => kt ((sw_eq gx sw_g0).mp q) l D c3 ad p e s m args below meth c H locs ls C hP hS hl) (fun q => kf (fun z => q ((sw_eq gx sw_g0).mpr z)) l D c3 ad p e s m args below meth c H locs ls C hP hS hl)
theorem sw_icmp_ne (hI : sw_Ok M I) {off : Int} {a b : Nat} {z x y : Int} (h : I[pc]? = some (some (.if_icmp .ne off, a, b, z))) (gx : sw_g x) (gy : sw_g y) (tgt nx : Nat) (ht : (pc : Int) + off = (tgt : Int)) (hn : pc + 3 = nx) (kt : ¬ x = y → sw_E ly ρ M tgt L st σ Q) (kf : x = y → sw_E ly ρ M nx L st σ Q) : sw_E ly ρ M pc L (.inl y :: .inl x :: st) σ Q := by
  subst hn
  intro l D c3 ad p e s m args below meth c H locs ls C hP hS hl
  exact lv_icmp_ne C.1 C.2.1 (sw_dec hI h).1 ht (fun q => kt (fun z => q ((sw_eq gx gy).mpr z)) l D c3 ad p e s m args below meth c H locs ls C hP hS hl) (fun q => kf ((sw_eq gx gy).mp q) l D c3 ad p e s m args below meth c H locs ls C hP hS hl)
theorem sw_if_ne (hI : sw_Ok M I) {off : Int} {a b : Nat} {z x : Int} (h : I[pc]? = some (some (.ifCond .ne off, a, b, z))) (gx : sw_g x) (tgt nx : Nat) (ht : (pc : Int) + off = (tgt : Int)) (hn : pc + 3 = nx) (kt : ¬ x = 0 → sw_E ly ρ M tgt L st σ Q) (kf : x = 0 → sw_E ly ρ M nx L st σ Q) : sw_E ly ρ M pc L (.inl x :: st) σ Q := by
  subst hn
  intro l D c3 ad p e s m args below meth c H locs ls C hP hS hl
  exact lv_if_ne C.1 C.2.1 (sw_dec hI h).1 ht (fun q => kt (fun z => q ((sw_eq gx sw_g0).mpr z)) l D c3 ad p e s m args below meth c H locs ls C hP hS hl) (fun q => kf ((sw_eq gx sw_g0).mp q) l D c3 ad p e s m args below meth c H locs ls C hP hS hl)
theorem sw_icmp_lt (hI : sw_Ok M I) {off : Int} {a b : Nat} {z x y : Int} (h : I[pc]? = some (some (.if_icmp .lt off, a, b, z))) (gx : sw_g x) (gy : sw_g y) (tgt nx : Nat) (ht : (pc : Int) + off = (tgt : Int)) (hn : pc + 3 = nx) (kt : x < y → sw_E ly ρ M tgt L st σ Q) (kf : ¬ x < y → sw_E ly ρ M nx L st σ Q) : sw_E ly ρ M pc L (.inl y :: .inl x :: st) σ Q := by
  subst hn
  intro l D c3 ad p e s m args below meth c H locs ls C hP hS hl
  exact lv_icmp_lt C.1 C.2.1 (sw_dec hI h).1 ht (fun q => kt ((sw_lt gx gy).mp q) l D c3 ad p e s m args below meth c H locs ls C hP hS hl) (fun q => kf (fun z => q ((sw_lt gx gy).mpr z)) l D c3 ad p e s m args below meth c H locs ls C hP hS hl)
theorem sw_if_lt (hI : sw_Ok M I) {off : Int} {a b : Nat} {z x : Int} (h : I[pc]? = some (some (.ifCond .lt off, a, b, z))) (gx : sw_g x) (tgt nx : Nat) (ht : (pc : Int) + off = (tgt : Int)) (hn : pc + 3 = nx) (kt : x < 0 → sw_E ly ρ M tgt L st σ Q) (kf : ¬ x < 0 → sw_E ly ρ M nx L st σ Q) : sw_E ly ρ M pc L (.inl x :: st) σ Q := by
  subst hn
  intro l D c3 ad p e s m args below meth c H locs ls C hP hS hl
  exact lv_if_lt C.1 C.2.1 (sw_dec hI h).1 ht (fun q => kt ((sw_lt gx sw_g0).mp q) l D c3 ad p e s m args below meth c H locs ls C hP hS hl) (fun q => kf (fun z => q ((sw_lt gx sw_g0).mpr z)) l D c3 ad p e s m args below meth c H locs ls C hP hS hl)
theorem sw_icmp_ge (hI : sw_Ok M I) {off : Int} {a b : Nat} {z x y : Int} (h : I[pc]? = some (some (.if_icmp .ge off, a, b, z))) (gx : sw_g x) (gy : sw_g y) (tgt nx : Nat) (ht : (pc : Int) + off = (tgt : Int)) (hn : pc + 3 = nx) (kt : y ≤ x → sw_E ly ρ M tgt L st σ Q) (kf : ¬ y ≤ x → sw_E ly ρ M nx L st σ Q) : sw_E ly ρ M pc L (.inl y :: .inl x :: st) σ Q := by
  subst hn
  intro l D c3 ad p e s m args below meth c H locs ls C hP hS hl
  exact lv_icmp_ge C.1 C.2.1 (sw_dec hI h).1 ht (fun q => kt ((sw_le gy gx).mp q) l D c3 ad p e s m args below meth c H locs ls C hP hS hl) (fun q => kf (fun z => q ((sw_le gy gx).mpr z)) l D c3 ad p e s m args below meth c H locs ls C hP hS hl)
theorem sw_if_ge (hI : sw_Ok M I) {off : Int} {a b : Nat} {z x : Int} (h : I[pc]? = some (some (.ifCond .ge off, a, b, z))) (gx : sw_g x) (tgt nx : Nat) (ht : (pc : Int) + off = (tgt : Int)) (hn : pc + 3 = nx) (kt : 0 ≤ x → sw_E ly ρ M tgt L st σ Q) (kf : ¬ 0 ≤ x → sw_E ly ρ M nx L st σ Q) : sw_E ly ρ M pc L (.inl x :: st) σ Q := by
  subst hn
  intro l D c3 ad p e s m args below meth c H locs ls C hP hS hl
  exact lv_if_ge C.1 C.2.1 (sw_dec hI h).1 ht (fun q => kt ((sw_le sw_g0 gx).mp q) l D c3 ad p e s m args below meth c H locs ls C hP hS hl) (fun q => kf (fun z => q ((sw_le sw_g0 gx).mpr z)) l D c3 ad p e s m args below meth c H locs ls C hP hS hl)
theorem sw_icmp_gt (hI : sw_Ok M I) {off : Int} {a b : Nat} {z x y : Int} (h : I[pc]? = some (some (.if_icmp .gt off, a, b, z))) (gx : sw_g x) (gy : sw_g y) (tgt nx : Nat) (ht : (pc : Int) + off = (tgt : Int)) (hn : pc + 3 = nx) (kt : y < x → sw_E ly ρ M tgt L st σ Q) (kf : ¬ y < x → sw_E ly ρ M nx L st σ Q) : sw_E ly ρ M pc L (.inl y :: .inl x :: st) σ Q := by
  subst hn
  intro l D c3 ad p e s m args below meth c H locs ls C hP hS hl
  exact lv_icmp_gt C.1 C.2.1 (sw_dec hI h).1 ht (fun q => kt ((sw_lt gy gx).mp q) l D c3 ad p e s m args below meth c H locs ls C hP hS hl) (fun q => kf (fun z => q ((sw_lt gy gx).mpr z)) l D c3 ad p e s m args below meth c H locs ls C hP hS hl)
theorem sw_if_gt (hI : sw_Ok M I) {off : Int} {a b : Nat} {z x : Int} (h : I[pc]? = some (some (.ifCond .gt off, a, b, z))) (gx : sw_g x) (tgt nx : Nat) (ht : (pc : Int) + off = (tgt : Int)) (hn : pc + 3 = nx) (kt : 0 < x → sw_E ly ρ M tgt L st σ Q) (kf : ¬ 0 < x → sw_E ly ρ M nx L st σ Q) : sw_E ly ρ M pc L (.inl x :: st) σ Q := by
  subst hn
  intro l D c3 ad p e s m args below meth c H locs ls C hP hS hl
  exact lv_if_gt C.1 C.2.1 (sw_dec hI h).1 ht (fun q => kt ((sw_lt sw_g0 gx).mp q) l D c3 ad p e s m args below meth c H locs ls C hP hS hl) (fun q => kf (fun z => q ((sw_lt sw_g0 gx).mpr z)) l D c3 ad p e s m args below meth c H locs ls C hP hS hl)
theorem sw_icmp_le (hI : sw_Ok M I) {off : Int} {a b : Nat} {z x y : Int} (h : I[pc]? = some (some (.if_icmp .le off, a, b, z))) (gx : sw_g x) (gy : sw_g y) (tgt nx : Nat) (ht : (pc : Int) + off = (tgt : Int)) (hn : pc + 3 = nx) (kt : x ≤ y → sw_E ly ρ M tgt L st σ Q) (kf : ¬ x ≤ y → sw_E ly ρ M nx L st σ Q) : sw_E ly ρ M pc L (.inl y :: .inl x :: st) σ Q := by
  subst hn
  intro l D c3 ad p e s m args below meth c H locs ls C hP hS hl
  exact lv_icmp_le C.1 C.2.1 (sw_dec hI h).1 ht (fun q => kt ((sw_le gx gy).mp q) l D c3 ad p e s m args below meth c H locs ls C hP hS hl) (fun q => kf (fun z => q ((sw_le gx gy).mpr z)) l D c3 ad p e s m args below meth c H locs ls C hP hS hl)
theorem sw_if_le (hI : sw_Ok M I) {off : Int} {a b : Nat} {z x : Int} (h : I[pc]? = some (some (.ifCond .le off, a, b, z))) (gx : sw_g x) (tgt nx : Nat) (ht : (pc : Int) + off = (tgt : Int)) (hn : pc + 3 = nx) (kt : x ≤ 0 → sw_E ly ρ M tgt L st σ Q) (kf : ¬ x ≤ 0 → sw_E ly ρ M nx L st σ Q) : sw_E ly ρ M pc L (.inl x :: st) σ Q := by
  subst hn
  intro l D c3 ad p e s m args below meth c H locs ls C hP hS hl
  exact lv_if_le C.1 C.2.1 (sw_dec hI h).1 ht (fun q => kt ((sw_le gx sw_g0).mp q) l D c3 ad p e s m args below meth c H locs ls C hP hS hl) (fun q => kf (fun z => q ((sw_le gx sw_g0).mpr z)) l D c3 ad p e s m args below meth c H locs ls C hP hS hl)
theorem sw_iald (hI : sw_Ok M I) {a b : Nat} {z x : Int} (h : I[pc]? = some (some (.iaload, a, b, z))) {i n : Nat} (hk : ly[i]? = some (100, n)) (hg : (n : Int) ≤ 2147483648) (h0 : 0 ≤ x) (hx : x < n) (nx : Nat) (hn : pc + 1 = nx) (k : sw_E ly ρ M nx L (.inl (σ i x.toNat) :: st) σ Q) : sw_E ly ρ M pc L (.inl x :: .inr (.inr i) :: st) σ Q := by
  subst hn
  intro l D c3 ad p e s m args below meth c H locs ls C hP hS hl
  obtain ⟨hin, hix⟩ := sw_ix h0 hx hg
  refine va_iald C.1 C.2.1 C.2.2.2.2.2.2.2.1 hP i 0 (sw_wl_at hk) rfl hin (sw_dec hI h).1 ?_
  rw [hix]
  exact k l D c3 ad p e s m args below meth c H locs ls C hP hS hl
theorem sw_zald (hI : sw_Ok M I) {a b : Nat} {z x : Int} (h : I[pc]? = some (some (.baload, a, b, z))) {i n : Nat} (hk : ly[i]? = some (101, n)) (hg : (n : Int) ≤ 2147483648) (h0 : 0 ≤ x) (hx : x < n) (nx : Nat) (hn : pc + 1 = nx) (k : sw_E ly ρ M nx L (.inl (σ i x.toNat) :: st) σ Q) : sw_E ly ρ M pc L (.inl x :: .inr (.inr i) :: st) σ Q := by
  subst hn
  intro l D c3 ad p e s m args below meth c H locs ls C hP hS hl
  obtain ⟨hin, hix⟩ := sw_ix h0 hx hg
  refine va_zald C.1 C.2.1 C.2.2.2.2.2.2.2.1 hP i 1 (sw_wl_at hk) rfl hin (sw_dec hI h).1 ?_
  rw [hix]
  exact k l D c3 ad p e s m args below meth c H locs ls C hP hS hl
theorem sw_aald (hI : sw_Ok M I) {a b : Nat} {z x : Int} (h : I[pc]? = some (some (.aaload, a, b, z))) {i n r : Nat} (hk : ly[i]? = some (102, n)) (hg : (n : Int) ≤ 2147483648) (h0 : 0 ≤ x) (hx : x < n) (hr : ρ i x.toNat = some r) (nx : Nat) (hn : pc + 1 = nx) (k : sw_E ly ρ M nx L (.inr (.inr r) :: st) σ Q) : sw_E ly ρ M pc L (.inl x :: .inr (.inr i) :: st) σ Q := by
  subst hn
  intro l D c3 ad p e s m args below meth c H locs ls C hP hS hl
  obtain ⟨hin, hix⟩ := sw_ix h0 hx hg
  refine va_aldq C.1 C.2.1 C.2.2.2.2.2.2.2.1 hP i 2 (sw_wl_at hk) rfl hin (sw_dec hI h).1 ?_
  rw [hix, hr]
  exact k l D c3 ad p e s m args below meth c H locs ls C hP hS hl
theorem sw_upd_row {i n : Nat} {v : Int} : upd (fun j => Int32.ofInt (σ i j)) n (Int32.ofInt v) = fun j => Int32.ofInt (sw_u σ i n v i j) := by
  funext j
  by_cases hj : j = n
  · subst hj; simp [upd, sw_u]
  · simp [upd, sw_u, hj]
theorem sw_iast (hI : sw_Ok M I) {a b : Nat} {z x v : Int} (h : I[pc]? = some (some (.iastore, a, b, z))) {i n : Nat} (hk : ly[i]? = some (100, n)) (hg : (n : Int) ≤ 2147483648) (h0 : 0 ≤ x) (hx : x < n) (nx : Nat) (hn : pc + 1 = nx) (k : sw_E ly ρ M nx L st (sw_u σ i x.toNat v) Q) : sw_E ly ρ M pc L (.inl v :: .inl x :: .inr (.inr i) :: st) σ Q := by
  subst hn
  intro l D c3 ad p e s m args below meth c H locs ls C hP hS hl
  obtain ⟨hin, hix⟩ := sw_ix h0 hx hg
  have hj : sw_inj ad ly.length := C.2.2.2.2.2.2.2.2
  refine va_iast C.1 C.2.1 C.2.2.2.2.2.2.2.1 hP (sw_D hj) hS i 0 (sw_wl_at hk) rfl hin (sw_dec hI h).1 (fun H1 locs1 hP1 hD1 hS1 => ?_)
  rw [hix, sw_upd_row] at hP1
  have e2 : (ad i, (Sum.inl (c3.1, n, Sum.inl fun j => Int32.ofInt (sw_u σ i x.toNat v i j)) : va_E)) = (ad i, sw_ce c3 ad ρ (sw_u σ i x.toNat v) i (100, n)) := rfl
  rw [e2, sw_wl_set hk (fun a' b' h' => sw_u_row σ v h')] at hP1
  exact k l D c3 ad p e s m args below meth c H1 locs1 ls C hP1 hS1 hl
theorem sw_zast (hI : sw_Ok M I) {a b : Nat} {z x v : Int} (h : I[pc]? = some (some (.bastore, a, b, z))) {i n : Nat} (hk : ly[i]? = some (101, n)) (hg : (n : Int) ≤ 2147483648) (h0 : 0 ≤ x) (hx : x < n) (hv : v = 0 ∨ v = 1) (nx : Nat) (hn : pc + 1 = nx) (k : sw_E ly ρ M nx L st (sw_u σ i x.toNat v) Q) : sw_E ly ρ M pc L (.inl v :: .inl x :: .inr (.inr i) :: st) σ Q := by
  subst hn
  intro l D c3 ad p e s m args below meth c H locs ls C hP hS hl
  obtain ⟨hin, hix⟩ := sw_ix h0 hx hg
  have hj : sw_inj ad ly.length := C.2.2.2.2.2.2.2.2
  refine va_zast C.1 C.2.1 C.2.2.2.2.2.2.2.1 hP (sw_D hj) hS i 1 (sw_wl_at hk) rfl hin (sw_dec hI h).1 (fun H1 locs1 hP1 hD1 hS1 => ?_)
  have hnv : vp_nar .boolean (Int32.ofInt v) = Int32.ofInt v := by rcases hv with rfl | rfl <;> rfl
  rw [hnv, hix, sw_upd_row] at hP1
  have e2 : (ad i, (Sum.inl (c3.2.1, n, Sum.inl fun j => Int32.ofInt (sw_u σ i x.toNat v i j)) : va_E)) = (ad i, sw_ce c3 ad ρ (sw_u σ i x.toNat v) i (101, n)) := rfl
  rw [e2, sw_wl_set hk (fun a' b' h' => sw_u_row σ v h')] at hP1
  exact k l D c3 ad p e s m args below meth c H1 locs1 ls C hP1 hS1 hl
theorem sw_div32 {x y : Int} (gx : sw_g x) (gy : sw_g y) (h0 : 0 ≤ x) (hy : 0 < y) : Int32.ofInt x / Int32.ofInt y = Int32.ofInt (x / y) := by
  have hq : x / y ≤ x := Int.ediv_le_self y h0
  have hq0 : 0 ≤ x / y := Int.ediv_nonneg h0 (by omega)
  apply Int32.toInt_inj.mp
  have hne : Int32.ofInt y ≠ -1 := by
    intro q
    have q2 : (Int32.ofInt y).toInt = -1 := by rw [q]; rfl
    rw [sw_ti gy] at q2
    omega
  rw [Int32.toInt_div_of_ne_right _ _ hne, sw_ti gx, sw_ti gy, sw_ti (x := x / y) ⟨by omega, by have := gx.2; omega⟩, Int.tdiv_eq_ediv_of_nonneg h0]
theorem sw_idiv (hI : sw_Ok M I) {a b : Nat} {z x y : Int} (h : I[pc]? = some (some (.idiv, a, b, z))) (gx : sw_g x) (gy : sw_g y) (h0 : 0 ≤ x) (hy : 0 < y) (nx : Nat) (hn : pc + 1 = nx) (k : sw_E ly ρ M nx L (.inl (x / y) :: st) σ Q) : sw_E ly ρ M pc L (.inl y :: .inl x :: st) σ Q := by
  subst hn
  intro l D c3 ad p e s m args below meth c H locs ls C hP hS hl
  have hne : ¬ Int32.ofInt y = 0 := fun q => by
    have q2 := (sw_eq gy sw_g0).mp q
    omega
  refine lv_idiv C.1 C.2.1 (sw_dec hI h).1 hne ?_
  rw [sw_div32 gx gy h0 hy]
  exact k l D c3 ad p e s m args below meth c H locs ls C hP hS hl
theorem sw_irem (hI : sw_Ok M I) {a b : Nat} {z x y : Int} (h : I[pc]? = some (some (.irem, a, b, z))) (gx : sw_g x) (gy : sw_g y) (h0 : 0 ≤ x) (hy : 0 < y) (nx : Nat) (hn : pc + 1 = nx) (k : sw_E ly ρ M nx L (.inl (x % y) :: st) σ Q) : sw_E ly ρ M pc L (.inl y :: .inl x :: st) σ Q := by
  subst hn
  intro l D c3 ad p e s m args below meth c H locs ls C hP hS hl
  have hne : ¬ Int32.ofInt y = 0 := fun q => by
    have q2 := (sw_eq gy sw_g0).mp q
    omega
  refine lv_irem C.1 C.2.1 (sw_dec hI h).1 hne ?_
  rw [sw_div32 gx gy h0 hy, ← Int32.ofInt_mul, ← Int32.ofInt_sub, show x - x / y * y = x % y by rw [Int.emod_def, Int.mul_comm]]
  exact k l D c3 ad p e s m args below meth c H locs ls C hP hS hl
theorem sw_ixor (hI : sw_Ok M I) {a b : Nat} {z x y : Int} (h : I[pc]? = some (some (.ixor, a, b, z))) (gx : sw_g x) (gy : sw_g y) (h0 : 0 ≤ x) (hy : 0 ≤ y) (nx : Nat) (hn : pc + 1 = nx) (k : ∀ w : Int, 0 ≤ w → sw_g w → sw_E ly ρ M nx L (.inl w :: st) σ Q) : sw_E ly ρ M pc L (.inl y :: .inl x :: st) σ Q := by
  subst hn
  intro l D c3 ad p e s m args below meth c H locs ls C hP hS hl
  refine lv_ixor C.1 C.2.1 (sw_dec hI h).1 ?_
  have hm : ∀ t : Int, sw_g t → 0 ≤ t → (Int32.ofInt t).toBitVec.msb = false := by
    intro t gt ht
    rw [BitVec.msb_eq_toInt]
    have : (Int32.ofInt t).toBitVec.toInt = t := sw_ti gt
    rw [this]
    simp; omega
  have hw : 0 ≤ (Int32.ofInt x ^^^ Int32.ofInt y).toInt := by
    have e1 : ((Int32.ofInt x).toBitVec ^^^ (Int32.ofInt y).toBitVec).msb = false := by rw [BitVec.msb_xor, hm x gx h0, hm y gy hy]; rfl
    rw [BitVec.msb_eq_toInt] at e1
    have e2 : ¬ ((Int32.ofInt x).toBitVec ^^^ (Int32.ofInt y).toBitVec).toInt < 0 := by simpa using e1
    have e3 : (Int32.ofInt x ^^^ Int32.ofInt y).toInt = ((Int32.ofInt x).toBitVec ^^^ (Int32.ofInt y).toBitVec).toInt := rfl
    rw [e3]; omega
  have kk := k (Int32.ofInt x ^^^ Int32.ofInt y).toInt hw ⟨by omega, Int32.toInt_lt _⟩ l D c3 ad p e s m args below meth c H locs ls C hP hS hl
  simp only [List.map_cons, sw_tv, Int32.ofInt_toInt] at kk
  exact kk
theorem sw_i2l (hI : sw_Ok M I) {a b : Nat} {z x : Int} (h : I[pc]? = some (some (.i2l, a, b, z))) (gx : sw_g x) (nx : Nat) (hn : pc + 1 = nx) (k : sw_E ly ρ M nx L (.inr (.inl x) :: st) σ Q) : sw_E ly ρ M pc L (.inl x :: st) σ Q := by
  subst hn
  intro l D c3 ad p e s m args below meth c H locs ls C hP hS hl
  refine lv_i2l C.1 C.2.1 (sw_dec hI h).1 ?_ (k l D c3 ad p e s m args below meth c H locs ls C hP hS hl)
  apply Int64.toInt_inj.mp
  rw [Int32.toInt_toInt64, sw_ti gx, Int64.toInt_ofInt_of_le (by have := gx.1; omega) (by have := gx.2; omega)]
theorem sw_lcmp (hI : sw_Ok M I) {a b : Nat} {z x y : Int} (h : I[pc]? = some (some (.lcmp, a, b, z))) (gx : -9000000000 ≤ x ∧ x < 9000000000) (gy : -9000000000 ≤ y ∧ y < 9000000000) (nx : Nat) (hn : pc + 1 = nx) (k1 : y < x → sw_E ly ρ M nx L (.inl 1 :: st) σ Q) (k0 : x = y → sw_E ly ρ M nx L (.inl 0 :: st) σ Q) (k2 : x < y → sw_E ly ρ M nx L (.inl (-1) :: st) σ Q) : sw_E ly ρ M pc L (.inr (.inl y) :: .inr (.inl x) :: st) σ Q := by
  subst hn
  intro l D c3 ad p e s m args below meth c H locs ls C hP hS hl
  have tx : (Int64.ofInt x).toInt = x := Int64.toInt_ofInt_of_le (by omega) (by omega)
  have ty : (Int64.ofInt y).toInt = y := Int64.toInt_ofInt_of_le (by omega) (by omega)
  refine W.lcmp C.1 C.2.1 (sw_dec hI h).1 ?_
  rcases Int.lt_trichotomy y x with q | q | q
  · have e1 : lg_cmp (Int64.ofInt x) (Int64.ofInt y) = 1 := by simp [lg_cmp, Int64.lt_iff_toInt_lt, tx, ty, q]
    rw [e1]
    exact k1 q l D c3 ad p e s m args below meth c H locs ls C hP hS hl
  · have e1 : lg_cmp (Int64.ofInt x) (Int64.ofInt y) = 0 := by simp [lg_cmp, q]
    rw [e1]
    exact k0 q.symm l D c3 ad p e s m args below meth c H locs ls C hP hS hl
  · have n1 : ¬ Int64.ofInt y < Int64.ofInt x := by rw [Int64.lt_iff_toInt_lt, tx, ty]; omega
    have n2 : ¬ Int64.ofInt x = Int64.ofInt y := by rw [← Int64.toInt_inj, tx, ty]; omega
    have e1 : lg_cmp (Int64.ofInt x) (Int64.ofInt y) = -1 := by simp [lg_cmp, n1, n2]
    rw [e1]
    exact k2 q l D c3 ad p e s m args below meth c H locs ls C hP hS hl
/-! ends -/
theorem sw_ireturn (hI : sw_Ok M I) {a b : Nat} {z v : Int} (h : I[pc]? = some (some (.ireturn, a, b, z))) (hr : M.2.2.2.1 = some .int) (hq : Q (some (.inl v)) σ) : sw_E ly ρ M pc L [.inl v] σ Q := by
  intro l D c3 ad p e s m args below meth c H locs ls C hP hS hl
  have hlk : meth.locks = false := C.2.2.2.2.2.2.1
  exact W.iret C.1 C.2.1 (C.2.2.1.trans hr) (fun t ht hW => ⟨⟨some (.inl v), σ, rfl, hq, by rw [ht]; exact hP, va_K.moved hW.alike C.2.2.2.2.2.2.2.1⟩, hS.F ht⟩) hS.2.2 (sw_dec hI h).1 hlk
theorem sw_zreturn (hI : sw_Ok M I) {a b : Nat} {z v : Int} (h : I[pc]? = some (some (.ireturn, a, b, z))) (hr : M.2.2.2.1 = some .boolean) (hv : v = 0 ∨ v = 1) (hq : Q (some (.inl v)) σ) : sw_E ly ρ M pc L [.inl v] σ Q := by
  intro l D c3 ad p e s m args below meth c H locs ls C hP hS hl
  have hlk : meth.locks = false := C.2.2.2.2.2.2.1
  exact W.zret C.1 C.2.1 (C.2.2.1.trans hr) (by rcases hv with rfl | rfl <;> rfl) (fun t ht hW => ⟨⟨some (.inl v), σ, rfl, hq, by rw [ht]; exact hP, va_K.moved hW.alike C.2.2.2.2.2.2.2.1⟩, hS.F ht⟩) hS.2.2 (sw_dec hI h).1 hlk
theorem sw_lreturn (hI : sw_Ok M I) {a b : Nat} {z v : Int} (h : I[pc]? = some (some (.lreturn, a, b, z))) (hr : M.2.2.2.1 = some .long) (hq : Q (some (.inr (.inl v))) σ) : sw_E ly ρ M pc L [.inr (.inl v)] σ Q := by
  intro l D c3 ad p e s m args below meth c H locs ls C hP hS hl
  have hlk : meth.locks = false := C.2.2.2.2.2.2.1
  exact W.lret C.1 C.2.1 (C.2.2.1.trans hr) (fun t ht hW => ⟨⟨some (.inr (.inl v)), σ, rfl, hq, by rw [ht]; exact hP, va_K.moved hW.alike C.2.2.2.2.2.2.2.1⟩, hS.F ht⟩) hS.2.2 (sw_dec hI h).1 hlk
theorem sw_vreturn (hI : sw_Ok M I) {a b : Nat} {z : Int} (h : I[pc]? = some (some (.return_, a, b, z))) (hr : M.2.2.2.1 = none) (hq : Q none σ) : sw_E ly ρ M pc L [] σ Q := by
  intro l D c3 ad p e s m args below meth c H locs ls C hP hS hl
  have hlk : meth.locks = false := C.2.2.2.2.2.2.1
  exact W.vret C.1 C.2.1 (C.2.2.1.trans hr) (fun t ht hW => ⟨⟨none, σ, rfl, hq, by rw [ht]; exact hP, va_K.moved hW.alike C.2.2.2.2.2.2.2.1⟩, hS.F ht⟩) hS.2.2 (sw_dec hI h).1 hlk
/-! switches -/
theorem sw_tabIn (hI : sw_Ok M I) {dflt lo hi : Int} {offs : Array Int} {a b : Nat} {z x : Int} (h : I[pc]? = some (some (.tableswitch dflt lo hi offs, a, b, z))) (gx : sw_g x) (h1 : ¬ x < lo) (h2 : ¬ hi < x) {off : Int} (ho : offs[(x - lo).toNat]? = some off) (tgt : Nat) (ht : (pc : Int) + off = (tgt : Int)) (k : sw_E ly ρ M tgt L st σ Q) : sw_E ly ρ M pc L (.inl x :: st) σ Q := by
  intro l D c3 ad p e s m args below meth c H locs ls C hP hS hl
  exact lv_tableIn C.1 C.2.1 (sw_dec hI h).1 (by rw [sw_ti gx]; exact h1) (by rw [sw_ti gx]; exact h2) (by rw [sw_ti gx]; exact ho) ht (k l D c3 ad p e s m args below meth c H locs ls C hP hS hl)
theorem sw_tabOut (hI : sw_Ok M I) {dflt lo hi : Int} {offs : Array Int} {a b : Nat} {z x : Int} (h : I[pc]? = some (some (.tableswitch dflt lo hi offs, a, b, z))) (gx : sw_g x) (h1 : x < lo ∨ hi < x) (tgt : Nat) (ht : (pc : Int) + dflt = (tgt : Int)) (k : sw_E ly ρ M tgt L st σ Q) : sw_E ly ρ M pc L (.inl x :: st) σ Q := by
  intro l D c3 ad p e s m args below meth c H locs ls C hP hS hl
  exact lv_tableOut C.1 C.2.1 (sw_dec hI h).1 (by rw [sw_ti gx]; exact h1) ht (k l D c3 ad p e s m args below meth c H locs ls C hP hS hl)
theorem sw_look (hI : sw_Ok M I) {dflt : Int} {ps : Array (Int × Int)} {a b : Nat} {z x : Int} (h : I[pc]? = some (some (.lookupswitch dflt ps, a, b, z))) (gx : sw_g x) (hp : (ps.toList.zip (ps.toList.drop 1)).all (fun (a, next) => a.1 < next.1) = true) {off : Int} (ho : Op.lookupswitch.offset ps.toList dflt x = off) (tgt : Nat) (ht : (pc : Int) + off = (tgt : Int)) (k : sw_E ly ρ M tgt L st σ Q) : sw_E ly ρ M pc L (.inl x :: st) σ Q := by
  intro l D c3 ad p e s m args below meth c H locs ls C hP hS hl
  exact lv_lookup C.1 C.2.1 (sw_dec hI h).1 hp (by rw [sw_ti gx]; exact ho) ht (k l D c3 ad p e s m args below meth c H locs ls C hP hS hl)
end Rows
end
section
theorem sw_goodB : sw_tb.all goodWord = true := List.all_eq_true.mpr (fun w hw => (List.mem_filter.mp hw).2)
theorem sw_good {M : sw_M} (h : Cond.code M.1 M.2.1 M.2.2.1 M.2.2.2.1 ∈ sw_tb) : GoodIn sw_tb (sw_ws M) := by
  have hm : ∀ w ∈ sw_ws M, w ∈ sw_tb := by
    intro w hw
    rcases List.mem_cons.mp hw with e | e
    · rw [e]; exact h
    · exact e
  exact fun w hw => ⟨hm w hw, good_of_word (List.all_eq_true.mp sw_goodB w (hm w hw))⟩
/-- what the tables say of a method that is called: its code, its class, how many arguments -/
def sw_cal (M : sw_M) (n : Nat) : Prop := Cond.code M.1 M.2.1 M.2.2.1 M.2.2.2.1 ∈ sw_tb ∧ Cond.initialized M.1.cls ∈ sw_tb ∧ (M.1.cls ≠ "java/lang/invoke/MethodHandle" ∧ M.1.cls ≠ "java/lang/invoke/VarHandle" ∧ (parseMethodDescriptor M.1.desc).map (fun d => d.parameters.length) = some n)
def sw_calS (M : sw_M) (n : Nat) : Prop := sw_cal M n ∧ Cond.static M.1 ∈ sw_tb
def sw_calV (M : sw_M) (n : Nat) : Prop := sw_cal M n ∧ Cond.instanceMethod M.1 ∈ sw_tb ∧ Cond.selects M.1.cls M.1 M.1 ∈ sw_tb
def sw_fit (M M' : sw_M) : Prop := M'.2.2.2.2.1 + 1 ≤ M.2.2.2.2.1 ∧ 8 + (M'.2.2.1 + 11) + M'.2.2.2.2.2 ≤ M.2.2.2.2.2
theorem sw_rest (ad : Nat → Nat) : ∀ (rest : List sw_Vl), rest.length ≤ 4 → ((rest.map (sw_tv ad)).map fun v => v.category).sum ≤ 8 := by
  have key : ∀ (rest : List sw_Vl), ((rest.map (sw_tv ad)).map fun v => v.category).sum ≤ 2 * rest.length := by
    intro rest
    induction rest with
    | nil => simp
    | cons v r ih =>
      simp only [List.map_cons, List.sum_cons, List.length_cons]
      have : (sw_tv ad v).category ≤ 2 := by rw [sw_tv_cat]; rcases v with x | x | a <;> simp [sw_cat]
      omega
  intro rest h
  have := key rest
  omega
theorem sw_go {p : Program} {l : Launch} {e : Env} {R : Room} {s : State} {m : MethodId} {args : Array Value} {below : List Frame} {meth : Method} {c : Code} {H : Heap} {locs : List Loc} {Qw : State → Prop} {D : va_G} {c3 : sw_C3} {ad : Nat → Nat} {ly : sw_Ly} {ρ : sw_Rf} {Q' : Option sw_Vl → sw_S → Prop} {a : Array Value} {pc k0 n0 : Nat} {ls : Array Slot} {st0 rest : List Value} {A0 : Nat → Prop} {H0 : Heap}
    (hr : va_Run p l e R s m args below meth c H locs k0 n0 0 0 (F0 m pc ls st0) rest (sw_Qc D c3 ad ly ρ Q' (sw_A ad ly.length H.size) a) (sw_A ad ly.length H.size)) (hS : va_S A0 H0 H locs) (hA1 : ∀ i, i < ly.length → A0 (ad i)) (hA2 : ∀ q, H0.size ≤ q → A0 q)
    (kk : ∀ (r : Option sw_Vl) (σ' : sw_S) (H1 : Heap) (locs1 : List Loc), Q' r σ' → va_P D sw_cl (sw_wl c3 ad ly ρ σ') H1 → va_S A0 H0 H1 locs1 → W p l e R s m args below meth c H1 locs1 k0 n0 Qw (F0 m (pc + 3) ls ((r.map (sw_tv ad)).toList ++ rest))) : W p l e R s m args below meth c H locs k0 n0 Qw (F0 m pc ls st0) := by
  have hA : ∀ q, sw_A ad ly.length H.size q → A0 q := by
    intro q h
    rcases h with ⟨i, hi, rfl⟩ | h
    · exact hA1 i hi
    · exact hA2 q (Nat.le_trans hS.1 h)
  intro T hT X
  obtain ⟨v, st₀, t, T', L, h0, X', hL, e1, e2, ⟨⟨r, σ', hv, hq, hP', hK'⟩, hz, hk⟩, st⟩ := hr T hT X
  cases hv
  rw [h0] at hz hk
  obtain ⟨t2, a1, b1⟩ := kk r σ' T'.heap (locs ++ L) hq (by rw [e1]; exact hP')
    ⟨Nat.le_trans hS.1 (by rw [e1]; exact hz), fun q h1 h2 => by rw [e1, hk q (Nat.lt_of_lt_of_le h1 hS.1) (fun z => h2 (hA q z))]; exact hS.2.1 q h1 h2, fun q hq => by
      rcases List.mem_append.mp hq with h | h
      · exact hS.2.2 q h
      · exact hA _ (hL q h)⟩ T' rfl X'
  exact ⟨t2, st t2 a1, b1⟩
theorem sw_blind {D : va_G} {c3 : sw_C3} {ad : Nat → Nat} {ly : sw_Ly} {ρ : sw_Rf} {σ : sw_S} {args : List sw_Vl} {sz : Nat} : FrameBlind (sw_Pc D c3 ad ly ρ σ args sz) := fun a U g mk q => by
  obtain ⟨q0, q1, qP, qK⟩ := q
  exact ⟨q0, q1, qP, va_K.moved (u := U) (U := U.calling g mk a) (Vm.Alike.refl U.vm) qK⟩
section Calls
variable {ly : sw_Ly} {ρ : sw_Rf} {M M' : sw_M} {I : List (Option sw_I)} {pc : Nat} {L : sw_L} {σ : sw_S} {Q Q' : Option sw_Vl → sw_S → Prop}
theorem sw_callS (hI : sw_Ok M I) {idx a b n : Nat} {z : Int} (h : I[pc]? = some (some (.invokestatic idx, a, b, z))) (hc : sw_calS M' n) (hl : Cond.methodLink M.1.cls idx M'.1 ∈ sw_tb) (hf : sw_fit M M') (as rest : List sw_Vl) {st : List sw_Vl} (hn : as.length = n) (hst : st = as.reverse ++ rest) (h4 : rest.length ≤ 4) (nx : Nat) (hnx : pc + 3 = nx) (hC : sw_Con ly ρ M' as σ Q') (k : ∀ (r : Option sw_Vl) (σ' : sw_S), Q' r σ' → sw_E ly ρ M nx L (r.toList ++ rest) σ' Q) : sw_E ly ρ M pc L st σ Q := by
  subst hnx
  subst hst
  obtain ⟨⟨hcode, hini, hd⟩, hsta⟩ := hc
  intro l D c3 ad p e s m args below meth c H locs ls C hP hS hls
  have C0 := C
  obtain ⟨hx, hb, hr, hml, hown, hts, hlk, hK, hj⟩ := C
  have hG : GoodIn sw_tb (va_wsS M.1.cls idx M'.1 (sw_ws M')) := by
    intro w hw
    rcases List.mem_append.mp hw with hw | hw
    · refine ⟨?_, good_of_word (List.all_eq_true.mp sw_goodB w ?_)⟩ <;>
      · simp only [List.mem_cons, List.not_mem_nil, or_false] at hw
        rcases hw with rfl | rfl | rfl
        · exact hl
        · exact hsta
        · exact hini
    · exact sw_good hcode w hw
  have hrun := va_runS (R := sw_rm M) (H := H) (locs := locs) (cells := 0) (slots := 0) (below := below) (meth := meth) (e := e) (As := as.map (sw_tv ad)) (rest := rest.map (sw_tv ad)) (g := F0 m pc ls ((as.reverse ++ rest).map (sw_tv ad))) ⟨hx, hb, hml, hown, hts⟩ (hC l D c3 ad H.size hj) (va_cwS n hts hG rfl rfl rfl hd hf) ⟨sw_blind, fun U hU hW => ⟨rfl, by rw [hU], by rw [hU]; exact hP, va_K.moved hW.alike hK⟩⟩ rfl (by rw [List.length_map]; exact hn) hls.1 (by simp) (by show 2 * 0 + _ ≤ 8; rw [Nat.mul_zero, Nat.zero_add]; exact sw_rest ad rest h4) (sw_dec hI h).1 ⟨Nat.le_refl _, Nat.le_refl _⟩
  refine sw_go hrun hS (fun i hi => Or.inl ⟨i, hi, rfl⟩) (fun q hq => Or.inr hq) (fun r σ' H1 locs1 hq hP1 hS1 => ?_)
  have kk := k r σ' hq l D c3 ad p e s m args below meth c H1 locs1 ls C0 hP1 hS1 hls
  cases r <;> exact kk
theorem sw_callV (hI : sw_Ok M I) {idx a b n : Nat} {z : Int} (h : I[pc]? = some (some (.invokevirtual idx, a, b, z))) (hc : sw_calV M' n) (hl : Cond.methodLink M.1.cls idx M'.1 ∈ sw_tb) (hf : sw_fit M M') (o : Nat) {ci kn : Nat} {T : u_T} {N : Nat} (hk : ly[o]? = some (ci, kn)) (hcl : sw_cl[ci]? = some (M'.1.cls, T, N)) (as rest : List sw_Vl) {st : List sw_Vl} (hn : as.length = n) (hst : st = as.reverse ++ .inr (.inr o) :: rest) (h4 : rest.length ≤ 4) (nx : Nat) (hnx : pc + 3 = nx) (hC : sw_Con ly ρ M' (.inr (.inr o) :: as) σ Q') (k : ∀ (r : Option sw_Vl) (σ' : sw_S), Q' r σ' → sw_E ly ρ M nx L (r.toList ++ rest) σ' Q) : sw_E ly ρ M pc L st σ Q := by
  subst hnx
  subst hst
  obtain ⟨⟨hcode, hini, hd⟩, hins, hsel⟩ := hc
  intro l D c3 ad p e s m args below meth c H locs ls C hP hS hls
  have C0 := C
  obtain ⟨hx, hb, hr, hml, hown, hts, hlk, hK, hj⟩ := C
  have hG : GoodIn sw_tb (wsV M.1.cls idx M'.1.cls M'.1 (sw_ws M')) := by
    intro w hw
    rcases List.mem_append.mp hw with hw | hw
    · refine ⟨?_, good_of_word (List.all_eq_true.mp sw_goodB w ?_)⟩ <;>
      · simp only [List.mem_cons, List.not_mem_nil, or_false] at hw
        rcases hw with rfl | rfl | rfl | rfl
        · exact hl
        · exact hins
        · exact hsel
        · exact hini
    · exact sw_good hcode w hw
  have hci : ci < 9 := (List.getElem?_eq_some_iff.mp hcl).1
  have he := sw_wl_at (c3 := c3) (ad := ad) (ρ := ρ) (σ := σ) hk
  have hce : sw_ce c3 ad ρ σ o (ci, kn) = .inr (ci, (List.range (sw_N ci)).map fun j => sw_fv ad (ρ o j) (σ o j)) := by
    unfold sw_ce
    rw [if_neg (by show ¬ ci = 100; omega), if_neg (by show ¬ ci = 101; omega), if_neg (by show ¬ ci = 102; omega)]
  rw [hce] at he
  have hrun := va_runV (R := sw_rm M) (C := M'.1.cls) (H := H) (locs := locs) (cells := 0) (slots := 0) (below := below) (meth := meth) (e := e) (As := as.map (sw_tv ad)) (b := ad o) (rest := rest.map (sw_tv ad)) (g := F0 m pc ls ((as.reverse ++ .inr (.inr o) :: rest).map (sw_tv ad))) ⟨hx, hb, hml, hown, hts⟩ (hC l D c3 ad H.size hj) (cwV n hts hG rfl rfl rfl ⟨rfl, hd⟩ hf) ⟨sw_blind, va_recv hK hP hcl he, fun U hU hW => ⟨rfl, by rw [hU], by rw [hU]; exact hP, va_K.moved hW.alike hK⟩⟩ rfl (by rw [List.length_map]; exact hn) hls.1 (by simp [sw_tv]) (by show 2 * 0 + _ ≤ 8; rw [Nat.mul_zero, Nat.zero_add]; exact sw_rest ad rest h4) (sw_dec hI h).1 ⟨Nat.le_refl _, Nat.le_refl _⟩
  refine sw_go hrun hS (fun i hi => Or.inl ⟨i, hi, rfl⟩) (fun q hq => Or.inr hq) (fun r σ' H1 locs1 hq hP1 hS1 => ?_)
  have kk := k r σ' hq l D c3 ad p e s m args below meth c H1 locs1 ls C0 hP1 hS1 hls
  cases r <;> exact kk
end Calls
end
section
abbrev M_X0_addBroken : sw_M := (yX0_addBroken, cX0_addBroken, 3, (some .int), 1, 21)
def I_X0_addBroken : List (Option sw_I) := [some (.aload_n 0, 0, 0, 0), some (.getfield 9, 0, 0, 0), none, none, some (.iload_n 1, 0, 0, 0), some (.aload_n 0, 0, 0, 0), some (.getfield 9, 0, 0, 0), none, none, some (.iload_n 1, 0, 0, 0), some (.iaload, 0, 0, 0), some (.iload_n 2, 0, 0, 0), some (.iadd, 0, 0, 0), some (.bipush 99, 0, 0, 99), none, some (.invokestatic 15, 0, 0, 0), none, none, some (.iastore, 0, 0, 0), some (.aload_n 0, 0, 0, 0), some (.getfield 9, 0, 0, 0), none, none, some (.iload_n 1, 0, 0, 0), some (.iaload, 0, 0, 0), some (.ireturn, 0, 0, 0)]
set_option maxRecDepth 100000 in
theorem k_X0_addBroken : sw_Ok M_X0_addBroken I_X0_addBroken := (by decide +kernel : sw_ok yX0_addBroken.cls cX0_addBroken 0 I_X0_addBroken = true)
abbrev M_X0_wiresIn : sw_M := (yX0_wiresIn, cX0_wiresIn, 5, (some .int), 1, 21)
def I_X0_wiresIn : List (Option sw_I) := [some (.iconst 0, 0, 0, 0), some (.istore_n 3, 0, 0, 0), some (.iload_n 1, 0, 0, 0), some (.iconst 0, 0, 0, 0), some (.invokestatic 21, 0, 0, 0), none, none, some (.istore 4, 0, 0, 0), none, some (.iload 4, 0, 0, 0), none, some (.iload_n 1, 0, 0, 0), some (.iload_n 2, 0, 0, 0), some (.iadd, 0, 0, 0), some (.if_icmp .ge 26, 0, 0, 0), none, none, some (.iload 4, 0, 0, 0), none, some (.bipush 60, 0, 0, 60), none, some (.if_icmp .ge 19, 0, 0, 0), none, none, some (.iload_n 3, 0, 0, 0), some (.aload_n 0, 0, 0, 0), some (.getfield 9, 0, 0, 0), none, none, some (.iload 4, 0, 0, 0), none, some (.iaload, 0, 0, 0), some (.iadd, 0, 0, 0), some (.istore_n 3, 0, 0, 0), some (.iinc 4 1, 0, 0, 0), none, none, some (.goto (-28), 0, 0, 0), none, none, some (.iload_n 3, 0, 0, 0), some (.ireturn, 0, 0, 0)]
set_option maxRecDepth 100000 in
theorem k_X0_wiresIn : sw_Ok M_X0_wiresIn I_X0_wiresIn := (by decide +kernel : sw_ok yX0_wiresIn.cls cX0_wiresIn 0 I_X0_wiresIn = true)
abbrev M_X0_firstOfWorst : sw_M := (yX0_firstOfWorst, cX0_firstOfWorst, 6, (some .int), 2, 45)
def I_X0_firstOfWorst : List (Option sw_I) := [some (.iconst 0, 0, 0, 0), some (.istore_n 2, 0, 0, 0), some (.aload_n 0, 0, 0, 0), some (.iconst 0, 0, 0, 0), some (.iload_n 1, 0, 0, 0), some (.invokevirtual 24, 0, 0, 0), none, none, some (.istore_n 3, 0, 0, 0), some (.iconst 1, 0, 0, 0), some (.istore 4, 0, 0, 0), none, some (.iload 4, 0, 0, 0), none, some (.iload_n 1, 0, 0, 0), some (.iadd, 0, 0, 0), some (.bipush 60, 0, 0, 60), none, some (.if_icmp .gt 30, 0, 0, 0), none, none, some (.aload_n 0, 0, 0, 0), some (.iload 4, 0, 0, 0), none, some (.iload_n 1, 0, 0, 0), some (.invokevirtual 24, 0, 0, 0), none, none, some (.istore 5, 0, 0, 0), none, some (.iload 5, 0, 0, 0), none, some (.iload_n 3, 0, 0, 0), some (.if_icmp .le 9, 0, 0, 0), none, none, some (.iload 5, 0, 0, 0), none, some (.istore_n 3, 0, 0, 0), some (.iload 4, 0, 0, 0), none, some (.istore_n 2, 0, 0, 0), some (.iinc 4 1, 0, 0, 0), none, none, some (.goto (-33), 0, 0, 0), none, none, some (.iload_n 2, 0, 0, 0), some (.ireturn, 0, 0, 0)]
set_option maxRecDepth 100000 in
theorem k_X0_firstOfWorst : sw_Ok M_X0_firstOfWorst I_X0_firstOfWorst := (by decide +kernel : sw_ok yX0_firstOfWorst.cls cX0_firstOfWorst 0 I_X0_firstOfWorst = true)
abbrev M_X0_cutAway : sw_M := (yX0_cutAway, cX0_cutAway, 4, (some .int), 2, 45)
def I_X0_cutAway : List (Option sw_I) := [some (.aload_n 0, 0, 0, 0), some (.iconst 0, 0, 0, 0), some (.iload_n 1, 0, 0, 0), some (.invokevirtual 24, 0, 0, 0), none, none, some (.istore_n 2, 0, 0, 0), some (.iconst 0, 0, 0, 0), some (.istore_n 3, 0, 0, 0), some (.iload_n 3, 0, 0, 0), some (.bipush 60, 0, 0, 60), none, some (.if_icmp .ge 35, 0, 0, 0), none, none, some (.aload_n 0, 0, 0, 0), some (.getfield 9, 0, 0, 0), none, none, some (.iload_n 3, 0, 0, 0), some (.iload_n 3, 0, 0, 0), some (.iload_n 1, 0, 0, 0), some (.iadd, 0, 0, 0), some (.bipush 60, 0, 0, 60), none, some (.if_icmp .ge 14, 0, 0, 0), none, none, some (.aload_n 0, 0, 0, 0), some (.getfield 9, 0, 0, 0), none, none, some (.iload_n 3, 0, 0, 0), some (.iload_n 1, 0, 0, 0), some (.iadd, 0, 0, 0), some (.iaload, 0, 0, 0), some (.goto 4, 0, 0, 0), none, none, some (.iconst 0, 0, 0, 0), some (.iastore, 0, 0, 0), some (.iinc 3 1, 0, 0, 0), none, none, some (.goto (-35), 0, 0, 0), none, none, some (.iload_n 2, 0, 0, 0), some (.ireturn, 0, 0, 0)]
set_option maxRecDepth 100000 in
theorem k_X0_cutAway : sw_Ok M_X0_cutAway I_X0_cutAway := (by decide +kernel : sw_ok yX0_cutAway.cls cX0_cutAway 0 I_X0_cutAway = true)
abbrev M_X0_fewestToCut : sw_M := (yX0_fewestToCut, cX0_fewestToCut, 4, (some .int), 2, 45)
def I_X0_fewestToCut : List (Option sw_I) := [some (.bipush 59, 0, 0, 59), none, some (.istore_n 3, 0, 0, 0), some (.iload_n 3, 0, 0, 0), some (.ifCond .lt 23, 0, 0, 0), none, none, some (.aload_n 0, 0, 0, 0), some (.iload_n 3, 0, 0, 0), some (.iload_n 1, 0, 0, 0), some (.invokevirtual 24, 0, 0, 0), none, none, some (.iload_n 2, 0, 0, 0), some (.if_icmp .le 7, 0, 0, 0), none, none, some (.iload_n 3, 0, 0, 0), some (.iconst 1, 0, 0, 0), some (.iadd, 0, 0, 0), some (.ireturn, 0, 0, 0), some (.iinc 3 (-1), 0, 0, 0), none, none, some (.goto (-21), 0, 0, 0), none, none, some (.iconst 0, 0, 0, 0), some (.ireturn, 0, 0, 0)]
set_option maxRecDepth 100000 in
theorem k_X0_fewestToCut : sw_Ok M_X0_fewestToCut I_X0_fewestToCut := (by decide +kernel : sw_ok yX0_fewestToCut.cls cX0_fewestToCut 0 I_X0_fewestToCut = true)
abbrev M_X0_take : sw_M := (yX0_take, cX0_take, 4, none, 1, 21)
def I_X0_take : List (Option sw_I) := [some (.iconst 0, 0, 0, 0), some (.istore_n 3, 0, 0, 0), some (.iload_n 3, 0, 0, 0), some (.iload_n 2, 0, 0, 0), some (.if_icmp .ge 39, 0, 0, 0), none, none, some (.iload_n 3, 0, 0, 0), some (.bipush 60, 0, 0, 60), none, some (.if_icmp .ge 33, 0, 0, 0), none, none, some (.iload_n 3, 0, 0, 0), some (.aload_n 1, 0, 0, 0), some (.arraylength, 0, 0, 0), some (.if_icmp .ge 27, 0, 0, 0), none, none, some (.aload_n 0, 0, 0, 0), some (.getfield 9, 0, 0, 0), none, none, some (.iload_n 3, 0, 0, 0), some (.iconst 0, 0, 0, 0), some (.aload_n 1, 0, 0, 0), some (.iload_n 3, 0, 0, 0), some (.iaload, 0, 0, 0), some (.bipush 99, 0, 0, 99), none, some (.invokestatic 15, 0, 0, 0), none, none, some (.invokestatic 21, 0, 0, 0), none, none, some (.iastore, 0, 0, 0), some (.iinc 3 1, 0, 0, 0), none, none, some (.goto (-38), 0, 0, 0), none, none, some (.return_, 0, 0, 0)]
set_option maxRecDepth 100000 in
theorem k_X0_take : sw_Ok M_X0_take I_X0_take := (by decide +kernel : sw_ok yX0_take.cls cX0_take 0 I_X0_take = true)
abbrev M_X1_forget : sw_M := (yX1_forget, cX1_forget, 1, none, 0, 0)
def I_X1_forget : List (Option sw_I) := [some (.aload_n 0, 0, 0, 0), some (.iconst (-1), 0, 0, 0), some (.putfield 22, 1, 2, 0), none, none, some (.return_, 0, 0, 0)]
set_option maxRecDepth 100000 in
theorem k_X1_forget : sw_Ok M_X1_forget I_X1_forget := (by decide +kernel : sw_ok yX1_forget.cls cX1_forget 0 I_X1_forget = true)
abbrev M_X1_ticksBetween : sw_M := (yX1_ticksBetween, cX1_ticksBetween, 4, (some .int), 4, 93)
def I_X1_ticksBetween : List (Option sw_I) := [some (.iload_n 1, 0, 0, 0), some (.iload_n 2, 0, 0, 0), some (.if_icmp .eq 25, 0, 0, 0), none, none, some (.aload_n 0, 0, 0, 0), some (.getfield 9, 1, 0, 0), none, none, some (.iload_n 1, 0, 0, 0), some (.invokevirtual 26, 0, 0, 0), none, none, some (.ifCond .eq 14, 0, 0, 0), none, none, some (.aload_n 0, 0, 0, 0), some (.getfield 9, 1, 0, 0), none, none, some (.iload_n 2, 0, 0, 0), some (.invokevirtual 26, 0, 0, 0), none, none, some (.ifCond .ne 5, 0, 0, 0), none, none, some (.iconst 0, 0, 0, 0), some (.ireturn, 0, 0, 0), some (.aload_n 0, 0, 0, 0), some (.iload_n 2, 0, 0, 0), some (.iload_n 1, 0, 0, 0), some (.iload_n 2, 0, 0, 0), some (.if_icmp .ge 7, 0, 0, 0), none, none, some (.iconst 1, 0, 0, 0), some (.goto 4, 0, 0, 0), none, none, some (.iconst (-1), 0, 0, 0), some (.invokevirtual 32, 0, 0, 0), none, none, some (.iload_n 2, 0, 0, 0), some (.iload_n 1, 0, 0, 0), some (.isub, 0, 0, 0), some (.invokestatic 36, 0, 0, 0), none, none, some (.istore_n 3, 0, 0, 0), some (.aload_n 0, 0, 0, 0), some (.getfield 42, 1, 4, 0), none, none, some (.iload_n 3, 0, 0, 0), some (.if_icmp .ge 24, 0, 0, 0), none, none, some (.aload_n 0, 0, 0, 0), some (.dup, 0, 0, 0), some (.getfield 42, 1, 4, 0), none, none, some (.iconst 1, 0, 0, 0), some (.iadd, 0, 0, 0), some (.putfield 42, 1, 4, 0), none, none, some (.aload_n 0, 0, 0, 0), some (.aload_n 0, 0, 0, 0), some (.getfield 42, 1, 4, 0), none, none, some (.invokevirtual 45, 0, 0, 0), none, none, some (.goto (-26), 0, 0, 0), none, none, some (.aload_n 0, 0, 0, 0), some (.getfield 15, 1, 1, 0), none, none, some (.iload_n 3, 0, 0, 0), some (.bipush 21, 0, 0, 21), none, some (.imul, 0, 0, 0), some (.iaload, 0, 0, 0), some (.ireturn, 0, 0, 0)]
set_option maxRecDepth 100000 in
theorem k_X1_ticksBetween : sw_Ok M_X1_ticksBetween I_X1_ticksBetween := (by decide +kernel : sw_ok yX1_ticksBetween.cls cX1_ticksBetween 0 I_X1_ticksBetween = true)
abbrev M_X1_trace : sw_M := (yX1_trace, cX1_trace, 8, (some .int), 5, 116)
def I_X1_trace : List (Option sw_I) := [some (.aload_n 0, 0, 0, 0), some (.iload_n 1, 0, 0, 0), some (.iload_n 2, 0, 0, 0), some (.invokevirtual 49, 0, 0, 0), none, none, some (.aload_n 3, 0, 0, 0), some (.arraylength, 0, 0, 0), some (.invokestatic 53, 0, 0, 0), none, none, some (.istore 4, 0, 0, 0), none, some (.iload_n 2, 0, 0, 0), some (.iload_n 1, 0, 0, 0), some (.isub, 0, 0, 0), some (.invokestatic 36, 0, 0, 0), none, none, some (.istore 5, 0, 0, 0), none, some (.iconst 0, 0, 0, 0), some (.istore 6, 0, 0, 0), none, some (.iconst 0, 0, 0, 0), some (.istore 7, 0, 0, 0), none, some (.iload 7, 0, 0, 0), none, some (.iload 4, 0, 0, 0), none, some (.if_icmp .ge 37, 0, 0, 0), none, none, some (.aload_n 0, 0, 0, 0), some (.iload 5, 0, 0, 0), none, some (.iload 6, 0, 0, 0), none, some (.invokevirtual 56, 0, 0, 0), none, none, some (.istore 6, 0, 0, 0), none, some (.aload_n 3, 0, 0, 0), some (.iload 7, 0, 0, 0), none, some (.aload_n 0, 0, 0, 0), some (.getfield 59, 1, 3, 0), none, none, some (.iload 6, 0, 0, 0), none, some (.imul, 0, 0, 0), some (.iastore, 0, 0, 0), some (.iload 5, 0, 0, 0), none, some (.iload 6, 0, 0, 0), none, some (.isub, 0, 0, 0), some (.istore 5, 0, 0, 0), none, some (.iinc 7 1, 0, 0, 0), none, none, some (.goto (-38), 0, 0, 0), none, none, some (.iload 4, 0, 0, 0), none, some (.ireturn, 0, 0, 0)]
set_option maxRecDepth 100000 in
theorem k_X1_trace : sw_Ok M_X1_trace I_X1_trace := (by decide +kernel : sw_ok yX1_trace.cls cX1_trace 0 I_X1_trace = true)
abbrev M_X1_aimAt : sw_M := (yX1_aimAt, cX1_aimAt, 4, none, 0, 0)
def I_X1_aimAt : List (Option sw_I) := [some (.aload_n 0, 0, 0, 0), some (.getfield 22, 1, 2, 0), none, none, some (.iload_n 1, 0, 0, 0), some (.if_icmp .ne 12, 0, 0, 0), none, none, some (.aload_n 0, 0, 0, 0), some (.getfield 59, 1, 3, 0), none, none, some (.iload_n 2, 0, 0, 0), some (.if_icmp .ne 4, 0, 0, 0), none, none, some (.return_, 0, 0, 0), some (.aload_n 0, 0, 0, 0), some (.iload_n 1, 0, 0, 0), some (.putfield 22, 1, 2, 0), none, none, some (.aload_n 0, 0, 0, 0), some (.iload_n 2, 0, 0, 0), some (.putfield 59, 1, 3, 0), none, none, some (.aload_n 0, 0, 0, 0), some (.iconst 0, 0, 0, 0), some (.putfield 42, 1, 4, 0), none, none, some (.iconst 0, 0, 0, 0), some (.istore_n 3, 0, 0, 0), some (.iload_n 3, 0, 0, 0), some (.aload_n 0, 0, 0, 0), some (.getfield 9, 1, 0, 0), none, none, some (.getfield 62, 3, 1, 0), none, none, some (.if_icmp .gt 32, 0, 0, 0), none, none, some (.aload_n 0, 0, 0, 0), some (.getfield 15, 1, 1, 0), none, none, some (.iload_n 3, 0, 0, 0), some (.iload_n 3, 0, 0, 0), some (.aload_n 0, 0, 0, 0), some (.getfield 9, 1, 0, 0), none, none, some (.getfield 65, 3, 2, 0), none, none, some (.if_icmp .gt 7, 0, 0, 0), none, none, some (.iconst 0, 0, 0, 0), some (.goto 5, 0, 0, 0), none, none, some (.ldc 68, 0, 0, 1000000), none, some (.iastore, 0, 0, 0), some (.iinc 3 1, 0, 0, 0), none, none, some (.goto (-37), 0, 0, 0), none, none, some (.return_, 0, 0, 0)]
set_option maxRecDepth 100000 in
theorem k_X1_aimAt : sw_Ok M_X1_aimAt I_X1_aimAt := (by decide +kernel : sw_ok yX1_aimAt.cls cX1_aimAt 0 I_X1_aimAt = true)
abbrev M_X1_fillRow : sw_M := (yX1_fillRow, cX1_fillRow, 7, none, 3, 67)
def I_X1_fillRow : List (Option sw_I) := [some (.aload_n 0, 0, 0, 0), some (.iload_n 1, 0, 0, 0), some (.invokevirtual 69, 0, 0, 0), none, none, some (.istore_n 2, 0, 0, 0), some (.iconst 0, 0, 0, 0), some (.istore_n 3, 0, 0, 0), some (.iload_n 3, 0, 0, 0), some (.aload_n 0, 0, 0, 0), some (.getfield 9, 1, 0, 0), none, none, some (.getfield 62, 3, 1, 0), none, none, some (.if_icmp .gt 85, 0, 0, 0), none, none, some (.ldc 68, 0, 0, 1000000), none, some (.istore 4, 0, 0, 0), none, some (.iload_n 3, 0, 0, 0), some (.aload_n 0, 0, 0, 0), some (.getfield 9, 1, 0, 0), none, none, some (.getfield 65, 3, 2, 0), none, none, some (.iadd, 0, 0, 0), some (.iload_n 2, 0, 0, 0), some (.invokestatic 53, 0, 0, 0), none, none, some (.istore 5, 0, 0, 0), none, some (.iload_n 3, 0, 0, 0), some (.aload_n 0, 0, 0, 0), some (.getfield 9, 1, 0, 0), none, none, some (.getfield 65, 3, 2, 0), none, none, some (.isub, 0, 0, 0), some (.iconst 1, 0, 0, 0), some (.invokestatic 72, 0, 0, 0), none, none, some (.istore 6, 0, 0, 0), none, some (.iload 6, 0, 0, 0), none, some (.iload 5, 0, 0, 0), none, some (.if_icmp .gt 25, 0, 0, 0), none, none, some (.iload 4, 0, 0, 0), none, some (.aload_n 0, 0, 0, 0), some (.iload_n 1, 0, 0, 0), some (.iload 6, 0, 0, 0), none, some (.invokevirtual 75, 0, 0, 0), none, none, some (.iconst 1, 0, 0, 0), some (.iadd, 0, 0, 0), some (.invokestatic 53, 0, 0, 0), none, none, some (.istore 4, 0, 0, 0), none, some (.iinc 6 1, 0, 0, 0), none, none, some (.goto (-26), 0, 0, 0), none, none, some (.aload_n 0, 0, 0, 0), some (.getfield 15, 1, 1, 0), none, none, some (.iload_n 1, 0, 0, 0), some (.bipush 21, 0, 0, 21), none, some (.imul, 0, 0, 0), some (.iload_n 3, 0, 0, 0), some (.iadd, 0, 0, 0), some (.iload 4, 0, 0, 0), none, some (.iastore, 0, 0, 0), some (.iinc 3 1, 0, 0, 0), none, none, some (.goto (-90), 0, 0, 0), none, none, some (.return_, 0, 0, 0)]
set_option maxRecDepth 100000 in
theorem k_X1_fillRow : sw_Ok M_X1_fillRow I_X1_fillRow := (by decide +kernel : sw_ok yX1_fillRow.cls cX1_fillRow 0 I_X1_fillRow = true)
abbrev M_X1_farthestOfBest : sw_M := (yX1_farthestOfBest, cX1_farthestOfBest, 6, (some .int), 3, 67)
def I_X1_farthestOfBest : List (Option sw_I) := [some (.aload_n 0, 0, 0, 0), some (.getfield 15, 1, 1, 0), none, none, some (.iload_n 1, 0, 0, 0), some (.bipush 21, 0, 0, 21), none, some (.imul, 0, 0, 0), some (.iload_n 2, 0, 0, 0), some (.iadd, 0, 0, 0), some (.iaload, 0, 0, 0), some (.iconst 1, 0, 0, 0), some (.isub, 0, 0, 0), some (.istore_n 3, 0, 0, 0), some (.iload_n 2, 0, 0, 0), some (.aload_n 0, 0, 0, 0), some (.getfield 9, 1, 0, 0), none, none, some (.getfield 65, 3, 2, 0), none, none, some (.isub, 0, 0, 0), some (.iconst 1, 0, 0, 0), some (.invokestatic 72, 0, 0, 0), none, none, some (.istore 4, 0, 0, 0), none, some (.iload_n 2, 0, 0, 0), some (.aload_n 0, 0, 0, 0), some (.getfield 9, 1, 0, 0), none, none, some (.getfield 65, 3, 2, 0), none, none, some (.iadd, 0, 0, 0), some (.aload_n 0, 0, 0, 0), some (.iload_n 1, 0, 0, 0), some (.invokevirtual 69, 0, 0, 0), none, none, some (.invokestatic 53, 0, 0, 0), none, none, some (.istore 5, 0, 0, 0), none, some (.iload 5, 0, 0, 0), none, some (.iload 4, 0, 0, 0), none, some (.if_icmp .le 23, 0, 0, 0), none, none, some (.aload_n 0, 0, 0, 0), some (.iload_n 1, 0, 0, 0), some (.iload 5, 0, 0, 0), none, some (.invokevirtual 75, 0, 0, 0), none, none, some (.iload_n 3, 0, 0, 0), some (.if_icmp .ne 6, 0, 0, 0), none, none, some (.iload 5, 0, 0, 0), none, some (.ireturn, 0, 0, 0), some (.iinc 5 (-1), 0, 0, 0), none, none, some (.goto (-24), 0, 0, 0), none, none, some (.iload 4, 0, 0, 0), none, some (.ireturn, 0, 0, 0)]
set_option maxRecDepth 100000 in
theorem k_X1_farthestOfBest : sw_Ok M_X1_farthestOfBest I_X1_farthestOfBest := (by decide +kernel : sw_ok yX1_farthestOfBest.cls cX1_farthestOfBest 0 I_X1_farthestOfBest = true)
abbrev M_X1_greatestFrom : sw_M := (yX1_greatestFrom, cX1_greatestFrom, 2, (some .int), 2, 46)
def I_X1_greatestFrom : List (Option sw_I) := [some (.aload_n 0, 0, 0, 0), some (.getfield 9, 1, 0, 0), none, none, some (.aload_n 0, 0, 0, 0), some (.getfield 22, 1, 2, 0), none, none, some (.aload_n 0, 0, 0, 0), some (.getfield 59, 1, 3, 0), none, none, some (.iload_n 1, 0, 0, 0), some (.imul, 0, 0, 0), some (.isub, 0, 0, 0), some (.aload_n 0, 0, 0, 0), some (.getfield 59, 1, 3, 0), none, none, some (.invokevirtual 78, 0, 0, 0), none, none, some (.iload_n 1, 0, 0, 0), some (.invokestatic 53, 0, 0, 0), none, none, some (.ireturn, 0, 0, 0)]
set_option maxRecDepth 100000 in
theorem k_X1_greatestFrom : sw_Ok M_X1_greatestFrom I_X1_greatestFrom := (by decide +kernel : sw_ok yX1_greatestFrom.cls cX1_greatestFrom 0 I_X1_greatestFrom = true)
abbrev M_X1_ticksAfter : sw_M := (yX1_ticksAfter, cX1_ticksAfter, 3, (some .int), 0, 0)
def I_X1_ticksAfter : List (Option sw_I) := [some (.aload_n 0, 0, 0, 0), some (.getfield 15, 1, 1, 0), none, none, some (.iload_n 1, 0, 0, 0), some (.iload_n 2, 0, 0, 0), some (.isub, 0, 0, 0), some (.bipush 21, 0, 0, 21), none, some (.imul, 0, 0, 0), some (.iload_n 2, 0, 0, 0), some (.iadd, 0, 0, 0), some (.iaload, 0, 0, 0), some (.ireturn, 0, 0, 0)]
set_option maxRecDepth 100000 in
theorem k_X1_ticksAfter : sw_Ok M_X1_ticksAfter I_X1_ticksAfter := (by decide +kernel : sw_ok yX1_ticksAfter.cls cX1_ticksAfter 0 I_X1_ticksAfter = true)
abbrev M_X2_slipsAt : sw_M := (yX2_slipsAt, cX2_slipsAt, 6, (some .boolean), 1, 21)
def I_X2_slipsAt : List (Option sw_I) := [some (.aload_n 0, 0, 0, 0), some (.getfield 19, 2, 1, 0), none, none, some (.aload_n 0, 0, 0, 0), some (.getfield 22, 2, 3, 0), none, none, some (.iload_n 1, 0, 0, 0), some (.imul, 0, 0, 0), some (.iadd, 0, 0, 0), some (.iconst 1, 0, 0, 0), some (.iadd, 0, 0, 0), some (.bipush 10, 0, 0, 10), none, some (.iload_n 2, 0, 0, 0), some (.isub, 0, 0, 0), some (.imul, 0, 0, 0), some (.istore 4, 0, 0, 0), none, some (.aload_n 0, 0, 0, 0), some (.getfield 25, 2, 2, 0), none, none, some (.aload_n 0, 0, 0, 0), some (.getfield 22, 2, 3, 0), none, none, some (.aload_n 0, 0, 0, 0), some (.getfield 9, 2, 0, 0), none, none, some (.getfield 28, 3, 0, 0), none, none, some (.iload_n 1, 0, 0, 0), some (.isub, 0, 0, 0), some (.imul, 0, 0, 0), some (.iadd, 0, 0, 0), some (.iconst 1, 0, 0, 0), some (.iadd, 0, 0, 0), some (.bipush 10, 0, 0, 10), none, some (.iload_n 2, 0, 0, 0), some (.iadd, 0, 0, 0), some (.imul, 0, 0, 0), some (.istore 5, 0, 0, 0), none, some (.bipush 100, 0, 0, 100), none, some (.iload 4, 0, 0, 0), none, some (.iload 5, 0, 0, 0), none, some (.invokestatic 33, 0, 0, 0), none, none, some (.imul, 0, 0, 0), some (.iload_n 3, 0, 0, 0), some (.iload 4, 0, 0, 0), none, some (.iload 5, 0, 0, 0), none, some (.invokestatic 39, 0, 0, 0), none, none, some (.imul, 0, 0, 0), some (.if_icmp .le 7, 0, 0, 0), none, none, some (.iconst 1, 0, 0, 0), some (.goto 4, 0, 0, 0), none, none, some (.iconst 0, 0, 0, 0), some (.ireturn, 0, 0, 0)]
set_option maxRecDepth 100000 in
theorem k_X2_slipsAt : sw_Ok M_X2_slipsAt I_X2_slipsAt := (by decide +kernel : sw_ok yX2_slipsAt.cls cX2_slipsAt 0 I_X2_slipsAt = true)
abbrev M_X2_firstSlip : sw_M := (yX2_firstSlip, cX2_firstSlip, 8, (some .int), 2, 46)
def I_X2_firstSlip : List (Option sw_I) := [some (.iload_n 1, 0, 0, 0), some (.istore 4, 0, 0, 0), none, some (.iconst 0, 0, 0, 0), some (.istore 5, 0, 0, 0), none, some (.iconst 0, 0, 0, 0), some (.istore 6, 0, 0, 0), none, some (.iload 6, 0, 0, 0), none, some (.iload_n 3, 0, 0, 0), some (.if_icmp .gt 63, 0, 0, 0), none, none, some (.iload_n 3, 0, 0, 0), some (.ifCond .le 59, 0, 0, 0), none, none, some (.iload 6, 0, 0, 0), none, some (.iload_n 3, 0, 0, 0), some (.if_icmp .ge 10, 0, 0, 0), none, none, some (.aload_n 2, 0, 0, 0), some (.iload 6, 0, 0, 0), none, some (.iaload, 0, 0, 0), some (.goto 4, 0, 0, 0), none, none, some (.iconst 0, 0, 0, 0), some (.istore 7, 0, 0, 0), none, some (.aload_n 0, 0, 0, 0), some (.iload 4, 0, 0, 0), none, some (.iload 7, 0, 0, 0), none, some (.iload 5, 0, 0, 0), none, some (.isub, 0, 0, 0), some (.aload_n 0, 0, 0, 0), some (.getfield 15, 2, 4, 0), none, none, some (.invokevirtual 42, 0, 0, 0), none, none, some (.ifCond .eq 8, 0, 0, 0), none, none, some (.iload 6, 0, 0, 0), none, some (.iconst 1, 0, 0, 0), some (.iadd, 0, 0, 0), some (.ireturn, 0, 0, 0), some (.iload 4, 0, 0, 0), none, some (.iload 7, 0, 0, 0), none, some (.iadd, 0, 0, 0), some (.istore 4, 0, 0, 0), none, some (.iload 7, 0, 0, 0), none, some (.istore 5, 0, 0, 0), none, some (.iinc 6 1, 0, 0, 0), none, none, some (.goto (-63), 0, 0, 0), none, none, some (.iconst (-1), 0, 0, 0), some (.ireturn, 0, 0, 0)]
set_option maxRecDepth 100000 in
theorem k_X2_firstSlip : sw_Ok M_X2_firstSlip I_X2_firstSlip := (by decide +kernel : sw_ok yX2_firstSlip.cls cX2_firstSlip 0 I_X2_firstSlip = true)
abbrev M_X2_leastRatio : sw_M := (yX2_leastRatio, cX2_leastRatio, 9, (some .int), 2, 46)
def I_X2_leastRatio : List (Option sw_I) := [some (.bipush 100, 0, 0, 100), none, some (.istore 4, 0, 0, 0), none, some (.iload_n 1, 0, 0, 0), some (.istore 5, 0, 0, 0), none, some (.iconst 0, 0, 0, 0), some (.istore 6, 0, 0, 0), none, some (.iconst 0, 0, 0, 0), some (.istore 7, 0, 0, 0), none, some (.iload 7, 0, 0, 0), none, some (.iload_n 3, 0, 0, 0), some (.if_icmp .gt 70, 0, 0, 0), none, none, some (.iload_n 3, 0, 0, 0), some (.ifCond .le 66, 0, 0, 0), none, none, some (.iload 7, 0, 0, 0), none, some (.iload_n 3, 0, 0, 0), some (.if_icmp .ge 10, 0, 0, 0), none, none, some (.aload_n 2, 0, 0, 0), some (.iload 7, 0, 0, 0), none, some (.iaload, 0, 0, 0), some (.goto 4, 0, 0, 0), none, none, some (.iconst 0, 0, 0, 0), some (.istore 8, 0, 0, 0), none, some (.iload 4, 0, 0, 0), none, some (.sipush 400, 0, 0, 400), none, none, some (.if_icmp .gt 25, 0, 0, 0), none, none, some (.aload_n 0, 0, 0, 0), some (.iload 5, 0, 0, 0), none, some (.iload 8, 0, 0, 0), none, some (.iload 6, 0, 0, 0), none, some (.isub, 0, 0, 0), some (.iload 4, 0, 0, 0), none, some (.invokevirtual 42, 0, 0, 0), none, none, some (.ifCond .eq 9, 0, 0, 0), none, none, some (.iinc 4 1, 0, 0, 0), none, none, some (.goto (-27), 0, 0, 0), none, none, some (.iload 5, 0, 0, 0), none, some (.iload 8, 0, 0, 0), none, some (.iadd, 0, 0, 0), some (.istore 5, 0, 0, 0), none, some (.iload 8, 0, 0, 0), none, some (.istore 6, 0, 0, 0), none, some (.iinc 7 1, 0, 0, 0), none, none, some (.goto (-70), 0, 0, 0), none, none, some (.iload 4, 0, 0, 0), none, some (.sipush 400, 0, 0, 400), none, none, some (.if_icmp .le 7, 0, 0, 0), none, none, some (.iconst (-1), 0, 0, 0), some (.goto 5, 0, 0, 0), none, none, some (.iload 4, 0, 0, 0), none, some (.ireturn, 0, 0, 0)]
set_option maxRecDepth 100000 in
theorem k_X2_leastRatio : sw_Ok M_X2_leastRatio I_X2_leastRatio := (by decide +kernel : sw_ok yX2_leastRatio.cls cX2_leastRatio 0 I_X2_leastRatio = true)
abbrev M_X3_renew : sw_M := (yX3_renew, cX3_renew, 4, none, 1, 23)
def I_X3_renew : List (Option sw_I) := [some (.aload_n 0, 0, 0, 0), some (.iload_n 1, 0, 0, 0), some (.putfield 19, 3, 0, 0), none, none, some (.aload_n 0, 0, 0, 0), some (.iload_n 2, 0, 0, 0), some (.putfield 23, 3, 1, 0), none, none, some (.aload_n 0, 0, 0, 0), some (.iload_n 3, 0, 0, 0), some (.putfield 26, 3, 2, 0), none, none, some (.aload_n 0, 0, 0, 0), some (.iconst 0, 0, 0, 0), some (.putfield 29, 3, 3, 0), none, none, some (.aload_n 0, 0, 0, 0), some (.getfield 9, 3, 4, 0), none, none, some (.iload_n 2, 0, 0, 0), some (.invokestatic 32, 0, 0, 0), none, none, some (.return_, 0, 0, 0)]
set_option maxRecDepth 100000 in
theorem k_X3_renew : sw_Ok M_X3_renew I_X3_renew := (by decide +kernel : sw_ok yX3_renew.cls cX3_renew 0 I_X3_renew = true)
abbrev M_X3_has : sw_M := (yX3_has, cX3_has, 2, (some .boolean), 0, 0)
def I_X3_has : List (Option sw_I) := [some (.iload_n 1, 0, 0, 0), some (.ifCond .lt 15, 0, 0, 0), none, none, some (.iload_n 1, 0, 0, 0), some (.aload_n 0, 0, 0, 0), some (.getfield 19, 3, 0, 0), none, none, some (.if_icmp .gt 7, 0, 0, 0), none, none, some (.iconst 1, 0, 0, 0), some (.goto 4, 0, 0, 0), none, none, some (.iconst 0, 0, 0, 0), some (.ireturn, 0, 0, 0)]
set_option maxRecDepth 100000 in
theorem k_X3_has : sw_Ok M_X3_has I_X3_has := (by decide +kernel : sw_ok yX3_has.cls cX3_has 0 I_X3_has = true)
abbrev M_X3_addZone : sw_M := (yX3_addZone, cX3_addZone, 5, none, 1, 21)
def I_X3_addZone : List (Option sw_I) := [some (.iload_n 1, 0, 0, 0), some (.iconst 0, 0, 0, 0), some (.invokestatic 38, 0, 0, 0), none, none, some (.istore 4, 0, 0, 0), none, some (.iload 4, 0, 0, 0), none, some (.iload_n 2, 0, 0, 0), some (.aload_n 0, 0, 0, 0), some (.getfield 19, 3, 0, 0), none, none, some (.invokestatic 44, 0, 0, 0), none, none, some (.if_icmp .gt 55, 0, 0, 0), none, none, some (.aload_n 0, 0, 0, 0), some (.getfield 9, 3, 4, 0), none, none, some (.iload 4, 0, 0, 0), none, some (.aload_n 0, 0, 0, 0), some (.getfield 9, 3, 4, 0), none, none, some (.iload 4, 0, 0, 0), none, some (.iaload, 0, 0, 0), some (.iload_n 3, 0, 0, 0), some (.invokestatic 44, 0, 0, 0), none, none, some (.iastore, 0, 0, 0), some (.aload_n 0, 0, 0, 0), some (.getfield 9, 3, 4, 0), none, none, some (.aload_n 0, 0, 0, 0), some (.getfield 19, 3, 0, 0), none, none, some (.iload 4, 0, 0, 0), none, some (.isub, 0, 0, 0), some (.aload_n 0, 0, 0, 0), some (.getfield 9, 3, 4, 0), none, none, some (.aload_n 0, 0, 0, 0), some (.getfield 19, 3, 0, 0), none, none, some (.iload 4, 0, 0, 0), none, some (.isub, 0, 0, 0), some (.iaload, 0, 0, 0), some (.iload_n 3, 0, 0, 0), some (.invokestatic 44, 0, 0, 0), none, none, some (.iastore, 0, 0, 0), some (.iinc 4 1, 0, 0, 0), none, none, some (.goto (-62), 0, 0, 0), none, none, some (.aload_n 0, 0, 0, 0), some (.dup, 0, 0, 0), some (.getfield 29, 3, 3, 0), none, none, some (.iconst 1, 0, 0, 0), some (.iadd, 0, 0, 0), some (.putfield 29, 3, 3, 0), none, none, some (.return_, 0, 0, 0)]
set_option maxRecDepth 100000 in
theorem k_X3_addZone : sw_Ok M_X3_addZone I_X3_addZone := (by decide +kernel : sw_ok yX3_addZone.cls cX3_addZone 0 I_X3_addZone = true)
abbrev M_X3_limitAt : sw_M := (yX3_limitAt, cX3_limitAt, 2, (some .int), 1, 21)
def I_X3_limitAt : List (Option sw_I) := [some (.aload_n 0, 0, 0, 0), some (.iload_n 1, 0, 0, 0), some (.invokevirtual 47, 0, 0, 0), none, none, some (.ifCond .eq 12, 0, 0, 0), none, none, some (.aload_n 0, 0, 0, 0), some (.getfield 9, 3, 4, 0), none, none, some (.iload_n 1, 0, 0, 0), some (.iaload, 0, 0, 0), some (.goto 7, 0, 0, 0), none, none, some (.aload_n 0, 0, 0, 0), some (.getfield 23, 3, 1, 0), none, none, some (.ireturn, 0, 0, 0)]
set_option maxRecDepth 100000 in
theorem k_X3_limitAt : sw_Ok M_X3_limitAt I_X3_limitAt := (by decide +kernel : sw_ok yX3_limitAt.cls cX3_limitAt 0 I_X3_limitAt = true)
abbrev M_X3_greatestSpeed : sw_M := (yX3_greatestSpeed, cX3_greatestSpeed, 6, (some .int), 1, 21)
def I_X3_greatestSpeed : List (Option sw_I) := [some (.aload_n 0, 0, 0, 0), some (.iload_n 1, 0, 0, 0), some (.invokevirtual 47, 0, 0, 0), none, none, some (.ifCond .ne 5, 0, 0, 0), none, none, some (.iconst 0, 0, 0, 0), some (.ireturn, 0, 0, 0), some (.aload_n 0, 0, 0, 0), some (.getfield 9, 3, 4, 0), none, none, some (.iload_n 1, 0, 0, 0), some (.iaload, 0, 0, 0), some (.istore_n 3, 0, 0, 0), some (.iconst 1, 0, 0, 0), some (.istore 4, 0, 0, 0), none, some (.iload 4, 0, 0, 0), none, some (.aload_n 0, 0, 0, 0), some (.getfield 23, 3, 1, 0), none, none, some (.if_icmp .gt 54, 0, 0, 0), none, none, some (.iload_n 1, 0, 0, 0), some (.iload_n 2, 0, 0, 0), some (.iload 4, 0, 0, 0), none, some (.imul, 0, 0, 0), some (.iadd, 0, 0, 0), some (.istore 5, 0, 0, 0), none, some (.aload_n 0, 0, 0, 0), some (.iload 5, 0, 0, 0), none, some (.invokevirtual 47, 0, 0, 0), none, none, some (.ifCond .ne 8, 0, 0, 0), none, none, some (.iload 4, 0, 0, 0), none, some (.iconst 1, 0, 0, 0), some (.isub, 0, 0, 0), some (.ireturn, 0, 0, 0), some (.iload_n 3, 0, 0, 0), some (.aload_n 0, 0, 0, 0), some (.getfield 9, 3, 4, 0), none, none, some (.iload 5, 0, 0, 0), none, some (.iaload, 0, 0, 0), some (.invokestatic 44, 0, 0, 0), none, none, some (.istore_n 3, 0, 0, 0), some (.iload 4, 0, 0, 0), none, some (.iload_n 3, 0, 0, 0), some (.if_icmp .le 8, 0, 0, 0), none, none, some (.iload 4, 0, 0, 0), none, some (.iconst 1, 0, 0, 0), some (.isub, 0, 0, 0), some (.ireturn, 0, 0, 0), some (.iinc 4 1, 0, 0, 0), none, none, some (.goto (-57), 0, 0, 0), none, none, some (.aload_n 0, 0, 0, 0), some (.getfield 23, 3, 1, 0), none, none, some (.ireturn, 0, 0, 0)]
set_option maxRecDepth 100000 in
theorem k_X3_greatestSpeed : sw_Ok M_X3_greatestSpeed I_X3_greatestSpeed := (by decide +kernel : sw_ok yX3_greatestSpeed.cls cX3_greatestSpeed 0 I_X3_greatestSpeed = true)
abbrev M_X3_allowsTick : sw_M := (yX3_allowsTick, cX3_allowsTick, 4, (some .boolean), 2, 46)
def I_X3_allowsTick : List (Option sw_I) := [some (.iload_n 3, 0, 0, 0), some (.aload_n 0, 0, 0, 0), some (.getfield 23, 3, 1, 0), none, none, some (.ineg, 0, 0, 0), some (.if_icmp .lt 11, 0, 0, 0), none, none, some (.iload_n 3, 0, 0, 0), some (.aload_n 0, 0, 0, 0), some (.getfield 23, 3, 1, 0), none, none, some (.if_icmp .le 5, 0, 0, 0), none, none, some (.iconst 0, 0, 0, 0), some (.ireturn, 0, 0, 0), some (.iload_n 3, 0, 0, 0), some (.iload_n 2, 0, 0, 0), some (.isub, 0, 0, 0), some (.invokestatic 51, 0, 0, 0), none, none, some (.aload_n 0, 0, 0, 0), some (.getfield 26, 3, 2, 0), none, none, some (.if_icmp .le 5, 0, 0, 0), none, none, some (.iconst 0, 0, 0, 0), some (.ireturn, 0, 0, 0), some (.iload_n 3, 0, 0, 0), some (.invokestatic 51, 0, 0, 0), none, none, some (.aload_n 0, 0, 0, 0), some (.iload_n 1, 0, 0, 0), some (.iload_n 3, 0, 0, 0), some (.ifCond .ge 7, 0, 0, 0), none, none, some (.iconst (-1), 0, 0, 0), some (.goto 4, 0, 0, 0), none, none, some (.iconst 1, 0, 0, 0), some (.invokevirtual 55, 0, 0, 0), none, none, some (.if_icmp .gt 7, 0, 0, 0), none, none, some (.iconst 1, 0, 0, 0), some (.goto 4, 0, 0, 0), none, none, some (.iconst 0, 0, 0, 0), some (.ireturn, 0, 0, 0)]
set_option maxRecDepth 100000 in
theorem k_X3_allowsTick : sw_Ok M_X3_allowsTick I_X3_allowsTick := (by decide +kernel : sw_ok yX3_allowsTick.cls cX3_allowsTick 0 I_X3_allowsTick = true)
abbrev M_X3_lawfulSpeeds : sw_M := (yX3_lawfulSpeeds, cX3_lawfulSpeeds, 7, (some .int), 3, 69)
def I_X3_lawfulSpeeds : List (Option sw_I) := [some (.iload_n 1, 0, 0, 0), some (.istore 4, 0, 0, 0), none, some (.iconst 0, 0, 0, 0), some (.istore 5, 0, 0, 0), none, some (.iconst 0, 0, 0, 0), some (.istore 6, 0, 0, 0), none, some (.iload 6, 0, 0, 0), none, some (.iload_n 3, 0, 0, 0), some (.if_icmp .ge 47, 0, 0, 0), none, none, some (.iload 6, 0, 0, 0), none, some (.aload_n 2, 0, 0, 0), some (.arraylength, 0, 0, 0), some (.if_icmp .ge 40, 0, 0, 0), none, none, some (.aload_n 0, 0, 0, 0), some (.iload 4, 0, 0, 0), none, some (.iload 5, 0, 0, 0), none, some (.aload_n 2, 0, 0, 0), some (.iload 6, 0, 0, 0), none, some (.iaload, 0, 0, 0), some (.invokevirtual 58, 0, 0, 0), none, none, some (.ifCond .ne 6, 0, 0, 0), none, none, some (.iload 6, 0, 0, 0), none, some (.ireturn, 0, 0, 0), some (.aload_n 2, 0, 0, 0), some (.iload 6, 0, 0, 0), none, some (.iaload, 0, 0, 0), some (.istore 5, 0, 0, 0), none, some (.iload 4, 0, 0, 0), none, some (.iload 5, 0, 0, 0), none, some (.iadd, 0, 0, 0), some (.istore 4, 0, 0, 0), none, some (.iinc 6 1, 0, 0, 0), none, none, some (.goto (-47), 0, 0, 0), none, none, some (.iload_n 3, 0, 0, 0), some (.ireturn, 0, 0, 0)]
set_option maxRecDepth 100000 in
theorem k_X3_lawfulSpeeds : sw_Ok M_X3_lawfulSpeeds I_X3_lawfulSpeeds := (by decide +kernel : sw_ok yX3_lawfulSpeeds.cls cX3_lawfulSpeeds 0 I_X3_lawfulSpeeds = true)
abbrev M_X4_renew : sw_M := (yX4_renew, cX4_renew, 3, none, 1, 23)
def I_X4_renew : List (Option sw_I) := [some (.aload_n 0, 0, 0, 0), some (.iload_n 1, 0, 0, 0), some (.putfield 19, 4, 2, 0), none, none, some (.aload_n 0, 0, 0, 0), some (.iload_n 2, 0, 0, 0), some (.putfield 23, 4, 3, 0), none, none, some (.aload_n 0, 0, 0, 0), some (.iconst 0, 0, 0, 0), some (.putfield 15, 4, 1, 1), none, none, some (.aload_n 0, 0, 0, 0), some (.getfield 9, 4, 0, 0), none, none, some (.iconst 0, 0, 0, 0), some (.invokestatic 26, 0, 0, 0), none, none, some (.return_, 0, 0, 0)]
set_option maxRecDepth 100000 in
theorem k_X4_renew : sw_Ok M_X4_renew I_X4_renew := (by decide +kernel : sw_ok yX4_renew.cls cX4_renew 0 I_X4_renew = true)
abbrev M_X4_hasItems : sw_M := (yX4_hasItems, cX4_hasItems, 3, (some .boolean), 0, 0)
def I_X4_hasItems : List (Option sw_I) := [some (.iload_n 1, 0, 0, 0), some (.ifCond .lt 21, 0, 0, 0), none, none, some (.iload_n 2, 0, 0, 0), some (.ifCond .lt 17, 0, 0, 0), none, none, some (.iload_n 1, 0, 0, 0), some (.aload_n 0, 0, 0, 0), some (.getfield 23, 4, 3, 0), none, none, some (.iload_n 2, 0, 0, 0), some (.isub, 0, 0, 0), some (.if_icmp .gt 7, 0, 0, 0), none, none, some (.iconst 1, 0, 0, 0), some (.goto 4, 0, 0, 0), none, none, some (.iconst 0, 0, 0, 0), some (.ireturn, 0, 0, 0)]
set_option maxRecDepth 100000 in
theorem k_X4_hasItems : sw_Ok M_X4_hasItems I_X4_hasItems := (by decide +kernel : sw_ok yX4_hasItems.cls cX4_hasItems 0 I_X4_hasItems = true)
abbrev M_X4_store : sw_M := (yX4_store, cX4_store, 3, none, 0, 0)
def I_X4_store : List (Option sw_I) := [some (.aload_n 0, 0, 0, 0), some (.getfield 19, 4, 2, 0), none, none, some (.lookupswitch 50 #[(0, 28), (1, 39)], 28, 0, 0), none, none, none, none, none, none, none, none, none, none, none, none, none, none, none, none, none, none, none, none, none, none, none, none, none, none, none, some (.aload_n 0, 0, 0, 0), some (.getfield 9, 4, 0, 0), none, none, some (.iload_n 1, 0, 0, 0), some (.iload_n 2, 0, 0, 0), some (.i2b, 0, 0, 0), some (.iastore, 0, 0, 0), some (.goto 21, 0, 0, 0), none, none, some (.aload_n 0, 0, 0, 0), some (.getfield 9, 4, 0, 0), none, none, some (.iload_n 1, 0, 0, 0), some (.iload_n 2, 0, 0, 0), some (.i2s, 0, 0, 0), some (.iastore, 0, 0, 0), some (.goto 10, 0, 0, 0), none, none, some (.aload_n 0, 0, 0, 0), some (.getfield 9, 4, 0, 0), none, none, some (.iload_n 1, 0, 0, 0), some (.iload_n 2, 0, 0, 0), some (.iastore, 0, 0, 0), some (.return_, 0, 0, 0)]
set_option maxRecDepth 100000 in
theorem k_X4_store : sw_Ok M_X4_store I_X4_store := (by decide +kernel : sw_ok yX4_store.cls cX4_store 0 I_X4_store = true)
abbrev M_X5_size : sw_M := (yX5_size, cX5_size, 1, (some .int), 1, 21)
def I_X5_size : List (Option sw_I) := [some (.aload_n 0, 0, 0, 0), some (.getfield 15, 5, 1, 0), none, none, some (.bipush 40, 0, 0, 40), none, some (.invokestatic 19, 0, 0, 0), none, none, some (.ireturn, 0, 0, 0)]
set_option maxRecDepth 100000 in
theorem k_X5_size : sw_Ok M_X5_size I_X5_size := (by decide +kernel : sw_ok yX5_size.cls cX5_size 0 I_X5_size = true)
abbrev M_X5_note : sw_M := (yX5_note, cX5_note, 5, none, 1, 22)
def I_X5_note : List (Option sw_I) := [some (.aload_n 0, 0, 0, 0), some (.getfield 15, 5, 1, 0), none, none, some (.bipush 40, 0, 0, 40), none, some (.invokestatic 25, 0, 0, 0), none, none, some (.iconst 3, 0, 0, 0), some (.imul, 0, 0, 0), some (.istore 4, 0, 0, 0), none, some (.aload_n 0, 0, 0, 0), some (.getfield 9, 5, 0, 0), none, none, some (.iload 4, 0, 0, 0), none, some (.iload_n 1, 0, 0, 0), some (.iastore, 0, 0, 0), some (.aload_n 0, 0, 0, 0), some (.getfield 9, 5, 0, 0), none, none, some (.iload 4, 0, 0, 0), none, some (.iconst 1, 0, 0, 0), some (.iadd, 0, 0, 0), some (.iload_n 2, 0, 0, 0), some (.iastore, 0, 0, 0), some (.aload_n 0, 0, 0, 0), some (.getfield 9, 5, 0, 0), none, none, some (.iload 4, 0, 0, 0), none, some (.iconst 2, 0, 0, 0), some (.iadd, 0, 0, 0), some (.iload_n 3, 0, 0, 0), some (.iastore, 0, 0, 0), some (.aload_n 0, 0, 0, 0), some (.dup, 0, 0, 0), some (.getfield 15, 5, 1, 0), none, none, some (.iconst 1, 0, 0, 0), some (.iadd, 0, 0, 0), some (.putfield 15, 5, 1, 0), none, none, some (.return_, 0, 0, 0)]
set_option maxRecDepth 100000 in
theorem k_X5_note : sw_Ok M_X5_note I_X5_note := (by decide +kernel : sw_ok yX5_note.cls cX5_note 0 I_X5_note = true)
abbrev M_X5_latest : sw_M := (yX5_latest, cX5_latest, 3, (some .int), 1, 22)
def I_X5_latest : List (Option sw_I) := [some (.aload_n 0, 0, 0, 0), some (.getfield 9, 5, 0, 0), none, none, some (.aload_n 0, 0, 0, 0), some (.getfield 15, 5, 1, 0), none, none, some (.iconst 1, 0, 0, 0), some (.isub, 0, 0, 0), some (.iload_n 1, 0, 0, 0), some (.isub, 0, 0, 0), some (.bipush 40, 0, 0, 40), none, some (.invokestatic 25, 0, 0, 0), none, none, some (.iconst 3, 0, 0, 0), some (.imul, 0, 0, 0), some (.iload_n 2, 0, 0, 0), some (.iadd, 0, 0, 0), some (.iaload, 0, 0, 0), some (.ireturn, 0, 0, 0)]
set_option maxRecDepth 100000 in
theorem k_X5_latest : sw_Ok M_X5_latest I_X5_latest := (by decide +kernel : sw_ok yX5_latest.cls cX5_latest 0 I_X5_latest = true)
abbrev M_X6_rests : sw_M := (yX6_rests, cX6_rests, 1, (some .boolean), 0, 0)
def I_X6_rests : List (Option sw_I) := [some (.aload_n 0, 0, 0, 0), some (.getfield 40, 6, 9, 0), none, none, some (.ifCond .ne 7, 0, 0, 0), none, none, some (.iconst 1, 0, 0, 0), some (.goto 4, 0, 0, 0), none, none, some (.iconst 0, 0, 0, 0), some (.ireturn, 0, 0, 0)]
set_option maxRecDepth 100000 in
theorem k_X6_rests : sw_Ok M_X6_rests I_X6_rests := (by decide +kernel : sw_ok yX6_rests.cls cX6_rests 0 I_X6_rests = true)
abbrev M_X6_openLinks : sw_M := (yX6_openLinks, cX6_openLinks, 3, (some .int), 0, 0)
def I_X6_openLinks : List (Option sw_I) := [some (.iconst 0, 0, 0, 0), some (.istore_n 1, 0, 0, 0), some (.iconst 0, 0, 0, 0), some (.istore_n 2, 0, 0, 0), some (.iload_n 2, 0, 0, 0), some (.bipush 8, 0, 0, 8), none, some (.if_icmp .ge 21, 0, 0, 0), none, none, some (.aload_n 0, 0, 0, 0), some (.getfield 22, 6, 2, 0), none, none, some (.iload_n 2, 0, 0, 0), some (.baload, 0, 0, 0), some (.ifCond .eq 6, 0, 0, 0), none, none, some (.iinc 1 1, 0, 0, 0), none, none, some (.iinc 2 1, 0, 0, 0), none, none, some (.goto (-21), 0, 0, 0), none, none, some (.iload_n 1, 0, 0, 0), some (.ireturn, 0, 0, 0)]
set_option maxRecDepth 100000 in
theorem k_X6_openLinks : sw_Ok M_X6_openLinks I_X6_openLinks := (by decide +kernel : sw_ok yX6_openLinks.cls cX6_openLinks 0 I_X6_openLinks = true)
abbrev M_X6_told : sw_M := (yX6_told, cX6_told, 3, (some .int), 1, 21)
def I_X6_told : List (Option sw_I) := [some (.aload_n 0, 0, 0, 0), some (.getfield 26, 6, 3, 0), none, none, some (.iconst 0, 0, 0, 0), some (.iaload, 0, 0, 0), some (.aload_n 0, 0, 0, 0), some (.getfield 26, 6, 3, 0), none, none, some (.iconst 1, 0, 0, 0), some (.iaload, 0, 0, 0), some (.aload_n 0, 0, 0, 0), some (.getfield 26, 6, 3, 0), none, none, some (.iconst 2, 0, 0, 0), some (.iaload, 0, 0, 0), some (.invokestatic 43, 0, 0, 0), none, none, some (.invokestatic 43, 0, 0, 0), none, none, some (.istore_n 1, 0, 0, 0), some (.aload_n 0, 0, 0, 0), some (.getfield 26, 6, 3, 0), none, none, some (.iconst 0, 0, 0, 0), some (.iaload, 0, 0, 0), some (.aload_n 0, 0, 0, 0), some (.getfield 26, 6, 3, 0), none, none, some (.iconst 1, 0, 0, 0), some (.iaload, 0, 0, 0), some (.aload_n 0, 0, 0, 0), some (.getfield 26, 6, 3, 0), none, none, some (.iconst 2, 0, 0, 0), some (.iaload, 0, 0, 0), some (.invokestatic 49, 0, 0, 0), none, none, some (.invokestatic 49, 0, 0, 0), none, none, some (.istore_n 2, 0, 0, 0), some (.aload_n 0, 0, 0, 0), some (.getfield 52, 6, 7, 0), none, none, some (.aload_n 0, 0, 0, 0), some (.getfield 26, 6, 3, 0), none, none, some (.iconst 0, 0, 0, 0), some (.iaload, 0, 0, 0), some (.iadd, 0, 0, 0), some (.aload_n 0, 0, 0, 0), some (.getfield 26, 6, 3, 0), none, none, some (.iconst 1, 0, 0, 0), some (.iaload, 0, 0, 0), some (.iadd, 0, 0, 0), some (.aload_n 0, 0, 0, 0), some (.getfield 26, 6, 3, 0), none, none, some (.iconst 2, 0, 0, 0), some (.iaload, 0, 0, 0), some (.iadd, 0, 0, 0), some (.iload_n 1, 0, 0, 0), some (.isub, 0, 0, 0), some (.iload_n 2, 0, 0, 0), some (.isub, 0, 0, 0), some (.ireturn, 0, 0, 0)]
set_option maxRecDepth 100000 in
theorem k_X6_told : sw_Ok M_X6_told I_X6_told := (by decide +kernel : sw_ok yX6_told.cls cX6_told 0 I_X6_told = true)
abbrev M_X6_ticksLeft : sw_M := (yX6_ticksLeft, cX6_ticksLeft, 1, (some .int), 0, 0)
def I_X6_ticksLeft : List (Option sw_I) := [some (.aload_n 0, 0, 0, 0), some (.getfield 40, 6, 9, 0), none, none, some (.iconst 1, 0, 0, 0), some (.if_icmp .ne 15, 0, 0, 0), none, none, some (.aload_n 0, 0, 0, 0), some (.getfield 55, 6, 5, 0), none, none, some (.aload_n 0, 0, 0, 0), some (.getfield 58, 6, 6, 0), none, none, some (.isub, 0, 0, 0), some (.goto 4, 0, 0, 0), none, none, some (.iconst 0, 0, 0, 0), some (.ireturn, 0, 0, 0)]
set_option maxRecDepth 100000 in
theorem k_X6_ticksLeft : sw_Ok M_X6_ticksLeft I_X6_ticksLeft := (by decide +kernel : sw_ok yX6_ticksLeft.cls cX6_ticksLeft 0 I_X6_ticksLeft = true)
abbrev M_X6_setOut : sw_M := (yX6_setOut, cX6_setOut, 2, none, 0, 0)
def I_X6_setOut : List (Option sw_I) := [some (.aload_n 0, 0, 0, 0), some (.iconst 0, 0, 0, 0), some (.putfield 61, 6, 10, 0), none, none, some (.aload_n 0, 0, 0, 0), some (.iload_n 1, 0, 0, 0), some (.putfield 55, 6, 5, 0), none, none, some (.aload_n 0, 0, 0, 0), some (.iconst 0, 0, 0, 0), some (.putfield 58, 6, 6, 0), none, none, some (.aload_n 0, 0, 0, 0), some (.iload_n 1, 0, 0, 0), some (.ifCond .le 7, 0, 0, 0), none, none, some (.iconst 1, 0, 0, 0), some (.goto 4, 0, 0, 0), none, none, some (.iconst 0, 0, 0, 0), some (.putfield 40, 6, 9, 0), none, none, some (.return_, 0, 0, 0)]
set_option maxRecDepth 100000 in
theorem k_X6_setOut : sw_Ok M_X6_setOut I_X6_setOut := (by decide +kernel : sw_ok yX6_setOut.cls cX6_setOut 0 I_X6_setOut = true)
abbrev M_X6_passTick : sw_M := (yX6_passTick, cX6_passTick, 1, none, 3, 63)
def I_X6_passTick : List (Option sw_I) := [some (.aload_n 0, 0, 0, 0), some (.getfield 40, 6, 9, 0), none, none, some (.iconst 1, 0, 0, 0), some (.if_icmp .ne 25, 0, 0, 0), none, none, some (.aload_n 0, 0, 0, 0), some (.invokevirtual 64, 0, 0, 0), none, none, some (.ifCond .eq 18, 0, 0, 0), none, none, some (.aload_n 0, 0, 0, 0), some (.iconst 2, 0, 0, 0), some (.putfield 40, 6, 9, 0), none, none, some (.aload_n 0, 0, 0, 0), some (.dup, 0, 0, 0), some (.getfield 68, 6, 14, 0), none, none, some (.iconst 1, 0, 0, 0), some (.iadd, 0, 0, 0), some (.putfield 68, 6, 14, 0), none, none, some (.aload_n 0, 0, 0, 0), some (.getfield 40, 6, 9, 0), none, none, some (.iconst 1, 0, 0, 0), some (.if_icmp .ne 10, 0, 0, 0), none, none, some (.aload_n 0, 0, 0, 0), some (.invokevirtual 71, 0, 0, 0), none, none, some (.goto 15, 0, 0, 0), none, none, some (.aload_n 0, 0, 0, 0), some (.getfield 40, 6, 9, 0), none, none, some (.iconst 2, 0, 0, 0), some (.if_icmp .ne 7, 0, 0, 0), none, none, some (.aload_n 0, 0, 0, 0), some (.invokevirtual 74, 0, 0, 0), none, none, some (.aload_n 0, 0, 0, 0), some (.getfield 18, 6, 1, 0), none, none, some (.aload_n 0, 0, 0, 0), some (.getfield 52, 6, 7, 0), none, none, some (.aload_n 0, 0, 0, 0), some (.getfield 77, 6, 8, 0), none, none, some (.aload_n 0, 0, 0, 0), some (.getfield 40, 6, 9, 0), none, none, some (.invokevirtual 80, 0, 0, 0), none, none, some (.return_, 0, 0, 0)]
set_option maxRecDepth 100000 in
theorem k_X6_passTick : sw_Ok M_X6_passTick I_X6_passTick := (by decide +kernel : sw_ok yX6_passTick.cls cX6_passTick 0 I_X6_passTick = true)
abbrev M_X6_nextSpeed : sw_M := (yX6_nextSpeed, cX6_nextSpeed, 1, (some .int), 0, 0)
def I_X6_nextSpeed : List (Option sw_I) := [some (.aload_n 0, 0, 0, 0), some (.getfield 58, 6, 6, 0), none, none, some (.aload_n 0, 0, 0, 0), some (.getfield 30, 6, 4, 0), none, none, some (.arraylength, 0, 0, 0), some (.if_icmp .ge 15, 0, 0, 0), none, none, some (.aload_n 0, 0, 0, 0), some (.getfield 30, 6, 4, 0), none, none, some (.aload_n 0, 0, 0, 0), some (.getfield 58, 6, 6, 0), none, none, some (.iaload, 0, 0, 0), some (.goto 4, 0, 0, 0), none, none, some (.iconst 0, 0, 0, 0), some (.ireturn, 0, 0, 0)]
set_option maxRecDepth 100000 in
theorem k_X6_nextSpeed : sw_Ok M_X6_nextSpeed I_X6_nextSpeed := (by decide +kernel : sw_ok yX6_nextSpeed.cls cX6_nextSpeed 0 I_X6_nextSpeed = true)
abbrev M_X6_mustBrake : sw_M := (yX6_mustBrake, cX6_mustBrake, 1, (some .boolean), 2, 43)
def I_X6_mustBrake : List (Option sw_I) := [some (.aload_n 0, 0, 0, 0), some (.invokevirtual 84, 0, 0, 0), none, none, some (.ifCond .gt 29, 0, 0, 0), none, none, some (.aload_n 0, 0, 0, 0), some (.invokevirtual 88, 0, 0, 0), none, none, some (.invokestatic 91, 0, 0, 0), none, none, some (.aload_n 0, 0, 0, 0), some (.getfield 9, 6, 0, 0), none, none, some (.aload_n 0, 0, 0, 0), some (.invokevirtual 95, 0, 0, 0), none, none, some (.invokevirtual 98, 0, 0, 0), none, none, some (.aload_n 0, 0, 0, 0), some (.getfield 33, 6, 11, 0), none, none, some (.iadd, 0, 0, 0), some (.if_icmp .le 7, 0, 0, 0), none, none, some (.iconst 1, 0, 0, 0), some (.goto 4, 0, 0, 0), none, none, some (.iconst 0, 0, 0, 0), some (.ireturn, 0, 0, 0)]
set_option maxRecDepth 100000 in
theorem k_X6_mustBrake : sw_Ok M_X6_mustBrake I_X6_mustBrake := (by decide +kernel : sw_ok yX6_mustBrake.cls cX6_mustBrake 0 I_X6_mustBrake = true)
abbrev M_X6_rideOn : sw_M := (yX6_rideOn, cX6_rideOn, 1, none, 1, 20)
def I_X6_rideOn : List (Option sw_I) := [some (.aload_n 0, 0, 0, 0), some (.aload_n 0, 0, 0, 0), some (.invokevirtual 88, 0, 0, 0), none, none, some (.putfield 77, 6, 8, 0), none, none, some (.aload_n 0, 0, 0, 0), some (.dup, 0, 0, 0), some (.getfield 52, 6, 7, 0), none, none, some (.aload_n 0, 0, 0, 0), some (.getfield 77, 6, 8, 0), none, none, some (.iadd, 0, 0, 0), some (.putfield 52, 6, 7, 0), none, none, some (.aload_n 0, 0, 0, 0), some (.dup, 0, 0, 0), some (.getfield 58, 6, 6, 0), none, none, some (.iconst 1, 0, 0, 0), some (.iadd, 0, 0, 0), some (.putfield 58, 6, 6, 0), none, none, some (.aload_n 0, 0, 0, 0), some (.getfield 58, 6, 6, 0), none, none, some (.aload_n 0, 0, 0, 0), some (.getfield 55, 6, 5, 0), none, none, some (.if_icmp .lt 23, 0, 0, 0), none, none, some (.aload_n 0, 0, 0, 0), some (.iconst 0, 0, 0, 0), some (.putfield 77, 6, 8, 0), none, none, some (.aload_n 0, 0, 0, 0), some (.iconst 0, 0, 0, 0), some (.putfield 40, 6, 9, 0), none, none, some (.aload_n 0, 0, 0, 0), some (.dup, 0, 0, 0), some (.getfield 103, 6, 13, 0), none, none, some (.iconst 1, 0, 0, 0), some (.iadd, 0, 0, 0), some (.putfield 103, 6, 13, 0), none, none, some (.return_, 0, 0, 0)]
set_option maxRecDepth 100000 in
theorem k_X6_rideOn : sw_Ok M_X6_rideOn I_X6_rideOn := (by decide +kernel : sw_ok yX6_rideOn.cls cX6_rideOn 0 I_X6_rideOn = true)
abbrev M_X6_slowDown : sw_M := (yX6_slowDown, cX6_slowDown, 1, none, 1, 21)
def I_X6_slowDown : List (Option sw_I) := [some (.aload_n 0, 0, 0, 0), some (.aload_n 0, 0, 0, 0), some (.getfield 77, 6, 8, 0), none, none, some (.ifCond .le 19, 0, 0, 0), none, none, some (.aload_n 0, 0, 0, 0), some (.getfield 77, 6, 8, 0), none, none, some (.aload_n 0, 0, 0, 0), some (.getfield 37, 6, 12, 0), none, none, some (.isub, 0, 0, 0), some (.iconst 0, 0, 0, 0), some (.invokestatic 49, 0, 0, 0), none, none, some (.goto 16, 0, 0, 0), none, none, some (.aload_n 0, 0, 0, 0), some (.getfield 77, 6, 8, 0), none, none, some (.aload_n 0, 0, 0, 0), some (.getfield 37, 6, 12, 0), none, none, some (.iadd, 0, 0, 0), some (.iconst 0, 0, 0, 0), some (.invokestatic 43, 0, 0, 0), none, none, some (.putfield 77, 6, 8, 0), none, none, some (.aload_n 0, 0, 0, 0), some (.dup, 0, 0, 0), some (.getfield 52, 6, 7, 0), none, none, some (.aload_n 0, 0, 0, 0), some (.getfield 77, 6, 8, 0), none, none, some (.iadd, 0, 0, 0), some (.putfield 52, 6, 7, 0), none, none, some (.aload_n 0, 0, 0, 0), some (.getfield 9, 6, 0, 0), none, none, some (.aload_n 0, 0, 0, 0), some (.getfield 52, 6, 7, 0), none, none, some (.invokevirtual 106, 0, 0, 0), none, none, some (.ifCond .ne 30, 0, 0, 0), none, none, some (.aload_n 0, 0, 0, 0), some (.aload_n 0, 0, 0, 0), some (.getfield 52, 6, 7, 0), none, none, some (.ifCond .ge 7, 0, 0, 0), none, none, some (.iconst 0, 0, 0, 0), some (.goto 10, 0, 0, 0), none, none, some (.aload_n 0, 0, 0, 0), some (.getfield 9, 6, 0, 0), none, none, some (.getfield 110, 3, 0, 0), none, none, some (.putfield 52, 6, 7, 0), none, none, some (.aload_n 0, 0, 0, 0), some (.iconst 0, 0, 0, 0), some (.putfield 77, 6, 8, 0), none, none, some (.aload_n 0, 0, 0, 0), some (.getfield 77, 6, 8, 0), none, none, some (.ifCond .ne 8, 0, 0, 0), none, none, some (.aload_n 0, 0, 0, 0), some (.iconst 0, 0, 0, 0), some (.putfield 40, 6, 9, 0), none, none, some (.return_, 0, 0, 0)]
set_option maxRecDepth 100000 in
theorem k_X6_slowDown : sw_Ok M_X6_slowDown I_X6_slowDown := (by decide +kernel : sw_ok yX6_slowDown.cls cX6_slowDown 0 I_X6_slowDown = true)
abbrev M_X7_shaft : sw_M := (yX7_shaft, cX7_shaft, 4, (some .int), 2, 46)
def I_X7_shaft : List (Option sw_I) := [some (.iload_n 1, 0, 0, 0), some (.bipush 10, 0, 0, 10), none, some (.sipush 400, 0, 0, 400), none, none, some (.invokestatic 63, 0, 0, 0), none, none, some (.ifCond .eq 22, 0, 0, 0), none, none, some (.iload_n 2, 0, 0, 0), some (.iconst 1, 0, 0, 0), some (.bipush 20, 0, 0, 20), none, some (.invokestatic 63, 0, 0, 0), none, none, some (.ifCond .eq 12, 0, 0, 0), none, none, some (.iload_n 3, 0, 0, 0), some (.iconst 1, 0, 0, 0), some (.iconst 5, 0, 0, 0), some (.invokestatic 63, 0, 0, 0), none, none, some (.ifCond .ne 6, 0, 0, 0), none, none, some (.bipush (-2), 0, 0, (-2)), none, some (.ireturn, 0, 0, 0), some (.aload_n 0, 0, 0, 0), some (.getfield 28, 7, 2, 0), none, none, some (.invokevirtual 67, 0, 0, 0), none, none, some (.ifCond .ne 6, 0, 0, 0), none, none, some (.bipush (-4), 0, 0, (-4)), none, some (.ireturn, 0, 0, 0), some (.aload_n 0, 0, 0, 0), some (.getfield 10, 7, 0, 0), none, none, some (.iload_n 1, 0, 0, 0), some (.iload_n 2, 0, 0, 0), some (.iload_n 3, 0, 0, 0), some (.invokevirtual 71, 0, 0, 0), none, none, some (.aload_n 0, 0, 0, 0), some (.getfield 21, 7, 1, 0), none, none, some (.invokevirtual 75, 0, 0, 0), none, none, some (.aload_n 0, 0, 0, 0), some (.iconst 0, 0, 0, 0), some (.putfield 78, 7, 8, 0), none, none, some (.aload_n 0, 0, 0, 0), some (.getfield 28, 7, 2, 0), none, none, some (.iconst 0, 0, 0, 0), some (.putfield 82, 6, 7, 0), none, none, some (.iconst 1, 0, 0, 0), some (.ireturn, 0, 0, 0)]
set_option maxRecDepth 100000 in
theorem k_X7_shaft : sw_Ok M_X7_shaft I_X7_shaft := (by decide +kernel : sw_ok yX7_shaft.cls cX7_shaft 0 I_X7_shaft = true)
abbrev M_X7_zone : sw_M := (yX7_zone, cX7_zone, 4, (some .int), 2, 45)
def I_X7_zone : List (Option sw_I) := [some (.aload_n 0, 0, 0, 0), some (.getfield 10, 7, 0, 0), none, none, some (.iload_n 1, 0, 0, 0), some (.invokevirtual 85, 0, 0, 0), none, none, some (.ifCond .eq 29, 0, 0, 0), none, none, some (.aload_n 0, 0, 0, 0), some (.getfield 10, 7, 0, 0), none, none, some (.iload_n 2, 0, 0, 0), some (.invokevirtual 85, 0, 0, 0), none, none, some (.ifCond .eq 18, 0, 0, 0), none, none, some (.iload_n 1, 0, 0, 0), some (.iload_n 2, 0, 0, 0), some (.if_icmp .gt 13, 0, 0, 0), none, none, some (.iload_n 3, 0, 0, 0), some (.iconst 1, 0, 0, 0), some (.bipush 20, 0, 0, 20), none, some (.invokestatic 63, 0, 0, 0), none, none, some (.ifCond .ne 6, 0, 0, 0), none, none, some (.bipush (-2), 0, 0, (-2)), none, some (.ireturn, 0, 0, 0), some (.aload_n 0, 0, 0, 0), some (.getfield 10, 7, 0, 0), none, none, some (.getfield 89, 3, 3, 0), none, none, some (.bipush 6, 0, 0, 6), none, some (.if_icmp .lt 6, 0, 0, 0), none, none, some (.bipush (-3), 0, 0, (-3)), none, some (.ireturn, 0, 0, 0), some (.aload_n 0, 0, 0, 0), some (.getfield 28, 7, 2, 0), none, none, some (.invokevirtual 67, 0, 0, 0), none, none, some (.ifCond .ne 6, 0, 0, 0), none, none, some (.bipush (-4), 0, 0, (-4)), none, some (.ireturn, 0, 0, 0), some (.aload_n 0, 0, 0, 0), some (.getfield 10, 7, 0, 0), none, none, some (.iload_n 1, 0, 0, 0), some (.iload_n 2, 0, 0, 0), some (.iload_n 3, 0, 0, 0), some (.invokevirtual 92, 0, 0, 0), none, none, some (.aload_n 0, 0, 0, 0), some (.getfield 21, 7, 1, 0), none, none, some (.invokevirtual 75, 0, 0, 0), none, none, some (.aload_n 0, 0, 0, 0), some (.getfield 10, 7, 0, 0), none, none, some (.getfield 89, 3, 3, 0), none, none, some (.ireturn, 0, 0, 0)]
set_option maxRecDepth 100000 in
theorem k_X7_zone : sw_Ok M_X7_zone I_X7_zone := (by decide +kernel : sw_ok yX7_zone.cls cX7_zone 0 I_X7_zone = true)
abbrev M_X7_stop : sw_M := (yX7_stop, cX7_stop, 3, (some .int), 1, 22)
def I_X7_stop : List (Option sw_I) := [some (.aload_n 0, 0, 0, 0), some (.getfield 10, 7, 0, 0), none, none, some (.iload_n 1, 0, 0, 0), some (.invokevirtual 85, 0, 0, 0), none, none, some (.ifCond .eq 13, 0, 0, 0), none, none, some (.iload_n 2, 0, 0, 0), some (.iconst 1, 0, 0, 0), some (.bipush 9, 0, 0, 9), none, some (.invokestatic 63, 0, 0, 0), none, none, some (.ifCond .ne 6, 0, 0, 0), none, none, some (.bipush (-2), 0, 0, (-2)), none, some (.ireturn, 0, 0, 0), some (.aload_n 0, 0, 0, 0), some (.getfield 78, 7, 8, 0), none, none, some (.bipush 6, 0, 0, 6), none, some (.if_icmp .lt 6, 0, 0, 0), none, none, some (.bipush (-3), 0, 0, (-3)), none, some (.ireturn, 0, 0, 0), some (.aload_n 0, 0, 0, 0), some (.getfield 53, 7, 6, 0), none, none, some (.aload_n 0, 0, 0, 0), some (.getfield 78, 7, 8, 0), none, none, some (.iload_n 1, 0, 0, 0), some (.iastore, 0, 0, 0), some (.aload_n 0, 0, 0, 0), some (.getfield 57, 7, 7, 0), none, none, some (.aload_n 0, 0, 0, 0), some (.getfield 78, 7, 8, 0), none, none, some (.iload_n 2, 0, 0, 0), some (.iastore, 0, 0, 0), some (.aload_n 0, 0, 0, 0), some (.dup, 0, 0, 0), some (.getfield 78, 7, 8, 0), none, none, some (.iconst 1, 0, 0, 0), some (.iadd, 0, 0, 0), some (.putfield 78, 7, 8, 0), none, none, some (.aload_n 0, 0, 0, 0), some (.getfield 78, 7, 8, 0), none, none, some (.iconst 1, 0, 0, 0), some (.isub, 0, 0, 0), some (.ireturn, 0, 0, 0)]
set_option maxRecDepth 100000 in
theorem k_X7_stop : sw_Ok M_X7_stop I_X7_stop := (by decide +kernel : sw_ok yX7_stop.cls cX7_stop 0 I_X7_stop = true)
abbrev M_X7_most : sw_M := (yX7_most, cX7_most, 3, (some .int), 2, 46)
def I_X7_most : List (Option sw_I) := [some (.aload_n 0, 0, 0, 0), some (.getfield 10, 7, 0, 0), none, none, some (.iload_n 1, 0, 0, 0), some (.invokevirtual 85, 0, 0, 0), none, none, some (.ifCond .eq 13, 0, 0, 0), none, none, some (.iload_n 2, 0, 0, 0), some (.iconst 1, 0, 0, 0), some (.if_icmp .eq 11, 0, 0, 0), none, none, some (.iload_n 2, 0, 0, 0), some (.iconst (-1), 0, 0, 0), some (.if_icmp .eq 6, 0, 0, 0), none, none, some (.bipush (-2), 0, 0, (-2)), none, some (.ireturn, 0, 0, 0), some (.aload_n 0, 0, 0, 0), some (.getfield 10, 7, 0, 0), none, none, some (.iload_n 1, 0, 0, 0), some (.iload_n 2, 0, 0, 0), some (.invokevirtual 95, 0, 0, 0), none, none, some (.ireturn, 0, 0, 0)]
set_option maxRecDepth 100000 in
theorem k_X7_most : sw_Ok M_X7_most I_X7_most := (by decide +kernel : sw_ok yX7_most.cls cX7_most 0 I_X7_most = true)
abbrev M_X7_ticks : sw_M := (yX7_ticks, cX7_ticks, 2, (some .int), 5, 116)
def I_X7_ticks : List (Option sw_I) := [some (.aload_n 0, 0, 0, 0), some (.getfield 10, 7, 0, 0), none, none, some (.iload_n 1, 0, 0, 0), some (.invokevirtual 85, 0, 0, 0), none, none, some (.ifCond .ne 6, 0, 0, 0), none, none, some (.bipush (-2), 0, 0, (-2)), none, some (.ireturn, 0, 0, 0), some (.aload_n 0, 0, 0, 0), some (.getfield 28, 7, 2, 0), none, none, some (.invokevirtual 67, 0, 0, 0), none, none, some (.ifCond .ne 6, 0, 0, 0), none, none, some (.bipush (-4), 0, 0, (-4)), none, some (.ireturn, 0, 0, 0), some (.aload_n 0, 0, 0, 0), some (.getfield 21, 7, 1, 0), none, none, some (.aload_n 0, 0, 0, 0), some (.getfield 28, 7, 2, 0), none, none, some (.getfield 82, 6, 7, 0), none, none, some (.iload_n 1, 0, 0, 0), some (.invokevirtual 99, 0, 0, 0), none, none, some (.ireturn, 0, 0, 0)]
set_option maxRecDepth 100000 in
theorem k_X7_ticks : sw_Ok M_X7_ticks I_X7_ticks := (by decide +kernel : sw_ok yX7_ticks.cls cX7_ticks 0 I_X7_ticks = true)
abbrev M_X7_speed : sw_M := (yX7_speed, cX7_speed, 4, (some .int), 6, 143)
def I_X7_speed : List (Option sw_I) := [some (.aload_n 0, 0, 0, 0), some (.getfield 10, 7, 0, 0), none, none, some (.iload_n 1, 0, 0, 0), some (.invokevirtual 85, 0, 0, 0), none, none, some (.ifCond .ne 7, 0, 0, 0), none, none, some (.sipush (-2000), 0, 0, (-2000)), none, none, some (.ireturn, 0, 0, 0), some (.aload_n 0, 0, 0, 0), some (.getfield 28, 7, 2, 0), none, none, some (.invokevirtual 67, 0, 0, 0), none, none, some (.ifCond .ne 7, 0, 0, 0), none, none, some (.sipush (-3000), 0, 0, (-3000)), none, none, some (.ireturn, 0, 0, 0), some (.aload_n 0, 0, 0, 0), some (.getfield 21, 7, 1, 0), none, none, some (.aload_n 0, 0, 0, 0), some (.getfield 28, 7, 2, 0), none, none, some (.getfield 82, 6, 7, 0), none, none, some (.iload_n 1, 0, 0, 0), some (.aload_n 0, 0, 0, 0), some (.getfield 60, 7, 10, 0), none, none, some (.invokevirtual 102, 0, 0, 0), none, none, some (.istore_n 3, 0, 0, 0), some (.iload_n 2, 0, 0, 0), some (.iconst 1, 0, 0, 0), some (.iload_n 3, 0, 0, 0), some (.invokestatic 63, 0, 0, 0), none, none, some (.ifCond .eq 14, 0, 0, 0), none, none, some (.aload_n 0, 0, 0, 0), some (.getfield 60, 7, 10, 0), none, none, some (.iload_n 2, 0, 0, 0), some (.iconst 1, 0, 0, 0), some (.isub, 0, 0, 0), some (.iaload, 0, 0, 0), some (.goto 6, 0, 0, 0), none, none, some (.sipush (-1000), 0, 0, (-1000)), none, none, some (.ireturn, 0, 0, 0)]
set_option maxRecDepth 100000 in
theorem k_X7_speed : sw_Ok M_X7_speed I_X7_speed := (by decide +kernel : sw_ok yX7_speed.cls cX7_speed 0 I_X7_speed = true)
abbrev M_X7_ring : sw_M := (yX7_ring, cX7_ring, 2, (some .int), 1, 22)
def I_X7_ring : List (Option sw_I) := [some (.iload_n 1, 0, 0, 0), some (.iconst 1, 0, 0, 0), some (.bipush 9, 0, 0, 9), none, some (.invokestatic 63, 0, 0, 0), none, none, some (.ifCond .ne 6, 0, 0, 0), none, none, some (.bipush (-2), 0, 0, (-2)), none, some (.ireturn, 0, 0, 0), some (.aload_n 0, 0, 0, 0), some (.getfield 28, 7, 2, 0), none, none, some (.iload_n 1, 0, 0, 0), some (.putfield 106, 6, 10, 0), none, none, some (.iconst 1, 0, 0, 0), some (.ireturn, 0, 0, 0)]
set_option maxRecDepth 100000 in
theorem k_X7_ring : sw_Ok M_X7_ring I_X7_ring := (by decide +kernel : sw_ok yX7_ring.cls cX7_ring 0 I_X7_ring = true)
abbrev M_X7_link : sw_M := (yX7_link, cX7_link, 3, (some .int), 1, 22)
def I_X7_link : List (Option sw_I) := [some (.iload_n 1, 0, 0, 0), some (.iconst 0, 0, 0, 0), some (.bipush 7, 0, 0, 7), none, some (.invokestatic 63, 0, 0, 0), none, none, some (.ifCond .ne 6, 0, 0, 0), none, none, some (.bipush (-2), 0, 0, (-2)), none, some (.ireturn, 0, 0, 0), some (.aload_n 0, 0, 0, 0), some (.getfield 28, 7, 2, 0), none, none, some (.getfield 109, 6, 2, 0), none, none, some (.iload_n 1, 0, 0, 0), some (.iload_n 2, 0, 0, 0), some (.ifCond .ne 7, 0, 0, 0), none, none, some (.iconst 1, 0, 0, 0), some (.goto 4, 0, 0, 0), none, none, some (.iconst 0, 0, 0, 0), some (.bastore, 0, 0, 0), some (.iconst 1, 0, 0, 0), some (.ireturn, 0, 0, 0)]
set_option maxRecDepth 100000 in
theorem k_X7_link : sw_Ok M_X7_link I_X7_link := (by decide +kernel : sw_ok yX7_link.cls cX7_link 0 I_X7_link = true)
abbrev M_X7_error : sw_M := (yX7_error, cX7_error, 3, (some .int), 1, 22)
def I_X7_error : List (Option sw_I) := [some (.iload_n 1, 0, 0, 0), some (.iconst 0, 0, 0, 0), some (.iconst 2, 0, 0, 0), some (.invokestatic 63, 0, 0, 0), none, none, some (.ifCond .eq 16, 0, 0, 0), none, none, some (.iload_n 2, 0, 0, 0), some (.sipush (-1000), 0, 0, (-1000)), none, none, some (.sipush 1000, 0, 0, 1000), none, none, some (.invokestatic 63, 0, 0, 0), none, none, some (.ifCond .ne 6, 0, 0, 0), none, none, some (.bipush (-2), 0, 0, (-2)), none, some (.ireturn, 0, 0, 0), some (.aload_n 0, 0, 0, 0), some (.getfield 28, 7, 2, 0), none, none, some (.getfield 113, 6, 3, 0), none, none, some (.iload_n 1, 0, 0, 0), some (.iload_n 2, 0, 0, 0), some (.iastore, 0, 0, 0), some (.iconst 1, 0, 0, 0), some (.ireturn, 0, 0, 0)]
set_option maxRecDepth 100000 in
theorem k_X7_error : sw_Ok M_X7_error I_X7_error := (by decide +kernel : sw_ok yX7_error.cls cX7_error 0 I_X7_error = true)
abbrev M_X7_guard : sw_M := (yX7_guard, cX7_guard, 3, (some .int), 1, 22)
def I_X7_guard : List (Option sw_I) := [some (.iload_n 1, 0, 0, 0), some (.iconst 0, 0, 0, 0), some (.bipush 20, 0, 0, 20), none, some (.invokestatic 63, 0, 0, 0), none, none, some (.ifCond .eq 13, 0, 0, 0), none, none, some (.iload_n 2, 0, 0, 0), some (.iconst 1, 0, 0, 0), some (.bipush 10, 0, 0, 10), none, some (.invokestatic 63, 0, 0, 0), none, none, some (.ifCond .ne 6, 0, 0, 0), none, none, some (.bipush (-2), 0, 0, (-2)), none, some (.ireturn, 0, 0, 0), some (.aload_n 0, 0, 0, 0), some (.getfield 28, 7, 2, 0), none, none, some (.iload_n 1, 0, 0, 0), some (.putfield 116, 6, 11, 0), none, none, some (.aload_n 0, 0, 0, 0), some (.getfield 28, 7, 2, 0), none, none, some (.iload_n 2, 0, 0, 0), some (.putfield 119, 6, 12, 0), none, none, some (.iconst 1, 0, 0, 0), some (.ireturn, 0, 0, 0)]
set_option maxRecDepth 100000 in
theorem k_X7_guard : sw_Ok M_X7_guard I_X7_guard := (by decide +kernel : sw_ok yX7_guard.cls cX7_guard 0 I_X7_guard = true)
abbrev M_X7_begin : sw_M := (yX7_begin, cX7_begin, 3, (some .int), 6, 143)
def I_X7_begin : List (Option sw_I) := [some (.iload_n 1, 0, 0, 0), some (.iconst 0, 0, 0, 0), some (.aload_n 0, 0, 0, 0), some (.getfield 78, 7, 8, 0), none, none, some (.iconst 1, 0, 0, 0), some (.isub, 0, 0, 0), some (.invokestatic 63, 0, 0, 0), none, none, some (.ifCond .ne 6, 0, 0, 0), none, none, some (.bipush (-2), 0, 0, (-2)), none, some (.ireturn, 0, 0, 0), some (.aload_n 0, 0, 0, 0), some (.getfield 28, 7, 2, 0), none, none, some (.invokevirtual 67, 0, 0, 0), none, none, some (.ifCond .eq 29, 0, 0, 0), none, none, some (.aload_n 0, 0, 0, 0), some (.getfield 28, 7, 2, 0), none, none, some (.invokevirtual 122, 0, 0, 0), none, none, some (.ifCond .gt 19, 0, 0, 0), none, none, some (.aload_n 0, 0, 0, 0), some (.getfield 28, 7, 2, 0), none, none, some (.getfield 106, 6, 10, 0), none, none, some (.aload_n 0, 0, 0, 0), some (.getfield 57, 7, 7, 0), none, none, some (.iload_n 1, 0, 0, 0), some (.iaload, 0, 0, 0), some (.if_icmp .eq 6, 0, 0, 0), none, none, some (.bipush (-4), 0, 0, (-4)), none, some (.ireturn, 0, 0, 0), some (.aload_n 0, 0, 0, 0), some (.getfield 21, 7, 1, 0), none, none, some (.aload_n 0, 0, 0, 0), some (.getfield 28, 7, 2, 0), none, none, some (.getfield 82, 6, 7, 0), none, none, some (.aload_n 0, 0, 0, 0), some (.getfield 53, 7, 6, 0), none, none, some (.iload_n 1, 0, 0, 0), some (.iaload, 0, 0, 0), some (.aload_n 0, 0, 0, 0), some (.getfield 28, 7, 2, 0), none, none, some (.getfield 126, 6, 4, 0), none, none, some (.invokevirtual 102, 0, 0, 0), none, none, some (.istore_n 2, 0, 0, 0), some (.aload_n 0, 0, 0, 0), some (.getfield 28, 7, 2, 0), none, none, some (.iload_n 2, 0, 0, 0), some (.invokevirtual 129, 0, 0, 0), none, none, some (.iload_n 2, 0, 0, 0), some (.ireturn, 0, 0, 0)]
set_option maxRecDepth 100000 in
theorem k_X7_begin : sw_Ok M_X7_begin I_X7_begin := (by decide +kernel : sw_ok yX7_begin.cls cX7_begin 0 I_X7_begin = true)
abbrev M_X7_pass : sw_M := (yX7_pass, cX7_pass, 3, (some .int), 4, 83)
def I_X7_pass : List (Option sw_I) := [some (.iload_n 1, 0, 0, 0), some (.iconst 1, 0, 0, 0), some (.sipush 400, 0, 0, 400), none, none, some (.invokestatic 63, 0, 0, 0), none, none, some (.ifCond .ne 6, 0, 0, 0), none, none, some (.bipush (-2), 0, 0, (-2)), none, some (.ireturn, 0, 0, 0), some (.iconst 0, 0, 0, 0), some (.istore_n 2, 0, 0, 0), some (.iload_n 2, 0, 0, 0), some (.iload_n 1, 0, 0, 0), some (.if_icmp .ge 16, 0, 0, 0), none, none, some (.aload_n 0, 0, 0, 0), some (.getfield 28, 7, 2, 0), none, none, some (.invokevirtual 133, 0, 0, 0), none, none, some (.iinc 2 1, 0, 0, 0), none, none, some (.goto (-15), 0, 0, 0), none, none, some (.aload_n 0, 0, 0, 0), some (.getfield 28, 7, 2, 0), none, none, some (.getfield 136, 6, 9, 0), none, none, some (.ireturn, 0, 0, 0)]
set_option maxRecDepth 100000 in
theorem k_X7_pass : sw_Ok M_X7_pass I_X7_pass := (by decide +kernel : sw_ok yX7_pass.cls cX7_pass 0 I_X7_pass = true)
abbrev M_X7_state : sw_M := (yX7_state, cX7_state, 2, (some .int), 2, 43)
def I_X7_state : List (Option sw_I) := [some (.iload_n 1, 0, 0, 0), some (.tableswitch 168 0 12 #[67, 75, 83, 91, 99, 107, 115, 126, 134, 142, 150, 158, 163], 67, 0, 0), none, none, none, none, none, none, none, none, none, none, none, none, none, none, none, none, none, none, none, none, none, none, none, none, none, none, none, none, none, none, none, none, none, none, none, none, none, none, none, none, none, none, none, none, none, none, none, none, none, none, none, none, none, none, none, none, none, none, none, none, none, none, none, none, none, none, some (.aload_n 0, 0, 0, 0), some (.getfield 28, 7, 2, 0), none, none, some (.getfield 82, 6, 7, 0), none, none, some (.ireturn, 0, 0, 0), some (.aload_n 0, 0, 0, 0), some (.getfield 28, 7, 2, 0), none, none, some (.getfield 139, 6, 8, 0), none, none, some (.ireturn, 0, 0, 0), some (.aload_n 0, 0, 0, 0), some (.getfield 28, 7, 2, 0), none, none, some (.getfield 136, 6, 9, 0), none, none, some (.ireturn, 0, 0, 0), some (.aload_n 0, 0, 0, 0), some (.getfield 28, 7, 2, 0), none, none, some (.getfield 106, 6, 10, 0), none, none, some (.ireturn, 0, 0, 0), some (.aload_n 0, 0, 0, 0), some (.getfield 28, 7, 2, 0), none, none, some (.invokevirtual 122, 0, 0, 0), none, none, some (.ireturn, 0, 0, 0), some (.aload_n 0, 0, 0, 0), some (.getfield 28, 7, 2, 0), none, none, some (.invokevirtual 142, 0, 0, 0), none, none, some (.ireturn, 0, 0, 0), some (.aload_n 0, 0, 0, 0), some (.getfield 28, 7, 2, 0), none, none, some (.getfield 145, 6, 1, 0), none, none, some (.getfield 149, 5, 1, 0), none, none, some (.ireturn, 0, 0, 0), some (.aload_n 0, 0, 0, 0), some (.getfield 28, 7, 2, 0), none, none, some (.invokevirtual 154, 0, 0, 0), none, none, some (.ireturn, 0, 0, 0), some (.aload_n 0, 0, 0, 0), some (.getfield 28, 7, 2, 0), none, none, some (.getfield 157, 6, 13, 0), none, none, some (.ireturn, 0, 0, 0), some (.aload_n 0, 0, 0, 0), some (.getfield 28, 7, 2, 0), none, none, some (.getfield 160, 6, 14, 0), none, none, some (.ireturn, 0, 0, 0), some (.aload_n 0, 0, 0, 0), some (.getfield 10, 7, 0, 0), none, none, some (.getfield 89, 3, 3, 0), none, none, some (.ireturn, 0, 0, 0), some (.aload_n 0, 0, 0, 0), some (.getfield 78, 7, 8, 0), none, none, some (.ireturn, 0, 0, 0), some (.aload_n 0, 0, 0, 0), some (.getfield 163, 7, 9, 0), none, none, some (.ireturn, 0, 0, 0), some (.sipush (-2000), 0, 0, (-2000)), none, none, some (.ireturn, 0, 0, 0)]
set_option maxRecDepth 100000 in
theorem k_X7_state : sw_Ok M_X7_state I_X7_state := (by decide +kernel : sw_ok yX7_state.cls cX7_state 0 I_X7_state = true)
abbrev M_X7_loads : sw_M := (yX7_loads, cX7_loads, 4, (some .int), 1, 22)
def I_X7_loads : List (Option sw_I) := [some (.iload_n 1, 0, 0, 0), some (.iconst 0, 0, 0, 0), some (.sipush 1000, 0, 0, 1000), none, none, some (.invokestatic 63, 0, 0, 0), none, none, some (.ifCond .eq 24, 0, 0, 0), none, none, some (.iload_n 2, 0, 0, 0), some (.iconst 0, 0, 0, 0), some (.sipush 1000, 0, 0, 1000), none, none, some (.invokestatic 63, 0, 0, 0), none, none, some (.ifCond .eq 13, 0, 0, 0), none, none, some (.iload_n 3, 0, 0, 0), some (.iconst 0, 0, 0, 0), some (.bipush 10, 0, 0, 10), none, some (.invokestatic 63, 0, 0, 0), none, none, some (.ifCond .ne 6, 0, 0, 0), none, none, some (.bipush (-2), 0, 0, (-2)), none, some (.ireturn, 0, 0, 0), some (.aload_n 0, 0, 0, 0), some (.getfield 35, 7, 3, 0), none, none, some (.iload_n 1, 0, 0, 0), some (.putfield 166, 2, 1, 0), none, none, some (.aload_n 0, 0, 0, 0), some (.getfield 35, 7, 3, 0), none, none, some (.iload_n 2, 0, 0, 0), some (.putfield 169, 2, 2, 0), none, none, some (.aload_n 0, 0, 0, 0), some (.getfield 35, 7, 3, 0), none, none, some (.iload_n 3, 0, 0, 0), some (.putfield 172, 2, 3, 0), none, none, some (.iconst 1, 0, 0, 0), some (.ireturn, 0, 0, 0)]
set_option maxRecDepth 100000 in
theorem k_X7_loads : sw_Ok M_X7_loads I_X7_loads := (by decide +kernel : sw_ok yX7_loads.cls cX7_loads 0 I_X7_loads = true)
abbrev M_X7_ratio : sw_M := (yX7_ratio, cX7_ratio, 3, (some .int), 1, 22)
def I_X7_ratio : List (Option sw_I) := [some (.iload_n 1, 0, 0, 0), some (.bipush 100, 0, 0, 100), none, some (.sipush 400, 0, 0, 400), none, none, some (.invokestatic 63, 0, 0, 0), none, none, some (.ifCond .ne 6, 0, 0, 0), none, none, some (.bipush (-2), 0, 0, (-2)), none, some (.ireturn, 0, 0, 0), some (.aload_n 0, 0, 0, 0), some (.getfield 35, 7, 3, 0), none, none, some (.getfield 175, 2, 4, 0), none, none, some (.istore_n 2, 0, 0, 0), some (.aload_n 0, 0, 0, 0), some (.getfield 35, 7, 3, 0), none, none, some (.iload_n 1, 0, 0, 0), some (.putfield 175, 2, 4, 0), none, none, some (.iload_n 2, 0, 0, 0), some (.ireturn, 0, 0, 0)]
set_option maxRecDepth 100000 in
theorem k_X7_ratio : sw_Ok M_X7_ratio I_X7_ratio := (by decide +kernel : sw_ok yX7_ratio.cls cX7_ratio 0 I_X7_ratio = true)
abbrev M_X7_slips : sw_M := (yX7_slips, cX7_slips, 3, (some .int), 2, 46)
def I_X7_slips : List (Option sw_I) := [some (.aload_n 0, 0, 0, 0), some (.getfield 10, 7, 0, 0), none, none, some (.iload_n 1, 0, 0, 0), some (.invokevirtual 85, 0, 0, 0), none, none, some (.ifCond .eq 14, 0, 0, 0), none, none, some (.iload_n 2, 0, 0, 0), some (.bipush (-9), 0, 0, (-9)), none, some (.bipush 9, 0, 0, 9), none, some (.invokestatic 63, 0, 0, 0), none, none, some (.ifCond .ne 6, 0, 0, 0), none, none, some (.bipush (-2), 0, 0, (-2)), none, some (.ireturn, 0, 0, 0), some (.aload_n 0, 0, 0, 0), some (.getfield 35, 7, 3, 0), none, none, some (.iload_n 1, 0, 0, 0), some (.iload_n 2, 0, 0, 0), some (.aload_n 0, 0, 0, 0), some (.getfield 35, 7, 3, 0), none, none, some (.getfield 175, 2, 4, 0), none, none, some (.invokevirtual 178, 0, 0, 0), none, none, some (.ifCond .eq 7, 0, 0, 0), none, none, some (.iconst 1, 0, 0, 0), some (.goto 4, 0, 0, 0), none, none, some (.iconst 0, 0, 0, 0), some (.ireturn, 0, 0, 0)]
set_option maxRecDepth 100000 in
theorem k_X7_slips : sw_Ok M_X7_slips I_X7_slips := (by decide +kernel : sw_ok yX7_slips.cls cX7_slips 0 I_X7_slips = true)
abbrev M_X7_slipAt : sw_M := (yX7_slipAt, cX7_slipAt, 3, (some .int), 6, 143)
def I_X7_slipAt : List (Option sw_I) := [some (.aload_n 0, 0, 0, 0), some (.getfield 10, 7, 0, 0), none, none, some (.iload_n 1, 0, 0, 0), some (.invokevirtual 85, 0, 0, 0), none, none, some (.ifCond .ne 6, 0, 0, 0), none, none, some (.bipush (-2), 0, 0, (-2)), none, some (.ireturn, 0, 0, 0), some (.aload_n 0, 0, 0, 0), some (.getfield 28, 7, 2, 0), none, none, some (.invokevirtual 67, 0, 0, 0), none, none, some (.ifCond .ne 6, 0, 0, 0), none, none, some (.bipush (-4), 0, 0, (-4)), none, some (.ireturn, 0, 0, 0), some (.aload_n 0, 0, 0, 0), some (.getfield 21, 7, 1, 0), none, none, some (.aload_n 0, 0, 0, 0), some (.getfield 28, 7, 2, 0), none, none, some (.getfield 82, 6, 7, 0), none, none, some (.iload_n 1, 0, 0, 0), some (.aload_n 0, 0, 0, 0), some (.getfield 60, 7, 10, 0), none, none, some (.invokevirtual 102, 0, 0, 0), none, none, some (.istore_n 2, 0, 0, 0), some (.aload_n 0, 0, 0, 0), some (.getfield 35, 7, 3, 0), none, none, some (.aload_n 0, 0, 0, 0), some (.getfield 28, 7, 2, 0), none, none, some (.getfield 82, 6, 7, 0), none, none, some (.aload_n 0, 0, 0, 0), some (.getfield 60, 7, 10, 0), none, none, some (.iload_n 2, 0, 0, 0), some (.invokevirtual 181, 0, 0, 0), none, none, some (.ireturn, 0, 0, 0)]
set_option maxRecDepth 100000 in
theorem k_X7_slipAt : sw_Ok M_X7_slipAt I_X7_slipAt := (by decide +kernel : sw_ok yX7_slipAt.cls cX7_slipAt 0 I_X7_slipAt = true)
abbrev M_X7_hold : sw_M := (yX7_hold, cX7_hold, 3, (some .int), 6, 143)
def I_X7_hold : List (Option sw_I) := [some (.aload_n 0, 0, 0, 0), some (.getfield 10, 7, 0, 0), none, none, some (.iload_n 1, 0, 0, 0), some (.invokevirtual 85, 0, 0, 0), none, none, some (.ifCond .ne 6, 0, 0, 0), none, none, some (.bipush (-2), 0, 0, (-2)), none, some (.ireturn, 0, 0, 0), some (.aload_n 0, 0, 0, 0), some (.getfield 28, 7, 2, 0), none, none, some (.invokevirtual 67, 0, 0, 0), none, none, some (.ifCond .ne 6, 0, 0, 0), none, none, some (.bipush (-4), 0, 0, (-4)), none, some (.ireturn, 0, 0, 0), some (.aload_n 0, 0, 0, 0), some (.getfield 21, 7, 1, 0), none, none, some (.aload_n 0, 0, 0, 0), some (.getfield 28, 7, 2, 0), none, none, some (.getfield 82, 6, 7, 0), none, none, some (.iload_n 1, 0, 0, 0), some (.aload_n 0, 0, 0, 0), some (.getfield 60, 7, 10, 0), none, none, some (.invokevirtual 102, 0, 0, 0), none, none, some (.istore_n 2, 0, 0, 0), some (.aload_n 0, 0, 0, 0), some (.getfield 35, 7, 3, 0), none, none, some (.aload_n 0, 0, 0, 0), some (.getfield 28, 7, 2, 0), none, none, some (.getfield 82, 6, 7, 0), none, none, some (.aload_n 0, 0, 0, 0), some (.getfield 60, 7, 10, 0), none, none, some (.iload_n 2, 0, 0, 0), some (.invokevirtual 185, 0, 0, 0), none, none, some (.ireturn, 0, 0, 0)]
set_option maxRecDepth 100000 in
theorem k_X7_hold : sw_Ok M_X7_hold I_X7_hold := (by decide +kernel : sw_ok yX7_hold.cls cX7_hold 0 I_X7_hold = true)
abbrev M_X7_broken : sw_M := (yX7_broken, cX7_broken, 3, (some .int), 2, 43)
def I_X7_broken : List (Option sw_I) := [some (.iload_n 1, 0, 0, 0), some (.iconst 0, 0, 0, 0), some (.bipush 59, 0, 0, 59), none, some (.invokestatic 63, 0, 0, 0), none, none, some (.ifCond .eq 13, 0, 0, 0), none, none, some (.iload_n 2, 0, 0, 0), some (.iconst 1, 0, 0, 0), some (.bipush 99, 0, 0, 99), none, some (.invokestatic 63, 0, 0, 0), none, none, some (.ifCond .ne 6, 0, 0, 0), none, none, some (.bipush (-2), 0, 0, (-2)), none, some (.ireturn, 0, 0, 0), some (.aload_n 0, 0, 0, 0), some (.getfield 42, 7, 4, 0), none, none, some (.iload_n 1, 0, 0, 0), some (.iload_n 2, 0, 0, 0), some (.invokevirtual 188, 0, 0, 0), none, none, some (.ireturn, 0, 0, 0)]
set_option maxRecDepth 100000 in
theorem k_X7_broken : sw_Ok M_X7_broken I_X7_broken := (by decide +kernel : sw_ok yX7_broken.cls cX7_broken 0 I_X7_broken = true)
abbrev M_X7_worst : sw_M := (yX7_worst, cX7_worst, 2, (some .int), 3, 70)
def I_X7_worst : List (Option sw_I) := [some (.iload_n 1, 0, 0, 0), some (.iconst 1, 0, 0, 0), some (.bipush 60, 0, 0, 60), none, some (.invokestatic 63, 0, 0, 0), none, none, some (.ifCond .ne 6, 0, 0, 0), none, none, some (.bipush (-2), 0, 0, (-2)), none, some (.ireturn, 0, 0, 0), some (.aload_n 0, 0, 0, 0), some (.getfield 42, 7, 4, 0), none, none, some (.aload_n 0, 0, 0, 0), some (.getfield 42, 7, 4, 0), none, none, some (.iload_n 1, 0, 0, 0), some (.invokevirtual 191, 0, 0, 0), none, none, some (.iload_n 1, 0, 0, 0), some (.invokevirtual 195, 0, 0, 0), none, none, some (.ireturn, 0, 0, 0)]
set_option maxRecDepth 100000 in
theorem k_X7_worst : sw_Ok M_X7_worst I_X7_worst := (by decide +kernel : sw_ok yX7_worst.cls cX7_worst 0 I_X7_worst = true)
abbrev M_X7_worstAt : sw_M := (yX7_worstAt, cX7_worstAt, 2, (some .int), 3, 70)
def I_X7_worstAt : List (Option sw_I) := [some (.iload_n 1, 0, 0, 0), some (.iconst 1, 0, 0, 0), some (.bipush 60, 0, 0, 60), none, some (.invokestatic 63, 0, 0, 0), none, none, some (.ifCond .ne 6, 0, 0, 0), none, none, some (.bipush (-2), 0, 0, (-2)), none, some (.ireturn, 0, 0, 0), some (.aload_n 0, 0, 0, 0), some (.getfield 42, 7, 4, 0), none, none, some (.iload_n 1, 0, 0, 0), some (.invokevirtual 191, 0, 0, 0), none, none, some (.ireturn, 0, 0, 0)]
set_option maxRecDepth 100000 in
theorem k_X7_worstAt : sw_Ok M_X7_worstAt I_X7_worstAt := (by decide +kernel : sw_ok yX7_worstAt.cls cX7_worstAt 0 I_X7_worstAt = true)
abbrev M_X7_cut : sw_M := (yX7_cut, cX7_cut, 2, (some .int), 3, 68)
def I_X7_cut : List (Option sw_I) := [some (.iload_n 1, 0, 0, 0), some (.iconst 1, 0, 0, 0), some (.bipush 60, 0, 0, 60), none, some (.invokestatic 63, 0, 0, 0), none, none, some (.ifCond .ne 6, 0, 0, 0), none, none, some (.bipush (-2), 0, 0, (-2)), none, some (.ireturn, 0, 0, 0), some (.aload_n 0, 0, 0, 0), some (.getfield 42, 7, 4, 0), none, none, some (.iload_n 1, 0, 0, 0), some (.invokevirtual 198, 0, 0, 0), none, none, some (.ireturn, 0, 0, 0)]
set_option maxRecDepth 100000 in
theorem k_X7_cut : sw_Ok M_X7_cut I_X7_cut := (by decide +kernel : sw_ok yX7_cut.cls cX7_cut 0 I_X7_cut = true)
abbrev M_X7_mend : sw_M := (yX7_mend, cX7_mend, 3, (some .int), 3, 68)
def I_X7_mend : List (Option sw_I) := [some (.iload_n 1, 0, 0, 0), some (.iconst 1, 0, 0, 0), some (.bipush 60, 0, 0, 60), none, some (.invokestatic 63, 0, 0, 0), none, none, some (.ifCond .eq 7, 0, 0, 0), none, none, some (.iload_n 2, 0, 0, 0), some (.ifCond .ge 6, 0, 0, 0), none, none, some (.bipush (-2), 0, 0, (-2)), none, some (.ireturn, 0, 0, 0), some (.aload_n 0, 0, 0, 0), some (.getfield 42, 7, 4, 0), none, none, some (.iload_n 1, 0, 0, 0), some (.iload_n 2, 0, 0, 0), some (.invokevirtual 201, 0, 0, 0), none, none, some (.ireturn, 0, 0, 0)]
set_option maxRecDepth 100000 in
theorem k_X7_mend : sw_Ok M_X7_mend I_X7_mend := (by decide +kernel : sw_ok yX7_mend.cls cX7_mend 0 I_X7_mend = true)
abbrev M_X7_shift : sw_M := (yX7_shift, cX7_shift, 7, (some .int), 5, 116)
def I_X7_shift : List (Option sw_I) := [some (.aload_n 0, 0, 0, 0), some (.getfield 10, 7, 0, 0), none, none, some (.iload_n 1, 0, 0, 0), some (.invokevirtual 85, 0, 0, 0), none, none, some (.ifCond .eq 13, 0, 0, 0), none, none, some (.iload_n 2, 0, 0, 0), some (.iload_n 3, 0, 0, 0), some (.iload 4, 0, 0, 0), none, some (.invokestatic 204, 0, 0, 0), none, none, some (.ifCond .ne 6, 0, 0, 0), none, none, some (.bipush (-2), 0, 0, (-2)), none, some (.ireturn, 0, 0, 0), some (.iload_n 2, 0, 0, 0), some (.iload_n 3, 0, 0, 0), some (.invokestatic 207, 0, 0, 0), none, none, some (.istore 5, 0, 0, 0), none, some (.aload_n 0, 0, 0, 0), some (.getfield 21, 7, 1, 0), none, none, some (.iconst 0, 0, 0, 0), some (.iload_n 1, 0, 0, 0), some (.invokevirtual 99, 0, 0, 0), none, none, some (.istore 6, 0, 0, 0), none, some (.iload 5, 0, 0, 0), none, some (.iload 4, 0, 0, 0), none, some (.iload 6, 0, 0, 0), none, some (.iadd, 0, 0, 0), some (.iload 4, 0, 0, 0), none, some (.iadd, 0, 0, 0), some (.imul, 0, 0, 0), some (.iload 5, 0, 0, 0), none, some (.iconst 1, 0, 0, 0), some (.isub, 0, 0, 0), some (.iload 6, 0, 0, 0), none, some (.imul, 0, 0, 0), some (.iadd, 0, 0, 0), some (.ireturn, 0, 0, 0)]
set_option maxRecDepth 100000 in
theorem k_X7_shift : sw_Ok M_X7_shift I_X7_shift := (by decide +kernel : sw_ok yX7_shift.cls cX7_shift 0 I_X7_shift = true)
abbrev M_X7_both : sw_M := (yX7_both, cX7_both, 5, (some .int), 5, 116)
def I_X7_both : List (Option sw_I) := [some (.iload_n 1, 0, 0, 0), some (.iload_n 2, 0, 0, 0), some (.iload_n 3, 0, 0, 0), some (.invokestatic 204, 0, 0, 0), none, none, some (.ifCond .ne 6, 0, 0, 0), none, none, some (.bipush (-2), 0, 0, (-2)), none, some (.ireturn, 0, 0, 0), some (.aload_n 0, 0, 0, 0), some (.getfield 21, 7, 1, 0), none, none, some (.iconst 0, 0, 0, 0), some (.aload_n 0, 0, 0, 0), some (.getfield 10, 7, 0, 0), none, none, some (.getfield 210, 3, 0, 0), none, none, some (.invokevirtual 99, 0, 0, 0), none, none, some (.istore 4, 0, 0, 0), none, some (.iload_n 3, 0, 0, 0), some (.iload_n 1, 0, 0, 0), some (.iload_n 2, 0, 0, 0), some (.invokestatic 207, 0, 0, 0), none, none, some (.iload 4, 0, 0, 0), none, some (.iload_n 3, 0, 0, 0), some (.iadd, 0, 0, 0), some (.imul, 0, 0, 0), some (.iadd, 0, 0, 0), some (.ireturn, 0, 0, 0)]
set_option maxRecDepth 100000 in
theorem k_X7_both : sw_Ok M_X7_both I_X7_both := (by decide +kernel : sw_ok yX7_both.cls cX7_both 0 I_X7_both = true)
abbrev M_X7_log : sw_M := (yX7_log, cX7_log, 3, (some .int), 2, 44)
def I_X7_log : List (Option sw_I) := [some (.iload_n 1, 0, 0, 0), some (.iconst 0, 0, 0, 0), some (.aload_n 0, 0, 0, 0), some (.getfield 28, 7, 2, 0), none, none, some (.getfield 145, 6, 1, 0), none, none, some (.invokevirtual 213, 0, 0, 0), none, none, some (.iconst 1, 0, 0, 0), some (.isub, 0, 0, 0), some (.invokestatic 63, 0, 0, 0), none, none, some (.ifCond .eq 12, 0, 0, 0), none, none, some (.iload_n 2, 0, 0, 0), some (.iconst 0, 0, 0, 0), some (.iconst 2, 0, 0, 0), some (.invokestatic 63, 0, 0, 0), none, none, some (.ifCond .ne 7, 0, 0, 0), none, none, some (.sipush (-2000), 0, 0, (-2000)), none, none, some (.ireturn, 0, 0, 0), some (.aload_n 0, 0, 0, 0), some (.getfield 28, 7, 2, 0), none, none, some (.getfield 145, 6, 1, 0), none, none, some (.iload_n 1, 0, 0, 0), some (.iload_n 2, 0, 0, 0), some (.invokevirtual 216, 0, 0, 0), none, none, some (.ireturn, 0, 0, 0)]
set_option maxRecDepth 100000 in
theorem k_X7_log : sw_Ok M_X7_log I_X7_log := (by decide +kernel : sw_ok yX7_log.cls cX7_log 0 I_X7_log = true)
abbrev M_X7_sheet : sw_M := (yX7_sheet, cX7_sheet, 4, (some .int), 2, 45)
def I_X7_sheet : List (Option sw_I) := [some (.iload_n 1, 0, 0, 0), some (.invokestatic 219, 0, 0, 0), none, none, some (.ifCond .eq 16, 0, 0, 0), none, none, some (.iload_n 2, 0, 0, 0), some (.invokestatic 222, 0, 0, 0), none, none, some (.ifCond .eq 9, 0, 0, 0), none, none, some (.iload_n 3, 0, 0, 0), some (.bipush 60, 0, 0, 60), none, some (.if_icmp .le 6, 0, 0, 0), none, none, some (.bipush (-2), 0, 0, (-2)), none, some (.ireturn, 0, 0, 0), some (.iload_n 3, 0, 0, 0), some (.ifCond .ge 9, 0, 0, 0), none, none, some (.aload_n 0, 0, 0, 0), some (.iconst 5, 0, 0, 0), some (.invokevirtual 225, 0, 0, 0), none, none, some (.ireturn, 0, 0, 0), some (.aload_n 0, 0, 0, 0), some (.getfield 48, 7, 5, 0), none, none, some (.iload_n 1, 0, 0, 0), some (.aaload, 0, 0, 0), some (.iload_n 2, 0, 0, 0), some (.iload_n 3, 0, 0, 0), some (.invokevirtual 228, 0, 0, 0), none, none, some (.iload_n 3, 0, 0, 0), some (.ireturn, 0, 0, 0)]
set_option maxRecDepth 100000 in
theorem k_X7_sheet : sw_Ok M_X7_sheet I_X7_sheet := (by decide +kernel : sw_ok yX7_sheet.cls cX7_sheet 0 I_X7_sheet = true)
abbrev M_X7_lose : sw_M := (yX7_lose, cX7_lose, 3, (some .int), 2, 42)
def I_X7_lose : List (Option sw_I) := [some (.iload_n 1, 0, 0, 0), some (.invokestatic 219, 0, 0, 0), none, none, some (.ifCond .ne 6, 0, 0, 0), none, none, some (.bipush (-2), 0, 0, (-2)), none, some (.ireturn, 0, 0, 0), some (.aload_n 0, 0, 0, 0), some (.getfield 48, 7, 5, 0), none, none, some (.iload_n 1, 0, 0, 0), some (.aaload, 0, 0, 0), some (.astore_n 2, 0, 0, 0), some (.aload_n 2, 0, 0, 0), some (.getfield 231, 4, 1, 1), none, none, some (.ifCond .eq 9, 0, 0, 0), none, none, some (.aload_n 0, 0, 0, 0), some (.iconst 1, 0, 0, 0), some (.invokevirtual 225, 0, 0, 0), none, none, some (.ireturn, 0, 0, 0), some (.aload_n 2, 0, 0, 0), some (.iconst 1, 0, 0, 0), some (.putfield 231, 4, 1, 1), none, none, some (.aload_n 2, 0, 0, 0), some (.getfield 235, 4, 3, 0), none, none, some (.ireturn, 0, 0, 0)]
set_option maxRecDepth 100000 in
theorem k_X7_lose : sw_Ok M_X7_lose I_X7_lose := (by decide +kernel : sw_ok yX7_lose.cls cX7_lose 0 I_X7_lose = true)
abbrev M_X7_put : sw_M := (yX7_put, cX7_put, 7, (some .int), 2, 44)
def I_X7_put : List (Option sw_I) := [some (.iload_n 1, 0, 0, 0), some (.invokestatic 219, 0, 0, 0), none, none, some (.ifCond .eq 10, 0, 0, 0), none, none, some (.iload_n 2, 0, 0, 0), some (.invokestatic 222, 0, 0, 0), none, none, some (.ifCond .ne 6, 0, 0, 0), none, none, some (.bipush (-2), 0, 0, (-2)), none, some (.ireturn, 0, 0, 0), some (.aload_n 0, 0, 0, 0), some (.getfield 48, 7, 5, 0), none, none, some (.iload_n 1, 0, 0, 0), some (.aaload, 0, 0, 0), some (.astore 5, 0, 0, 0), none, some (.aload 5, 0, 0, 0), none, some (.iload_n 2, 0, 0, 0), some (.iload_n 3, 0, 0, 0), some (.invokestatic 237, 0, 0, 0), none, none, some (.istore 6, 0, 0, 0), none, some (.iload 6, 0, 0, 0), none, some (.ifCond .eq 10, 0, 0, 0), none, none, some (.aload_n 0, 0, 0, 0), some (.iload 6, 0, 0, 0), none, some (.invokevirtual 225, 0, 0, 0), none, none, some (.ireturn, 0, 0, 0), some (.aload 5, 0, 0, 0), none, some (.iload_n 3, 0, 0, 0), some (.iload 4, 0, 0, 0), none, some (.invokevirtual 241, 0, 0, 0), none, none, some (.iconst 1, 0, 0, 0), some (.ireturn, 0, 0, 0)]
set_option maxRecDepth 100000 in
theorem k_X7_put : sw_Ok M_X7_put I_X7_put := (by decide +kernel : sw_ok yX7_put.cls cX7_put 0 I_X7_put = true)
abbrev M_X7_get : sw_M := (yX7_get, cX7_get, 6, (some .int), 2, 44)
def I_X7_get : List (Option sw_I) := [some (.iload_n 1, 0, 0, 0), some (.invokestatic 219, 0, 0, 0), none, none, some (.ifCond .eq 10, 0, 0, 0), none, none, some (.iload_n 2, 0, 0, 0), some (.invokestatic 222, 0, 0, 0), none, none, some (.ifCond .ne 6, 0, 0, 0), none, none, some (.ldc 244, 0, 0, (-2147483648)), none, some (.ireturn, 0, 0, 0), some (.aload_n 0, 0, 0, 0), some (.getfield 48, 7, 5, 0), none, none, some (.iload_n 1, 0, 0, 0), some (.aaload, 0, 0, 0), some (.astore 4, 0, 0, 0), none, some (.aload 4, 0, 0, 0), none, some (.iload_n 2, 0, 0, 0), some (.iload_n 3, 0, 0, 0), some (.invokestatic 237, 0, 0, 0), none, none, some (.istore 5, 0, 0, 0), none, some (.iload 5, 0, 0, 0), none, some (.ifCond .eq 12, 0, 0, 0), none, none, some (.aload_n 0, 0, 0, 0), some (.iload 5, 0, 0, 0), none, some (.putfield 163, 7, 9, 0), none, none, some (.ldc 244, 0, 0, (-2147483648)), none, some (.ireturn, 0, 0, 0), some (.aload 4, 0, 0, 0), none, some (.getfield 245, 4, 0, 0), none, none, some (.iload_n 3, 0, 0, 0), some (.iaload, 0, 0, 0), some (.ireturn, 0, 0, 0)]
set_option maxRecDepth 100000 in
theorem k_X7_get : sw_Ok M_X7_get I_X7_get := (by decide +kernel : sw_ok yX7_get.cls cX7_get 0 I_X7_get = true)
abbrev M_X7_copy : sw_M := (yX7_copy, cX7_copy, 8, (some .int), 2, 42)
def I_X7_copy : List (Option sw_I) := [some (.iload_n 1, 0, 0, 0), some (.invokestatic 219, 0, 0, 0), none, none, some (.ifCond .eq 10, 0, 0, 0), none, none, some (.iload_n 3, 0, 0, 0), some (.invokestatic 219, 0, 0, 0), none, none, some (.ifCond .ne 6, 0, 0, 0), none, none, some (.bipush (-2), 0, 0, (-2)), none, some (.ireturn, 0, 0, 0), some (.aload_n 0, 0, 0, 0), some (.getfield 48, 7, 5, 0), none, none, some (.iload_n 1, 0, 0, 0), some (.aaload, 0, 0, 0), some (.astore 6, 0, 0, 0), none, some (.aload_n 0, 0, 0, 0), some (.getfield 48, 7, 5, 0), none, none, some (.iload_n 3, 0, 0, 0), some (.aaload, 0, 0, 0), some (.astore 7, 0, 0, 0), none, some (.aload 6, 0, 0, 0), none, some (.getfield 231, 4, 1, 1), none, none, some (.ifCond .ne 11, 0, 0, 0), none, none, some (.aload 7, 0, 0, 0), none, some (.getfield 231, 4, 1, 1), none, none, some (.ifCond .eq 9, 0, 0, 0), none, none, some (.aload_n 0, 0, 0, 0), some (.iconst 1, 0, 0, 0), some (.invokevirtual 225, 0, 0, 0), none, none, some (.ireturn, 0, 0, 0), some (.aload 6, 0, 0, 0), none, some (.getfield 248, 4, 2, 0), none, none, some (.aload 7, 0, 0, 0), none, some (.getfield 248, 4, 2, 0), none, none, some (.if_icmp .eq 9, 0, 0, 0), none, none, some (.aload_n 0, 0, 0, 0), some (.iconst 4, 0, 0, 0), some (.invokevirtual 225, 0, 0, 0), none, none, some (.ireturn, 0, 0, 0), some (.aload 6, 0, 0, 0), none, some (.iload_n 2, 0, 0, 0), some (.iload 5, 0, 0, 0), none, some (.invokevirtual 251, 0, 0, 0), none, none, some (.ifCond .eq 15, 0, 0, 0), none, none, some (.aload 7, 0, 0, 0), none, some (.iload 4, 0, 0, 0), none, some (.iload 5, 0, 0, 0), none, some (.invokevirtual 251, 0, 0, 0), none, none, some (.ifCond .ne 9, 0, 0, 0), none, none, some (.aload_n 0, 0, 0, 0), some (.iconst 2, 0, 0, 0), some (.invokevirtual 225, 0, 0, 0), none, none, some (.ireturn, 0, 0, 0), some (.aload 6, 0, 0, 0), none, some (.getfield 245, 4, 0, 0), none, none, some (.iload_n 2, 0, 0, 0), some (.aload 7, 0, 0, 0), none, some (.getfield 245, 4, 0, 0), none, none, some (.iload 4, 0, 0, 0), none, some (.iload 5, 0, 0, 0), none, some (.invokestatic 255, 0, 0, 0), none, none, some (.iconst 1, 0, 0, 0), some (.ireturn, 0, 0, 0)]
set_option maxRecDepth 100000 in
theorem k_X7_copy : sw_Ok M_X7_copy I_X7_copy := (by decide +kernel : sw_ok yX7_copy.cls cX7_copy 0 I_X7_copy = true)
abbrev M_X7_read : sw_M := (yX7_read, cX7_read, 3, (some .int), 2, 44)
def I_X7_read : List (Option sw_I) := [some (.iload_n 1, 0, 0, 0), some (.invokestatic 219, 0, 0, 0), none, none, some (.ifCond .ne 6, 0, 0, 0), none, none, some (.bipush (-2), 0, 0, (-2)), none, some (.ireturn, 0, 0, 0), some (.aload_n 0, 0, 0, 0), some (.getfield 48, 7, 5, 0), none, none, some (.iload_n 1, 0, 0, 0), some (.aaload, 0, 0, 0), some (.astore_n 2, 0, 0, 0), some (.aload_n 2, 0, 0, 0), some (.getfield 231, 4, 1, 1), none, none, some (.ifCond .eq 9, 0, 0, 0), none, none, some (.aload_n 0, 0, 0, 0), some (.iconst 1, 0, 0, 0), some (.invokevirtual 225, 0, 0, 0), none, none, some (.ireturn, 0, 0, 0), some (.aload_n 0, 0, 0, 0), some (.getfield 42, 7, 4, 0), none, none, some (.aload_n 2, 0, 0, 0), some (.getfield 245, 4, 0, 0), none, none, some (.aload_n 2, 0, 0, 0), some (.getfield 235, 4, 3, 0), none, none, some (.invokevirtual 261, 0, 0, 0), none, none, some (.aload_n 2, 0, 0, 0), some (.getfield 235, 4, 3, 0), none, none, some (.ireturn, 0, 0, 0)]
set_option maxRecDepth 100000 in
theorem k_X7_read : sw_Ok M_X7_read I_X7_read := (by decide +kernel : sw_ok yX7_read.cls cX7_read 0 I_X7_read = true)
abbrev M_X7_write : sw_M := (yX7_write, cX7_write, 6, (some .int), 2, 44)
def I_X7_write : List (Option sw_I) := [some (.iload_n 1, 0, 0, 0), some (.invokestatic 219, 0, 0, 0), none, none, some (.ifCond .eq 12, 0, 0, 0), none, none, some (.iload_n 2, 0, 0, 0), some (.iconst 0, 0, 0, 0), some (.iconst 2, 0, 0, 0), some (.invokestatic 63, 0, 0, 0), none, none, some (.ifCond .ne 6, 0, 0, 0), none, none, some (.bipush (-2), 0, 0, (-2)), none, some (.ireturn, 0, 0, 0), some (.aload_n 0, 0, 0, 0), some (.getfield 48, 7, 5, 0), none, none, some (.iload_n 1, 0, 0, 0), some (.aaload, 0, 0, 0), some (.astore_n 3, 0, 0, 0), some (.aload_n 3, 0, 0, 0), some (.getfield 231, 4, 1, 1), none, none, some (.ifCond .eq 9, 0, 0, 0), none, none, some (.aload_n 0, 0, 0, 0), some (.iconst 1, 0, 0, 0), some (.invokevirtual 225, 0, 0, 0), none, none, some (.ireturn, 0, 0, 0), some (.aload_n 0, 0, 0, 0), some (.getfield 28, 7, 2, 0), none, none, some (.getfield 145, 6, 1, 0), none, none, some (.invokevirtual 213, 0, 0, 0), none, none, some (.aload_n 3, 0, 0, 0), some (.getfield 235, 4, 3, 0), none, none, some (.invokestatic 265, 0, 0, 0), none, none, some (.istore 4, 0, 0, 0), none, some (.iconst 0, 0, 0, 0), some (.istore 5, 0, 0, 0), none, some (.iload 5, 0, 0, 0), none, some (.iload 4, 0, 0, 0), none, some (.if_icmp .ge 33, 0, 0, 0), none, none, some (.aload_n 3, 0, 0, 0), some (.iload 5, 0, 0, 0), none, some (.aload_n 0, 0, 0, 0), some (.getfield 28, 7, 2, 0), none, none, some (.getfield 145, 6, 1, 0), none, none, some (.iload 4, 0, 0, 0), none, some (.iconst 1, 0, 0, 0), some (.isub, 0, 0, 0), some (.iload 5, 0, 0, 0), none, some (.isub, 0, 0, 0), some (.iload_n 2, 0, 0, 0), some (.invokevirtual 216, 0, 0, 0), none, none, some (.invokevirtual 241, 0, 0, 0), none, none, some (.iinc 5 1, 0, 0, 0), none, none, some (.goto (-34), 0, 0, 0), none, none, some (.iload 4, 0, 0, 0), none, some (.ireturn, 0, 0, 0)]
set_option maxRecDepth 100000 in
theorem k_X7_write : sw_Ok M_X7_write I_X7_write := (by decide +kernel : sw_ok yX7_write.cls cX7_write 0 I_X7_write = true)
abbrev M_X7_plan : sw_M := (yX7_plan, cX7_plan, 6, (some .int), 6, 143)
def I_X7_plan : List (Option sw_I) := [some (.iload_n 1, 0, 0, 0), some (.invokestatic 219, 0, 0, 0), none, none, some (.ifCond .eq 14, 0, 0, 0), none, none, some (.aload_n 0, 0, 0, 0), some (.getfield 10, 7, 0, 0), none, none, some (.iload_n 2, 0, 0, 0), some (.invokevirtual 85, 0, 0, 0), none, none, some (.ifCond .ne 6, 0, 0, 0), none, none, some (.bipush (-2), 0, 0, (-2)), none, some (.ireturn, 0, 0, 0), some (.aload_n 0, 0, 0, 0), some (.getfield 28, 7, 2, 0), none, none, some (.invokevirtual 67, 0, 0, 0), none, none, some (.ifCond .ne 6, 0, 0, 0), none, none, some (.bipush (-4), 0, 0, (-4)), none, some (.ireturn, 0, 0, 0), some (.aload_n 0, 0, 0, 0), some (.getfield 48, 7, 5, 0), none, none, some (.iload_n 1, 0, 0, 0), some (.aaload, 0, 0, 0), some (.astore_n 3, 0, 0, 0), some (.aload_n 3, 0, 0, 0), some (.getfield 231, 4, 1, 1), none, none, some (.ifCond .eq 9, 0, 0, 0), none, none, some (.aload_n 0, 0, 0, 0), some (.iconst 1, 0, 0, 0), some (.invokevirtual 225, 0, 0, 0), none, none, some (.ireturn, 0, 0, 0), some (.aload_n 0, 0, 0, 0), some (.getfield 21, 7, 1, 0), none, none, some (.aload_n 0, 0, 0, 0), some (.getfield 28, 7, 2, 0), none, none, some (.getfield 82, 6, 7, 0), none, none, some (.iload_n 2, 0, 0, 0), some (.aload_n 0, 0, 0, 0), some (.getfield 60, 7, 10, 0), none, none, some (.invokevirtual 102, 0, 0, 0), none, none, some (.aload_n 3, 0, 0, 0), some (.getfield 235, 4, 3, 0), none, none, some (.invokestatic 265, 0, 0, 0), none, none, some (.istore 4, 0, 0, 0), none, some (.iconst 0, 0, 0, 0), some (.istore 5, 0, 0, 0), none, some (.iload 5, 0, 0, 0), none, some (.iload 4, 0, 0, 0), none, some (.if_icmp .ge 22, 0, 0, 0), none, none, some (.aload_n 3, 0, 0, 0), some (.iload 5, 0, 0, 0), none, some (.aload_n 0, 0, 0, 0), some (.getfield 60, 7, 10, 0), none, none, some (.iload 5, 0, 0, 0), none, some (.iaload, 0, 0, 0), some (.invokevirtual 241, 0, 0, 0), none, none, some (.iinc 5 1, 0, 0, 0), none, none, some (.goto (-23), 0, 0, 0), none, none, some (.iload 4, 0, 0, 0), none, some (.ireturn, 0, 0, 0)]
set_option maxRecDepth 100000 in
theorem k_X7_plan : sw_Ok M_X7_plan I_X7_plan := (by decide +kernel : sw_ok yX7_plan.cls cX7_plan 0 I_X7_plan = true)
abbrev M_X7_check : sw_M := (yX7_check, cX7_check, 6, (some .int), 4, 95)
def I_X7_check : List (Option sw_I) := [some (.iload_n 1, 0, 0, 0), some (.invokestatic 219, 0, 0, 0), none, none, some (.ifCond .ne 6, 0, 0, 0), none, none, some (.bipush (-2), 0, 0, (-2)), none, some (.ireturn, 0, 0, 0), some (.aload_n 0, 0, 0, 0), some (.getfield 28, 7, 2, 0), none, none, some (.invokevirtual 67, 0, 0, 0), none, none, some (.ifCond .ne 6, 0, 0, 0), none, none, some (.bipush (-4), 0, 0, (-4)), none, some (.ireturn, 0, 0, 0), some (.aload_n 0, 0, 0, 0), some (.getfield 48, 7, 5, 0), none, none, some (.iload_n 1, 0, 0, 0), some (.aaload, 0, 0, 0), some (.astore_n 2, 0, 0, 0), some (.aload_n 2, 0, 0, 0), some (.getfield 231, 4, 1, 1), none, none, some (.ifCond .eq 9, 0, 0, 0), none, none, some (.aload_n 0, 0, 0, 0), some (.iconst 1, 0, 0, 0), some (.invokevirtual 225, 0, 0, 0), none, none, some (.ireturn, 0, 0, 0), some (.aload_n 0, 0, 0, 0), some (.getfield 10, 7, 0, 0), none, none, some (.aload_n 0, 0, 0, 0), some (.getfield 28, 7, 2, 0), none, none, some (.getfield 82, 6, 7, 0), none, none, some (.aload_n 2, 0, 0, 0), some (.getfield 245, 4, 0, 0), none, none, some (.aload_n 2, 0, 0, 0), some (.getfield 235, 4, 3, 0), none, none, some (.invokevirtual 270, 0, 0, 0), none, none, some (.istore_n 3, 0, 0, 0), some (.aload_n 2, 0, 0, 0), some (.getfield 235, 4, 3, 0), none, none, some (.ifCond .ne 7, 0, 0, 0), none, none, some (.iconst 0, 0, 0, 0), some (.goto 14, 0, 0, 0), none, none, some (.aload_n 2, 0, 0, 0), some (.getfield 245, 4, 0, 0), none, none, some (.aload_n 2, 0, 0, 0), some (.getfield 235, 4, 3, 0), none, none, some (.iconst 1, 0, 0, 0), some (.isub, 0, 0, 0), some (.iaload, 0, 0, 0), some (.istore 4, 0, 0, 0), none, some (.iload_n 3, 0, 0, 0), some (.aload_n 2, 0, 0, 0), some (.getfield 235, 4, 3, 0), none, none, some (.if_icmp .ne 22, 0, 0, 0), none, none, some (.iload 4, 0, 0, 0), none, some (.invokestatic 273, 0, 0, 0), none, none, some (.aload_n 0, 0, 0, 0), some (.getfield 10, 7, 0, 0), none, none, some (.getfield 276, 3, 2, 0), none, none, some (.if_icmp .gt 7, 0, 0, 0), none, none, some (.iconst 1, 0, 0, 0), some (.goto 4, 0, 0, 0), none, none, some (.iconst 0, 0, 0, 0), some (.istore 5, 0, 0, 0), none, some (.iload 5, 0, 0, 0), none, some (.ifCond .eq 11, 0, 0, 0), none, none, some (.iload_n 3, 0, 0, 0), some (.sipush 1000, 0, 0, 1000), none, none, some (.iadd, 0, 0, 0), some (.goto 4, 0, 0, 0), none, none, some (.iload_n 3, 0, 0, 0), some (.ireturn, 0, 0, 0)]
set_option maxRecDepth 100000 in
theorem k_X7_check : sw_Ok M_X7_check I_X7_check := (by decide +kernel : sw_ok yX7_check.cls cX7_check 0 I_X7_check = true)
abbrev M_X7_digest : sw_M := (yX7_digest, cX7_digest, 5, (some .long), 3, 64)
def I_X7_digest : List (Option sw_I) := [some (.ldc2_w 279, 0, 0, 17), none, none, some (.lstore_n 1, 0, 0, 0), some (.iconst 0, 0, 0, 0), some (.istore_n 3, 0, 0, 0), some (.iload_n 3, 0, 0, 0), some (.bipush 12, 0, 0, 12), none, some (.if_icmp .ge 22, 0, 0, 0), none, none, some (.ldc2_w 281, 0, 0, 31), none, none, some (.lload_n 1, 0, 0, 0), some (.lmul, 0, 0, 0), some (.aload_n 0, 0, 0, 0), some (.iload_n 3, 0, 0, 0), some (.invokevirtual 283, 0, 0, 0), none, none, some (.i2l, 0, 0, 0), some (.ladd, 0, 0, 0), some (.lstore_n 1, 0, 0, 0), some (.iinc 3 1, 0, 0, 0), none, none, some (.goto (-22), 0, 0, 0), none, none, some (.iconst 0, 0, 0, 0), some (.istore_n 3, 0, 0, 0), some (.iload_n 3, 0, 0, 0), some (.bipush 60, 0, 0, 60), none, some (.if_icmp .ge 26, 0, 0, 0), none, none, some (.ldc2_w 281, 0, 0, 31), none, none, some (.lload_n 1, 0, 0, 0), some (.lmul, 0, 0, 0), some (.aload_n 0, 0, 0, 0), some (.getfield 42, 7, 4, 0), none, none, some (.getfield 286, 0, 0, 0), none, none, some (.iload_n 3, 0, 0, 0), some (.iaload, 0, 0, 0), some (.i2l, 0, 0, 0), some (.ladd, 0, 0, 0), some (.lstore_n 1, 0, 0, 0), some (.iinc 3 1, 0, 0, 0), none, none, some (.goto (-26), 0, 0, 0), none, none, some (.aload_n 0, 0, 0, 0), some (.getfield 28, 7, 2, 0), none, none, some (.invokevirtual 154, 0, 0, 0), none, none, some (.istore_n 3, 0, 0, 0), some (.iconst 0, 0, 0, 0), some (.istore 4, 0, 0, 0), none, some (.iload 4, 0, 0, 0), none, some (.iload_n 3, 0, 0, 0), some (.if_icmp .ge 35, 0, 0, 0), none, none, some (.ldc2_w 281, 0, 0, 31), none, none, some (.lload_n 1, 0, 0, 0), some (.lmul, 0, 0, 0), some (.aload_n 0, 0, 0, 0), some (.getfield 28, 7, 2, 0), none, none, some (.getfield 126, 6, 4, 0), none, none, some (.aload_n 0, 0, 0, 0), some (.getfield 28, 7, 2, 0), none, none, some (.getfield 289, 6, 6, 0), none, none, some (.iload 4, 0, 0, 0), none, some (.iadd, 0, 0, 0), some (.iaload, 0, 0, 0), some (.i2l, 0, 0, 0), some (.ladd, 0, 0, 0), some (.lstore_n 1, 0, 0, 0), some (.iinc 4 1, 0, 0, 0), none, none, some (.goto (-35), 0, 0, 0), none, none, some (.lload_n 1, 0, 0, 0), some (.lreturn, 0, 0, 0)]
set_option maxRecDepth 100000 in
theorem k_X7_digest : sw_Ok M_X7_digest I_X7_digest := (by decide +kernel : sw_ok yX7_digest.cls cX7_digest 0 I_X7_digest = true)
abbrev M_X7_within : sw_M := (yX7_within, cX7_within, 3, (some .boolean), 0, 0)
def I_X7_within : List (Option sw_I) := [some (.iload_n 0, 0, 0, 0), some (.iload_n 1, 0, 0, 0), some (.if_icmp .lt 12, 0, 0, 0), none, none, some (.iload_n 0, 0, 0, 0), some (.iload_n 2, 0, 0, 0), some (.if_icmp .gt 7, 0, 0, 0), none, none, some (.iconst 1, 0, 0, 0), some (.goto 4, 0, 0, 0), none, none, some (.iconst 0, 0, 0, 0), some (.ireturn, 0, 0, 0)]
set_option maxRecDepth 100000 in
theorem k_X7_within : sw_Ok M_X7_within I_X7_within := (by decide +kernel : sw_ok yX7_within.cls cX7_within 0 I_X7_within = true)
abbrev M_X7_isSheet : sw_M := (yX7_isSheet, cX7_isSheet, 1, (some .boolean), 1, 22)
def I_X7_isSheet : List (Option sw_I) := [some (.iload_n 0, 0, 0, 0), some (.iconst 0, 0, 0, 0), some (.iconst 3, 0, 0, 0), some (.invokestatic 63, 0, 0, 0), none, none, some (.ireturn, 0, 0, 0)]
set_option maxRecDepth 100000 in
theorem k_X7_isSheet : sw_Ok M_X7_isSheet I_X7_isSheet := (by decide +kernel : sw_ok yX7_isSheet.cls cX7_isSheet 0 I_X7_isSheet = true)
abbrev M_X7_isForm : sw_M := (yX7_isForm, cX7_isForm, 1, (some .boolean), 1, 22)
def I_X7_isForm : List (Option sw_I) := [some (.iload_n 0, 0, 0, 0), some (.iconst 0, 0, 0, 0), some (.iconst 2, 0, 0, 0), some (.invokestatic 63, 0, 0, 0), none, none, some (.ireturn, 0, 0, 0)]
set_option maxRecDepth 100000 in
theorem k_X7_isForm : sw_Ok M_X7_isForm I_X7_isForm := (by decide +kernel : sw_ok yX7_isForm.cls cX7_isForm 0 I_X7_isForm = true)
abbrev M_X7_areMen : sw_M := (yX7_areMen, cX7_areMen, 3, (some .boolean), 1, 22)
def I_X7_areMen : List (Option sw_I) := [some (.iload_n 0, 0, 0, 0), some (.iconst 1, 0, 0, 0), some (.sipush 500, 0, 0, 500), none, none, some (.invokestatic 63, 0, 0, 0), none, none, some (.ifCond .eq 27, 0, 0, 0), none, none, some (.iload_n 1, 0, 0, 0), some (.iconst 1, 0, 0, 0), some (.bipush 50, 0, 0, 50), none, some (.invokestatic 63, 0, 0, 0), none, none, some (.ifCond .eq 17, 0, 0, 0), none, none, some (.iload_n 2, 0, 0, 0), some (.iconst 0, 0, 0, 0), some (.bipush 100, 0, 0, 100), none, some (.invokestatic 63, 0, 0, 0), none, none, some (.ifCond .eq 7, 0, 0, 0), none, none, some (.iconst 1, 0, 0, 0), some (.goto 4, 0, 0, 0), none, none, some (.iconst 0, 0, 0, 0), some (.ireturn, 0, 0, 0)]
set_option maxRecDepth 100000 in
theorem k_X7_areMen : sw_Ok M_X7_areMen I_X7_areMen := (by decide +kernel : sw_ok yX7_areMen.cls cX7_areMen 0 I_X7_areMen = true)
abbrev M_X7_tripsFor : sw_M := (yX7_tripsFor, cX7_tripsFor, 2, (some .int), 0, 0)
def I_X7_tripsFor : List (Option sw_I) := [some (.iload_n 1, 0, 0, 0), some (.iconst 1, 0, 0, 0), some (.if_icmp .ge 7, 0, 0, 0), none, none, some (.iconst 0, 0, 0, 0), some (.goto 10, 0, 0, 0), none, none, some (.iload_n 0, 0, 0, 0), some (.iload_n 1, 0, 0, 0), some (.iadd, 0, 0, 0), some (.iconst 1, 0, 0, 0), some (.isub, 0, 0, 0), some (.iload_n 1, 0, 0, 0), some (.idiv, 0, 0, 0), some (.ireturn, 0, 0, 0)]
set_option maxRecDepth 100000 in
theorem k_X7_tripsFor : sw_Ok M_X7_tripsFor I_X7_tripsFor := (by decide +kernel : sw_ok yX7_tripsFor.cls cX7_tripsFor 0 I_X7_tripsFor = true)
abbrev M_X7_finding : sw_M := (yX7_finding, cX7_finding, 2, (some .int), 0, 0)
def I_X7_finding : List (Option sw_I) := [some (.aload_n 0, 0, 0, 0), some (.iload_n 1, 0, 0, 0), some (.putfield 163, 7, 9, 0), none, none, some (.bipush (-10), 0, 0, (-10)), none, some (.iload_n 1, 0, 0, 0), some (.isub, 0, 0, 0), some (.ireturn, 0, 0, 0)]
set_option maxRecDepth 100000 in
theorem k_X7_finding : sw_Ok M_X7_finding I_X7_finding := (by decide +kernel : sw_ok yX7_finding.cls cX7_finding 0 I_X7_finding = true)
abbrev M_X7_wrongOfItem : sw_M := (yX7_wrongOfItem, cX7_wrongOfItem, 3, (some .int), 1, 22)
def I_X7_wrongOfItem : List (Option sw_I) := [some (.aload_n 0, 0, 0, 0), some (.getfield 231, 4, 1, 1), none, none, some (.ifCond .eq 5, 0, 0, 0), none, none, some (.iconst 1, 0, 0, 0), some (.ireturn, 0, 0, 0), some (.aload_n 0, 0, 0, 0), some (.getfield 248, 4, 2, 0), none, none, some (.iload_n 1, 0, 0, 0), some (.if_icmp .eq 5, 0, 0, 0), none, none, some (.iconst 3, 0, 0, 0), some (.ireturn, 0, 0, 0), some (.aload_n 0, 0, 0, 0), some (.iload_n 2, 0, 0, 0), some (.iconst 1, 0, 0, 0), some (.invokevirtual 251, 0, 0, 0), none, none, some (.ifCond .eq 7, 0, 0, 0), none, none, some (.iconst 0, 0, 0, 0), some (.goto 4, 0, 0, 0), none, none, some (.iconst 2, 0, 0, 0), some (.ireturn, 0, 0, 0)]
set_option maxRecDepth 100000 in
theorem k_X7_wrongOfItem : sw_Ok M_X7_wrongOfItem I_X7_wrongOfItem := (by decide +kernel : sw_ok yX7_wrongOfItem.cls cX7_wrongOfItem 0 I_X7_wrongOfItem = true)
abbrev M_J9_floorMod_7cf53 : sw_M := (yJ9_floorMod_7cf53, cJ9_floorMod_7cf53, 3, (some .int), 0, 0)
def I_J9_floorMod_7cf53 : List (Option sw_I) := [some (.iload_n 0, 0, 0, 0), some (.iload_n 1, 0, 0, 0), some (.irem, 0, 0, 0), some (.istore_n 2, 0, 0, 0), some (.iload_n 0, 0, 0, 0), some (.iload_n 1, 0, 0, 0), some (.ixor, 0, 0, 0), some (.ifCond .ge 11, 0, 0, 0), none, none, some (.iload_n 2, 0, 0, 0), some (.ifCond .eq 7, 0, 0, 0), none, none, some (.iload_n 2, 0, 0, 0), some (.iload_n 1, 0, 0, 0), some (.iadd, 0, 0, 0), some (.ireturn, 0, 0, 0), some (.iload_n 2, 0, 0, 0), some (.ireturn, 0, 0, 0)]
set_option maxRecDepth 100000 in
theorem k_J9_floorMod_7cf53 : sw_Ok M_J9_floorMod_7cf53 I_J9_floorMod_7cf53 := (by decide +kernel : sw_ok yJ9_floorMod_7cf53.cls cJ9_floorMod_7cf53 0 I_J9_floorMod_7cf53 = true)
abbrev M_J9_abs_0f7a4 : sw_M := (yJ9_abs_0f7a4, cJ9_abs_0f7a4, 1, (some .int), 0, 0)
def I_J9_abs_0f7a4 : List (Option sw_I) := [some (.iload_n 0, 0, 0, 0), some (.ifCond .ge 8, 0, 0, 0), none, none, some (.iload_n 0, 0, 0, 0), some (.ineg, 0, 0, 0), some (.goto 4, 0, 0, 0), none, none, some (.iload_n 0, 0, 0, 0), some (.ireturn, 0, 0, 0)]
set_option maxRecDepth 100000 in
theorem k_J9_abs_0f7a4 : sw_Ok M_J9_abs_0f7a4 I_J9_abs_0f7a4 := (by decide +kernel : sw_ok yJ9_abs_0f7a4.cls cJ9_abs_0f7a4 0 I_J9_abs_0f7a4 = true)
abbrev M_J9_max_7cf53 : sw_M := (yJ9_max_7cf53, cJ9_max_7cf53, 2, (some .int), 0, 0)
def I_J9_max_7cf53 : List (Option sw_I) := [some (.iload_n 0, 0, 0, 0), some (.iload_n 1, 0, 0, 0), some (.if_icmp .lt 7, 0, 0, 0), none, none, some (.iload_n 0, 0, 0, 0), some (.goto 4, 0, 0, 0), none, none, some (.iload_n 1, 0, 0, 0), some (.ireturn, 0, 0, 0)]
set_option maxRecDepth 100000 in
theorem k_J9_max_7cf53 : sw_Ok M_J9_max_7cf53 I_J9_max_7cf53 := (by decide +kernel : sw_ok yJ9_max_7cf53.cls cJ9_max_7cf53 0 I_J9_max_7cf53 = true)
abbrev M_J9_min_7cf53 : sw_M := (yJ9_min_7cf53, cJ9_min_7cf53, 2, (some .int), 0, 0)
def I_J9_min_7cf53 : List (Option sw_I) := [some (.iload_n 0, 0, 0, 0), some (.iload_n 1, 0, 0, 0), some (.if_icmp .gt 7, 0, 0, 0), none, none, some (.iload_n 0, 0, 0, 0), some (.goto 4, 0, 0, 0), none, none, some (.iload_n 1, 0, 0, 0), some (.ireturn, 0, 0, 0)]
set_option maxRecDepth 100000 in
theorem k_J9_min_7cf53 : sw_Ok M_J9_min_7cf53 I_J9_min_7cf53 := (by decide +kernel : sw_ok yJ9_min_7cf53.cls cJ9_min_7cf53 0 I_J9_min_7cf53 = true)
abbrev M_J7_fill_53178 : sw_M := (yJ7_fill_53178, cJ7_fill_53178, 4, none, 0, 0)
def I_J7_fill_53178 : List (Option sw_I) := [some (.iconst 0, 0, 0, 0), some (.istore_n 2, 0, 0, 0), some (.aload_n 0, 0, 0, 0), some (.arraylength, 0, 0, 0), some (.istore_n 3, 0, 0, 0), some (.iload_n 2, 0, 0, 0), some (.iload_n 3, 0, 0, 0), some (.if_icmp .ge 13, 0, 0, 0), none, none, some (.aload_n 0, 0, 0, 0), some (.iload_n 2, 0, 0, 0), some (.iload_n 1, 0, 0, 0), some (.iastore, 0, 0, 0), some (.iinc 2 1, 0, 0, 0), none, none, some (.goto (-12), 0, 0, 0), none, none, some (.return_, 0, 0, 0)]
set_option maxRecDepth 100000 in
theorem k_J7_fill_53178 : sw_Ok M_J7_fill_53178 I_J7_fill_53178 := (by decide +kernel : sw_ok yJ7_fill_53178.cls cJ7_fill_53178 0 I_J7_fill_53178 = true)
end
section
abbrev M_X8_in : sw_M := (yX8_in, cX8_in, 3, (some .boolean), 0, 0)
def I_X8_in : List (Option sw_I) := [some (.iload_n 0, 0, 0, 0), some (.iload_n 1, 0, 0, 0), some (.if_icmp .lt 12, 0, 0, 0), none, none, some (.iload_n 0, 0, 0, 0), some (.iload_n 2, 0, 0, 0), some (.if_icmp .gt 7, 0, 0, 0), none, none, some (.iconst 1, 0, 0, 0), some (.goto 4, 0, 0, 0), none, none, some (.iconst 0, 0, 0, 0), some (.ireturn, 0, 0, 0)]
set_option maxRecDepth 100000 in
theorem k_X8_in : sw_Ok M_X8_in I_X8_in := (by decide +kernel : sw_ok yX8_in.cls cX8_in 0 I_X8_in = true)
abbrev M_X8_shaft : sw_M := (yX8_shaft, cX8_shaft, 4, (some .int), 1, 22)
def I_X8_shaft : List (Option sw_I) := [some (.iload_n 1, 0, 0, 0), some (.bipush 10, 0, 0, 10), none, some (.sipush 400, 0, 0, 400), none, none, some (.invokestatic 87, 0, 0, 0), none, none, some (.ifCond .eq 22, 0, 0, 0), none, none, some (.iload_n 2, 0, 0, 0), some (.iconst 1, 0, 0, 0), some (.bipush 20, 0, 0, 20), none, some (.invokestatic 87, 0, 0, 0), none, none, some (.ifCond .eq 12, 0, 0, 0), none, none, some (.iload_n 3, 0, 0, 0), some (.iconst 1, 0, 0, 0), some (.iconst 5, 0, 0, 0), some (.invokestatic 87, 0, 0, 0), none, none, some (.ifCond .ne 6, 0, 0, 0), none, none, some (.bipush (-2), 0, 0, (-2)), none, some (.ireturn, 0, 0, 0), some (.aload_n 0, 0, 0, 0), some (.getfield 91, 8, 12, 0), none, none, some (.ifCond .eq 6, 0, 0, 0), none, none, some (.bipush (-4), 0, 0, (-4)), none, some (.ireturn, 0, 0, 0), some (.aload_n 0, 0, 0, 0), some (.iload_n 1, 0, 0, 0), some (.putfield 7, 8, 0, 0), none, none, some (.aload_n 0, 0, 0, 0), some (.iload_n 2, 0, 0, 0), some (.putfield 13, 8, 1, 0), none, none, some (.aload_n 0, 0, 0, 0), some (.iload_n 3, 0, 0, 0), some (.putfield 16, 8, 2, 0), none, none, some (.aload_n 0, 0, 0, 0), some (.iconst 0, 0, 0, 0), some (.putfield 94, 8, 3, 0), none, none, some (.aload_n 0, 0, 0, 0), some (.iconst 0, 0, 0, 0), some (.putfield 97, 8, 7, 0), none, none, some (.aload_n 0, 0, 0, 0), some (.iconst 0, 0, 0, 0), some (.putfield 100, 8, 10, 0), none, none, some (.iconst 1, 0, 0, 0), some (.ireturn, 0, 0, 0)]
set_option maxRecDepth 100000 in
theorem k_X8_shaft : sw_Ok M_X8_shaft I_X8_shaft := (by decide +kernel : sw_ok yX8_shaft.cls cX8_shaft 0 I_X8_shaft = true)
abbrev M_X8_isPlace : sw_M := (yX8_isPlace, cX8_isPlace, 2, (some .boolean), 1, 22)
def I_X8_isPlace : List (Option sw_I) := [some (.iload_n 1, 0, 0, 0), some (.iconst 0, 0, 0, 0), some (.aload_n 0, 0, 0, 0), some (.getfield 7, 8, 0, 0), none, none, some (.invokestatic 87, 0, 0, 0), none, none, some (.ireturn, 0, 0, 0)]
set_option maxRecDepth 100000 in
theorem k_X8_isPlace : sw_Ok M_X8_isPlace I_X8_isPlace := (by decide +kernel : sw_ok yX8_isPlace.cls cX8_isPlace 0 I_X8_isPlace = true)
abbrev M_X8_zone : sw_M := (yX8_zone, cX8_zone, 4, (some .int), 2, 43)
def I_X8_zone : List (Option sw_I) := [some (.aload_n 0, 0, 0, 0), some (.iload_n 1, 0, 0, 0), some (.invokevirtual 103, 0, 0, 0), none, none, some (.ifCond .eq 26, 0, 0, 0), none, none, some (.aload_n 0, 0, 0, 0), some (.iload_n 2, 0, 0, 0), some (.invokevirtual 103, 0, 0, 0), none, none, some (.ifCond .eq 18, 0, 0, 0), none, none, some (.iload_n 1, 0, 0, 0), some (.iload_n 2, 0, 0, 0), some (.if_icmp .gt 13, 0, 0, 0), none, none, some (.iload_n 3, 0, 0, 0), some (.iconst 1, 0, 0, 0), some (.bipush 20, 0, 0, 20), none, some (.invokestatic 87, 0, 0, 0), none, none, some (.ifCond .ne 6, 0, 0, 0), none, none, some (.bipush (-2), 0, 0, (-2)), none, some (.ireturn, 0, 0, 0), some (.aload_n 0, 0, 0, 0), some (.getfield 94, 8, 3, 0), none, none, some (.bipush 6, 0, 0, 6), none, some (.if_icmp .ne 6, 0, 0, 0), none, none, some (.bipush (-3), 0, 0, (-3)), none, some (.ireturn, 0, 0, 0), some (.aload_n 0, 0, 0, 0), some (.getfield 91, 8, 12, 0), none, none, some (.ifCond .eq 6, 0, 0, 0), none, none, some (.bipush (-4), 0, 0, (-4)), none, some (.ireturn, 0, 0, 0), some (.aload_n 0, 0, 0, 0), some (.getfield 19, 8, 4, 0), none, none, some (.aload_n 0, 0, 0, 0), some (.getfield 94, 8, 3, 0), none, none, some (.iload_n 1, 0, 0, 0), some (.iastore, 0, 0, 0), some (.aload_n 0, 0, 0, 0), some (.getfield 23, 8, 5, 0), none, none, some (.aload_n 0, 0, 0, 0), some (.getfield 94, 8, 3, 0), none, none, some (.iload_n 2, 0, 0, 0), some (.iastore, 0, 0, 0), some (.aload_n 0, 0, 0, 0), some (.getfield 26, 8, 6, 0), none, none, some (.aload_n 0, 0, 0, 0), some (.getfield 94, 8, 3, 0), none, none, some (.iload_n 3, 0, 0, 0), some (.iastore, 0, 0, 0), some (.aload_n 0, 0, 0, 0), some (.dup, 0, 0, 0), some (.getfield 94, 8, 3, 0), none, none, some (.iconst 1, 0, 0, 0), some (.iadd, 0, 0, 0), some (.putfield 94, 8, 3, 0), none, none, some (.aload_n 0, 0, 0, 0), some (.getfield 94, 8, 3, 0), none, none, some (.ireturn, 0, 0, 0)]
set_option maxRecDepth 100000 in
theorem k_X8_zone : sw_Ok M_X8_zone I_X8_zone := (by decide +kernel : sw_ok yX8_zone.cls cX8_zone 0 I_X8_zone = true)
abbrev M_X8_stop : sw_M := (yX8_stop, cX8_stop, 3, (some .int), 2, 43)
def I_X8_stop : List (Option sw_I) := [some (.aload_n 0, 0, 0, 0), some (.iload_n 1, 0, 0, 0), some (.invokevirtual 103, 0, 0, 0), none, none, some (.ifCond .eq 13, 0, 0, 0), none, none, some (.iload_n 2, 0, 0, 0), some (.iconst 1, 0, 0, 0), some (.bipush 9, 0, 0, 9), none, some (.invokestatic 87, 0, 0, 0), none, none, some (.ifCond .ne 6, 0, 0, 0), none, none, some (.bipush (-2), 0, 0, (-2)), none, some (.ireturn, 0, 0, 0), some (.aload_n 0, 0, 0, 0), some (.getfield 97, 8, 7, 0), none, none, some (.bipush 6, 0, 0, 6), none, some (.if_icmp .ne 6, 0, 0, 0), none, none, some (.bipush (-3), 0, 0, (-3)), none, some (.ireturn, 0, 0, 0), some (.aload_n 0, 0, 0, 0), some (.getfield 29, 8, 8, 0), none, none, some (.aload_n 0, 0, 0, 0), some (.getfield 97, 8, 7, 0), none, none, some (.iload_n 1, 0, 0, 0), some (.iastore, 0, 0, 0), some (.aload_n 0, 0, 0, 0), some (.getfield 32, 8, 9, 0), none, none, some (.aload_n 0, 0, 0, 0), some (.getfield 97, 8, 7, 0), none, none, some (.iload_n 2, 0, 0, 0), some (.iastore, 0, 0, 0), some (.aload_n 0, 0, 0, 0), some (.dup, 0, 0, 0), some (.getfield 97, 8, 7, 0), none, none, some (.iconst 1, 0, 0, 0), some (.iadd, 0, 0, 0), some (.putfield 97, 8, 7, 0), none, none, some (.aload_n 0, 0, 0, 0), some (.getfield 97, 8, 7, 0), none, none, some (.iconst 1, 0, 0, 0), some (.isub, 0, 0, 0), some (.ireturn, 0, 0, 0)]
set_option maxRecDepth 100000 in
theorem k_X8_stop : sw_Ok M_X8_stop I_X8_stop := (by decide +kernel : sw_ok yX8_stop.cls cX8_stop 0 I_X8_stop = true)
abbrev M_X8_allowed : sw_M := (yX8_allowed, cX8_allowed, 5, (some .int), 1, 22)
def I_X8_allowed : List (Option sw_I) := [some (.aload_n 0, 0, 0, 0), some (.getfield 13, 8, 1, 0), none, none, some (.istore_n 2, 0, 0, 0), some (.iconst 0, 0, 0, 0), some (.istore_n 3, 0, 0, 0), some (.iconst 0, 0, 0, 0), some (.istore 4, 0, 0, 0), none, some (.iload 4, 0, 0, 0), none, some (.aload_n 0, 0, 0, 0), some (.getfield 94, 8, 3, 0), none, none, some (.if_icmp .ge 85, 0, 0, 0), none, none, some (.iload_n 1, 0, 0, 0), some (.aload_n 0, 0, 0, 0), some (.getfield 19, 8, 4, 0), none, none, some (.iload 4, 0, 0, 0), none, some (.iaload, 0, 0, 0), some (.aload_n 0, 0, 0, 0), some (.getfield 23, 8, 5, 0), none, none, some (.iload 4, 0, 0, 0), none, some (.iaload, 0, 0, 0), some (.invokestatic 87, 0, 0, 0), none, none, some (.ifCond .ne 29, 0, 0, 0), none, none, some (.aload_n 0, 0, 0, 0), some (.getfield 7, 8, 0, 0), none, none, some (.iload_n 1, 0, 0, 0), some (.isub, 0, 0, 0), some (.aload_n 0, 0, 0, 0), some (.getfield 19, 8, 4, 0), none, none, some (.iload 4, 0, 0, 0), none, some (.iaload, 0, 0, 0), some (.aload_n 0, 0, 0, 0), some (.getfield 23, 8, 5, 0), none, none, some (.iload 4, 0, 0, 0), none, some (.iaload, 0, 0, 0), some (.invokestatic 87, 0, 0, 0), none, none, some (.ifCond .eq 32, 0, 0, 0), none, none, some (.iload_n 3, 0, 0, 0), some (.ifCond .eq 14, 0, 0, 0), none, none, some (.aload_n 0, 0, 0, 0), some (.getfield 26, 8, 6, 0), none, none, some (.iload 4, 0, 0, 0), none, some (.iaload, 0, 0, 0), some (.iload_n 2, 0, 0, 0), some (.if_icmp .ge 13, 0, 0, 0), none, none, some (.aload_n 0, 0, 0, 0), some (.getfield 26, 8, 6, 0), none, none, some (.iload 4, 0, 0, 0), none, some (.iaload, 0, 0, 0), some (.goto 4, 0, 0, 0), none, none, some (.iload_n 2, 0, 0, 0), some (.istore_n 2, 0, 0, 0), some (.iconst 1, 0, 0, 0), some (.istore_n 3, 0, 0, 0), some (.iinc 4 1, 0, 0, 0), none, none, some (.goto (-88), 0, 0, 0), none, none, some (.iload_n 2, 0, 0, 0), some (.ireturn, 0, 0, 0)]
set_option maxRecDepth 100000 in
theorem k_X8_allowed : sw_Ok M_X8_allowed I_X8_allowed := (by decide +kernel : sw_ok yX8_allowed.cls cX8_allowed 0 I_X8_allowed = true)
abbrev M_X8_lookAtZones : sw_M := (yX8_lookAtZones, cX8_lookAtZones, 3, none, 2, 46)
def I_X8_lookAtZones : List (Option sw_I) := [some (.iconst 0, 0, 0, 0), some (.istore_n 1, 0, 0, 0), some (.iload_n 1, 0, 0, 0), some (.aload_n 0, 0, 0, 0), some (.getfield 7, 8, 0, 0), none, none, some (.if_icmp .gt 37, 0, 0, 0), none, none, some (.aload_n 0, 0, 0, 0), some (.iload_n 1, 0, 0, 0), some (.invokevirtual 107, 0, 0, 0), none, none, some (.istore_n 2, 0, 0, 0), some (.aload_n 0, 0, 0, 0), some (.getfield 51, 8, 24, 0), none, none, some (.iload_n 1, 0, 0, 0), some (.iload_n 2, 0, 0, 0), some (.aload_n 0, 0, 0, 0), some (.getfield 13, 8, 1, 0), none, none, some (.if_icmp .ge 7, 0, 0, 0), none, none, some (.iload_n 2, 0, 0, 0), some (.goto 7, 0, 0, 0), none, none, some (.aload_n 0, 0, 0, 0), some (.getfield 13, 8, 1, 0), none, none, some (.iastore, 0, 0, 0), some (.iinc 1 1, 0, 0, 0), none, none, some (.goto (-39), 0, 0, 0), none, none, some (.return_, 0, 0, 0)]
set_option maxRecDepth 100000 in
theorem k_X8_lookAtZones : sw_Ok M_X8_lookAtZones I_X8_lookAtZones := (by decide +kernel : sw_ok yX8_lookAtZones.cls cX8_lookAtZones 0 I_X8_lookAtZones = true)
abbrev M_X8_isTick : sw_M := (yX8_isTick, cX8_isTick, 6, (some .boolean), 2, 43)
def I_X8_isTick : List (Option sw_I) := [some (.iload_n 2, 0, 0, 0), some (.ifCond .ge 8, 0, 0, 0), none, none, some (.iload_n 2, 0, 0, 0), some (.ineg, 0, 0, 0), some (.goto 4, 0, 0, 0), none, none, some (.iload_n 2, 0, 0, 0), some (.istore_n 3, 0, 0, 0), some (.iload_n 3, 0, 0, 0), some (.aload_n 0, 0, 0, 0), some (.getfield 13, 8, 1, 0), none, none, some (.if_icmp .gt 13, 0, 0, 0), none, none, some (.aload_n 0, 0, 0, 0), some (.iload_n 1, 0, 0, 0), some (.iload_n 2, 0, 0, 0), some (.iadd, 0, 0, 0), some (.invokevirtual 103, 0, 0, 0), none, none, some (.ifCond .ne 5, 0, 0, 0), none, none, some (.iconst 0, 0, 0, 0), some (.ireturn, 0, 0, 0), some (.iload_n 2, 0, 0, 0), some (.ifCond .ge 9, 0, 0, 0), none, none, some (.iload_n 1, 0, 0, 0), some (.iload_n 2, 0, 0, 0), some (.iadd, 0, 0, 0), some (.goto 4, 0, 0, 0), none, none, some (.iload_n 1, 0, 0, 0), some (.istore 4, 0, 0, 0), none, some (.iload 4, 0, 0, 0), none, some (.istore 5, 0, 0, 0), none, some (.iload 5, 0, 0, 0), none, some (.iload 4, 0, 0, 0), none, some (.iload_n 3, 0, 0, 0), some (.iadd, 0, 0, 0), some (.if_icmp .gt 22, 0, 0, 0), none, none, some (.iload_n 3, 0, 0, 0), some (.aload_n 0, 0, 0, 0), some (.getfield 51, 8, 24, 0), none, none, some (.iload 5, 0, 0, 0), none, some (.iaload, 0, 0, 0), some (.if_icmp .le 5, 0, 0, 0), none, none, some (.iconst 0, 0, 0, 0), some (.ireturn, 0, 0, 0), some (.iinc 5 1, 0, 0, 0), none, none, some (.goto (-25), 0, 0, 0), none, none, some (.iconst 1, 0, 0, 0), some (.ireturn, 0, 0, 0)]
set_option maxRecDepth 100000 in
theorem k_X8_isTick : sw_Ok M_X8_isTick I_X8_isTick := (by decide +kernel : sw_ok yX8_isTick.cls cX8_isTick 0 I_X8_isTick = true)
abbrev M_X8_most : sw_M := (yX8_most, cX8_most, 4, (some .int), 3, 68)
def I_X8_most : List (Option sw_I) := [some (.aload_n 0, 0, 0, 0), some (.iload_n 1, 0, 0, 0), some (.invokevirtual 103, 0, 0, 0), none, none, some (.ifCond .eq 13, 0, 0, 0), none, none, some (.iload_n 2, 0, 0, 0), some (.iconst 1, 0, 0, 0), some (.if_icmp .eq 11, 0, 0, 0), none, none, some (.iload_n 2, 0, 0, 0), some (.iconst (-1), 0, 0, 0), some (.if_icmp .eq 6, 0, 0, 0), none, none, some (.bipush (-2), 0, 0, (-2)), none, some (.ireturn, 0, 0, 0), some (.aload_n 0, 0, 0, 0), some (.invokevirtual 111, 0, 0, 0), none, none, some (.iconst 0, 0, 0, 0), some (.istore_n 3, 0, 0, 0), some (.iload_n 3, 0, 0, 0), some (.aload_n 0, 0, 0, 0), some (.getfield 13, 8, 1, 0), none, none, some (.if_icmp .ge 22, 0, 0, 0), none, none, some (.aload_n 0, 0, 0, 0), some (.iload_n 1, 0, 0, 0), some (.iload_n 2, 0, 0, 0), some (.iload_n 3, 0, 0, 0), some (.iconst 1, 0, 0, 0), some (.iadd, 0, 0, 0), some (.imul, 0, 0, 0), some (.invokevirtual 114, 0, 0, 0), none, none, some (.ifCond .eq 9, 0, 0, 0), none, none, some (.iinc 3 1, 0, 0, 0), none, none, some (.goto (-24), 0, 0, 0), none, none, some (.iload_n 3, 0, 0, 0), some (.ireturn, 0, 0, 0)]
set_option maxRecDepth 100000 in
theorem k_X8_most : sw_Ok M_X8_most I_X8_most := (by decide +kernel : sw_ok yX8_most.cls cX8_most 0 I_X8_most = true)
abbrev M_X8_workBack : sw_M := (yX8_workBack, cX8_workBack, 8, none, 3, 68)
def I_X8_workBack : List (Option sw_I) := [some (.iconst 0, 0, 0, 0), some (.istore_n 2, 0, 0, 0), some (.iload_n 2, 0, 0, 0), some (.bipush 41, 0, 0, 41), none, some (.aload_n 0, 0, 0, 0), some (.getfield 7, 8, 0, 0), none, none, some (.iconst 1, 0, 0, 0), some (.iadd, 0, 0, 0), some (.imul, 0, 0, 0), some (.if_icmp .ge 16, 0, 0, 0), none, none, some (.aload_n 0, 0, 0, 0), some (.getfield 54, 8, 25, 0), none, none, some (.iload_n 2, 0, 0, 0), some (.iconst (-1), 0, 0, 0), some (.iastore, 0, 0, 0), some (.iinc 2 1, 0, 0, 0), none, none, some (.goto (-23), 0, 0, 0), none, none, some (.iconst 0, 0, 0, 0), some (.istore_n 2, 0, 0, 0), some (.aload_n 0, 0, 0, 0), some (.getfield 16, 8, 2, 0), none, none, some (.ineg, 0, 0, 0), some (.istore_n 3, 0, 0, 0), some (.iload_n 3, 0, 0, 0), some (.aload_n 0, 0, 0, 0), some (.getfield 16, 8, 2, 0), none, none, some (.if_icmp .gt 58, 0, 0, 0), none, none, some (.iload_n 3, 0, 0, 0), some (.aload_n 0, 0, 0, 0), some (.getfield 13, 8, 1, 0), none, none, some (.ineg, 0, 0, 0), some (.aload_n 0, 0, 0, 0), some (.getfield 13, 8, 1, 0), none, none, some (.invokestatic 87, 0, 0, 0), none, none, some (.ifCond .eq 36, 0, 0, 0), none, none, some (.aload_n 0, 0, 0, 0), some (.getfield 54, 8, 25, 0), none, none, some (.bipush 41, 0, 0, 41), none, some (.iload_n 1, 0, 0, 0), some (.imul, 0, 0, 0), some (.iload_n 3, 0, 0, 0), some (.iadd, 0, 0, 0), some (.bipush 20, 0, 0, 20), none, some (.iadd, 0, 0, 0), some (.iconst 0, 0, 0, 0), some (.iastore, 0, 0, 0), some (.aload_n 0, 0, 0, 0), some (.getfield 57, 8, 26, 0), none, none, some (.iload_n 2, 0, 0, 0), some (.bipush 41, 0, 0, 41), none, some (.iload_n 1, 0, 0, 0), some (.imul, 0, 0, 0), some (.iload_n 3, 0, 0, 0), some (.iadd, 0, 0, 0), some (.bipush 20, 0, 0, 20), none, some (.iadd, 0, 0, 0), some (.iastore, 0, 0, 0), some (.iinc 2 1, 0, 0, 0), none, none, some (.iinc 3 1, 0, 0, 0), none, none, some (.goto (-60), 0, 0, 0), none, none, some (.iconst 0, 0, 0, 0), some (.istore_n 3, 0, 0, 0), some (.iload_n 3, 0, 0, 0), some (.iload_n 2, 0, 0, 0), some (.if_icmp .ge 174, 0, 0, 0), none, none, some (.aload_n 0, 0, 0, 0), some (.getfield 57, 8, 26, 0), none, none, some (.iload_n 3, 0, 0, 0), some (.iaload, 0, 0, 0), some (.bipush 41, 0, 0, 41), none, some (.idiv, 0, 0, 0), some (.istore 4, 0, 0, 0), none, some (.aload_n 0, 0, 0, 0), some (.getfield 57, 8, 26, 0), none, none, some (.iload_n 3, 0, 0, 0), some (.iaload, 0, 0, 0), some (.bipush 41, 0, 0, 41), none, some (.irem, 0, 0, 0), some (.bipush 20, 0, 0, 20), none, some (.isub, 0, 0, 0), some (.istore 5, 0, 0, 0), none, some (.iload 4, 0, 0, 0), none, some (.iload 5, 0, 0, 0), none, some (.isub, 0, 0, 0), some (.istore 6, 0, 0, 0), none, some (.aload_n 0, 0, 0, 0), some (.iload 6, 0, 0, 0), none, some (.invokevirtual 103, 0, 0, 0), none, none, some (.ifCond .eq 127, 0, 0, 0), none, none, some (.aload_n 0, 0, 0, 0), some (.iload 6, 0, 0, 0), none, some (.iload 5, 0, 0, 0), none, some (.invokevirtual 114, 0, 0, 0), none, none, some (.ifCond .eq 116, 0, 0, 0), none, none, some (.iload 5, 0, 0, 0), none, some (.aload_n 0, 0, 0, 0), some (.getfield 16, 8, 2, 0), none, none, some (.isub, 0, 0, 0), some (.istore 7, 0, 0, 0), none, some (.iload 7, 0, 0, 0), none, some (.iload 5, 0, 0, 0), none, some (.aload_n 0, 0, 0, 0), some (.getfield 16, 8, 2, 0), none, none, some (.iadd, 0, 0, 0), some (.if_icmp .gt 95, 0, 0, 0), none, none, some (.iload 7, 0, 0, 0), none, some (.aload_n 0, 0, 0, 0), some (.getfield 13, 8, 1, 0), none, none, some (.ineg, 0, 0, 0), some (.aload_n 0, 0, 0, 0), some (.getfield 13, 8, 1, 0), none, none, some (.invokestatic 87, 0, 0, 0), none, none, some (.ifCond .eq 72, 0, 0, 0), none, none, some (.aload_n 0, 0, 0, 0), some (.getfield 54, 8, 25, 0), none, none, some (.bipush 41, 0, 0, 41), none, some (.iload 6, 0, 0, 0), none, some (.imul, 0, 0, 0), some (.iload 7, 0, 0, 0), none, some (.iadd, 0, 0, 0), some (.bipush 20, 0, 0, 20), none, some (.iadd, 0, 0, 0), some (.iaload, 0, 0, 0), some (.iconst (-1), 0, 0, 0), some (.if_icmp .ne 52, 0, 0, 0), none, none, some (.aload_n 0, 0, 0, 0), some (.getfield 54, 8, 25, 0), none, none, some (.bipush 41, 0, 0, 41), none, some (.iload 6, 0, 0, 0), none, some (.imul, 0, 0, 0), some (.iload 7, 0, 0, 0), none, some (.iadd, 0, 0, 0), some (.bipush 20, 0, 0, 20), none, some (.iadd, 0, 0, 0), some (.aload_n 0, 0, 0, 0), some (.getfield 54, 8, 25, 0), none, none, some (.aload_n 0, 0, 0, 0), some (.getfield 57, 8, 26, 0), none, none, some (.iload_n 3, 0, 0, 0), some (.iaload, 0, 0, 0), some (.iaload, 0, 0, 0), some (.iconst 1, 0, 0, 0), some (.iadd, 0, 0, 0), some (.iastore, 0, 0, 0), some (.aload_n 0, 0, 0, 0), some (.getfield 57, 8, 26, 0), none, none, some (.iload_n 2, 0, 0, 0), some (.bipush 41, 0, 0, 41), none, some (.iload 6, 0, 0, 0), none, some (.imul, 0, 0, 0), some (.iload 7, 0, 0, 0), none, some (.iadd, 0, 0, 0), some (.bipush 20, 0, 0, 20), none, some (.iadd, 0, 0, 0), some (.iastore, 0, 0, 0), some (.iinc 2 1, 0, 0, 0), none, none, some (.iinc 7 1, 0, 0, 0), none, none, some (.goto (-101), 0, 0, 0), none, none, some (.iinc 3 1, 0, 0, 0), none, none, some (.goto (-173), 0, 0, 0), none, none, some (.return_, 0, 0, 0)]
set_option maxRecDepth 100000 in
theorem k_X8_workBack : sw_Ok M_X8_workBack I_X8_workBack := (by decide +kernel : sw_ok yX8_workBack.cls cX8_workBack 0 I_X8_workBack = true)
abbrev M_X8_plans : sw_M := (yX8_plans, cX8_plans, 8, (some .int), 4, 95)
def I_X8_plans : List (Option sw_I) := [some (.aload_n 0, 0, 0, 0), some (.invokevirtual 111, 0, 0, 0), none, none, some (.aload_n 0, 0, 0, 0), some (.iload_n 2, 0, 0, 0), some (.invokevirtual 118, 0, 0, 0), none, none, some (.iload_n 2, 0, 0, 0), some (.iload_n 1, 0, 0, 0), some (.if_icmp .le 7, 0, 0, 0), none, none, some (.iconst 1, 0, 0, 0), some (.goto 4, 0, 0, 0), none, none, some (.iconst (-1), 0, 0, 0), some (.istore_n 3, 0, 0, 0), some (.iload_n 1, 0, 0, 0), some (.istore 4, 0, 0, 0), none, some (.iconst 0, 0, 0, 0), some (.istore 5, 0, 0, 0), none, some (.iconst 0, 0, 0, 0), some (.istore 6, 0, 0, 0), none, some (.aload_n 0, 0, 0, 0), some (.getfield 54, 8, 25, 0), none, none, some (.bipush 41, 0, 0, 41), none, some (.iload 4, 0, 0, 0), none, some (.imul, 0, 0, 0), some (.iload 5, 0, 0, 0), none, some (.iadd, 0, 0, 0), some (.bipush 20, 0, 0, 20), none, some (.iadd, 0, 0, 0), some (.iaload, 0, 0, 0), some (.ifCond .le 57, 0, 0, 0), none, none, some (.iload_n 3, 0, 0, 0), some (.bipush 20, 0, 0, 20), none, some (.imul, 0, 0, 0), some (.istore 7, 0, 0, 0), none, some (.aload_n 0, 0, 0, 0), some (.iload 4, 0, 0, 0), none, some (.iload 5, 0, 0, 0), none, some (.iload 7, 0, 0, 0), none, some (.invokevirtual 122, 0, 0, 0), none, none, some (.ifCond .ne 12, 0, 0, 0), none, none, some (.iload 7, 0, 0, 0), none, some (.iload_n 3, 0, 0, 0), some (.isub, 0, 0, 0), some (.istore 7, 0, 0, 0), none, some (.goto (-19), 0, 0, 0), none, none, some (.aload_n 0, 0, 0, 0), some (.getfield 60, 8, 27, 0), none, none, some (.iload 6, 0, 0, 0), none, some (.iload 7, 0, 0, 0), none, some (.iastore, 0, 0, 0), some (.iinc 6 1, 0, 0, 0), none, none, some (.iload 4, 0, 0, 0), none, some (.iload 7, 0, 0, 0), none, some (.iadd, 0, 0, 0), some (.istore 4, 0, 0, 0), none, some (.iload 7, 0, 0, 0), none, some (.istore 5, 0, 0, 0), none, some (.goto (-70), 0, 0, 0), none, none, some (.iload 6, 0, 0, 0), none, some (.ireturn, 0, 0, 0)]
set_option maxRecDepth 100000 in
theorem k_X8_plans : sw_Ok M_X8_plans I_X8_plans := (by decide +kernel : sw_ok yX8_plans.cls cX8_plans 0 I_X8_plans = true)
abbrev M_X8_goes : sw_M := (yX8_goes, cX8_goes, 5, (some .boolean), 3, 68)
def I_X8_goes : List (Option sw_I) := [some (.iload_n 3, 0, 0, 0), some (.iload_n 2, 0, 0, 0), some (.isub, 0, 0, 0), some (.istore 4, 0, 0, 0), none, some (.iload 4, 0, 0, 0), none, some (.aload_n 0, 0, 0, 0), some (.getfield 16, 8, 2, 0), none, none, some (.ineg, 0, 0, 0), some (.aload_n 0, 0, 0, 0), some (.getfield 16, 8, 2, 0), none, none, some (.invokestatic 87, 0, 0, 0), none, none, some (.ifCond .eq 51, 0, 0, 0), none, none, some (.aload_n 0, 0, 0, 0), some (.iload_n 1, 0, 0, 0), some (.iload_n 3, 0, 0, 0), some (.invokevirtual 114, 0, 0, 0), none, none, some (.ifCond .eq 42, 0, 0, 0), none, none, some (.aload_n 0, 0, 0, 0), some (.getfield 54, 8, 25, 0), none, none, some (.bipush 41, 0, 0, 41), none, some (.iload_n 1, 0, 0, 0), some (.iload_n 3, 0, 0, 0), some (.iadd, 0, 0, 0), some (.imul, 0, 0, 0), some (.iload_n 3, 0, 0, 0), some (.iadd, 0, 0, 0), some (.bipush 20, 0, 0, 20), none, some (.iadd, 0, 0, 0), some (.iaload, 0, 0, 0), some (.aload_n 0, 0, 0, 0), some (.getfield 54, 8, 25, 0), none, none, some (.bipush 41, 0, 0, 41), none, some (.iload_n 1, 0, 0, 0), some (.imul, 0, 0, 0), some (.iload_n 2, 0, 0, 0), some (.iadd, 0, 0, 0), some (.bipush 20, 0, 0, 20), none, some (.iadd, 0, 0, 0), some (.iaload, 0, 0, 0), some (.iconst 1, 0, 0, 0), some (.isub, 0, 0, 0), some (.if_icmp .ne 7, 0, 0, 0), none, none, some (.iconst 1, 0, 0, 0), some (.goto 4, 0, 0, 0), none, none, some (.iconst 0, 0, 0, 0), some (.ireturn, 0, 0, 0)]
set_option maxRecDepth 100000 in
theorem k_X8_goes : sw_Ok M_X8_goes I_X8_goes := (by decide +kernel : sw_ok yX8_goes.cls cX8_goes 0 I_X8_goes = true)
abbrev M_X8_ticks : sw_M := (yX8_ticks, cX8_ticks, 2, (some .int), 5, 122)
def I_X8_ticks : List (Option sw_I) := [some (.aload_n 0, 0, 0, 0), some (.iload_n 1, 0, 0, 0), some (.invokevirtual 103, 0, 0, 0), none, none, some (.ifCond .ne 6, 0, 0, 0), none, none, some (.bipush (-2), 0, 0, (-2)), none, some (.ireturn, 0, 0, 0), some (.aload_n 0, 0, 0, 0), some (.getfield 91, 8, 12, 0), none, none, some (.ifCond .ne 15, 0, 0, 0), none, none, some (.aload_n 0, 0, 0, 0), some (.aload_n 0, 0, 0, 0), some (.getfield 100, 8, 10, 0), none, none, some (.iload_n 1, 0, 0, 0), some (.invokevirtual 125, 0, 0, 0), none, none, some (.goto 5, 0, 0, 0), none, none, some (.bipush (-4), 0, 0, (-4)), none, some (.ireturn, 0, 0, 0)]
set_option maxRecDepth 100000 in
theorem k_X8_ticks : sw_Ok M_X8_ticks I_X8_ticks := (by decide +kernel : sw_ok yX8_ticks.cls cX8_ticks 0 I_X8_ticks = true)
abbrev M_X8_speed : sw_M := (yX8_speed, cX8_speed, 4, (some .int), 5, 122)
def I_X8_speed : List (Option sw_I) := [some (.aload_n 0, 0, 0, 0), some (.iload_n 1, 0, 0, 0), some (.invokevirtual 103, 0, 0, 0), none, none, some (.ifCond .ne 7, 0, 0, 0), none, none, some (.sipush (-2000), 0, 0, (-2000)), none, none, some (.ireturn, 0, 0, 0), some (.aload_n 0, 0, 0, 0), some (.getfield 91, 8, 12, 0), none, none, some (.ifCond .eq 7, 0, 0, 0), none, none, some (.sipush (-3000), 0, 0, (-3000)), none, none, some (.ireturn, 0, 0, 0), some (.aload_n 0, 0, 0, 0), some (.aload_n 0, 0, 0, 0), some (.getfield 100, 8, 10, 0), none, none, some (.iload_n 1, 0, 0, 0), some (.invokevirtual 125, 0, 0, 0), none, none, some (.istore_n 3, 0, 0, 0), some (.iload_n 2, 0, 0, 0), some (.iconst 1, 0, 0, 0), some (.iload_n 3, 0, 0, 0), some (.invokestatic 87, 0, 0, 0), none, none, some (.ifCond .eq 14, 0, 0, 0), none, none, some (.aload_n 0, 0, 0, 0), some (.getfield 60, 8, 27, 0), none, none, some (.iload_n 2, 0, 0, 0), some (.iconst 1, 0, 0, 0), some (.isub, 0, 0, 0), some (.iaload, 0, 0, 0), some (.goto 6, 0, 0, 0), none, none, some (.sipush (-1000), 0, 0, (-1000)), none, none, some (.ireturn, 0, 0, 0)]
set_option maxRecDepth 100000 in
theorem k_X8_speed : sw_Ok M_X8_speed I_X8_speed := (by decide +kernel : sw_ok yX8_speed.cls cX8_speed 0 I_X8_speed = true)
abbrev M_X8_ring : sw_M := (yX8_ring, cX8_ring, 2, (some .int), 1, 22)
def I_X8_ring : List (Option sw_I) := [some (.iload_n 1, 0, 0, 0), some (.iconst 1, 0, 0, 0), some (.bipush 9, 0, 0, 9), none, some (.invokestatic 87, 0, 0, 0), none, none, some (.ifCond .ne 6, 0, 0, 0), none, none, some (.bipush (-2), 0, 0, (-2)), none, some (.ireturn, 0, 0, 0), some (.aload_n 0, 0, 0, 0), some (.iload_n 1, 0, 0, 0), some (.putfield 129, 8, 13, 0), none, none, some (.iconst 1, 0, 0, 0), some (.ireturn, 0, 0, 0)]
set_option maxRecDepth 100000 in
theorem k_X8_ring : sw_Ok M_X8_ring I_X8_ring := (by decide +kernel : sw_ok yX8_ring.cls cX8_ring 0 I_X8_ring = true)
abbrev M_X8_link : sw_M := (yX8_link, cX8_link, 3, (some .int), 1, 22)
def I_X8_link : List (Option sw_I) := [some (.iload_n 1, 0, 0, 0), some (.iconst 0, 0, 0, 0), some (.bipush 7, 0, 0, 7), none, some (.invokestatic 87, 0, 0, 0), none, none, some (.ifCond .ne 6, 0, 0, 0), none, none, some (.bipush (-2), 0, 0, (-2)), none, some (.ireturn, 0, 0, 0), some (.aload_n 0, 0, 0, 0), some (.getfield 35, 8, 14, 0), none, none, some (.iload_n 1, 0, 0, 0), some (.iload_n 2, 0, 0, 0), some (.ifCond .ne 7, 0, 0, 0), none, none, some (.iconst 1, 0, 0, 0), some (.goto 4, 0, 0, 0), none, none, some (.iconst 0, 0, 0, 0), some (.bastore, 0, 0, 0), some (.iconst 1, 0, 0, 0), some (.ireturn, 0, 0, 0)]
set_option maxRecDepth 100000 in
theorem k_X8_link : sw_Ok M_X8_link I_X8_link := (by decide +kernel : sw_ok yX8_link.cls cX8_link 0 I_X8_link = true)
abbrev M_X8_error : sw_M := (yX8_error, cX8_error, 3, (some .int), 1, 22)
def I_X8_error : List (Option sw_I) := [some (.iload_n 1, 0, 0, 0), some (.iconst 0, 0, 0, 0), some (.iconst 2, 0, 0, 0), some (.invokestatic 87, 0, 0, 0), none, none, some (.ifCond .eq 16, 0, 0, 0), none, none, some (.iload_n 2, 0, 0, 0), some (.sipush (-1000), 0, 0, (-1000)), none, none, some (.sipush 1000, 0, 0, 1000), none, none, some (.invokestatic 87, 0, 0, 0), none, none, some (.ifCond .ne 6, 0, 0, 0), none, none, some (.bipush (-2), 0, 0, (-2)), none, some (.ireturn, 0, 0, 0), some (.aload_n 0, 0, 0, 0), some (.getfield 39, 8, 15, 0), none, none, some (.iload_n 1, 0, 0, 0), some (.iload_n 2, 0, 0, 0), some (.iastore, 0, 0, 0), some (.iconst 1, 0, 0, 0), some (.ireturn, 0, 0, 0)]
set_option maxRecDepth 100000 in
theorem k_X8_error : sw_Ok M_X8_error I_X8_error := (by decide +kernel : sw_ok yX8_error.cls cX8_error 0 I_X8_error = true)
abbrev M_X8_guard : sw_M := (yX8_guard, cX8_guard, 3, (some .int), 1, 22)
def I_X8_guard : List (Option sw_I) := [some (.iload_n 1, 0, 0, 0), some (.iconst 0, 0, 0, 0), some (.bipush 20, 0, 0, 20), none, some (.invokestatic 87, 0, 0, 0), none, none, some (.ifCond .eq 13, 0, 0, 0), none, none, some (.iload_n 2, 0, 0, 0), some (.iconst 1, 0, 0, 0), some (.bipush 10, 0, 0, 10), none, some (.invokestatic 87, 0, 0, 0), none, none, some (.ifCond .ne 6, 0, 0, 0), none, none, some (.bipush (-2), 0, 0, (-2)), none, some (.ireturn, 0, 0, 0), some (.aload_n 0, 0, 0, 0), some (.iload_n 1, 0, 0, 0), some (.putfield 42, 8, 16, 0), none, none, some (.aload_n 0, 0, 0, 0), some (.iload_n 2, 0, 0, 0), some (.putfield 45, 8, 17, 0), none, none, some (.iconst 1, 0, 0, 0), some (.ireturn, 0, 0, 0)]
set_option maxRecDepth 100000 in
theorem k_X8_guard : sw_Ok M_X8_guard I_X8_guard := (by decide +kernel : sw_ok yX8_guard.cls cX8_guard 0 I_X8_guard = true)
abbrev M_X8_opens : sw_M := (yX8_opens, cX8_opens, 3, (some .int), 0, 0)
def I_X8_opens : List (Option sw_I) := [some (.iconst 0, 0, 0, 0), some (.istore_n 1, 0, 0, 0), some (.iconst 0, 0, 0, 0), some (.istore_n 2, 0, 0, 0), some (.iload_n 2, 0, 0, 0), some (.bipush 8, 0, 0, 8), none, some (.if_icmp .ge 26, 0, 0, 0), none, none, some (.iload_n 1, 0, 0, 0), some (.aload_n 0, 0, 0, 0), some (.getfield 35, 8, 14, 0), none, none, some (.iload_n 2, 0, 0, 0), some (.baload, 0, 0, 0), some (.ifCond .eq 7, 0, 0, 0), none, none, some (.iconst 1, 0, 0, 0), some (.goto 4, 0, 0, 0), none, none, some (.iconst 0, 0, 0, 0), some (.iadd, 0, 0, 0), some (.istore_n 1, 0, 0, 0), some (.iinc 2 1, 0, 0, 0), none, none, some (.goto (-26), 0, 0, 0), none, none, some (.iload_n 1, 0, 0, 0), some (.ireturn, 0, 0, 0)]
set_option maxRecDepth 100000 in
theorem k_X8_opens : sw_Ok M_X8_opens I_X8_opens := (by decide +kernel : sw_ok yX8_opens.cls cX8_opens 0 I_X8_opens = true)
abbrev M_X8_told : sw_M := (yX8_told, cX8_told, 6, (some .int), 0, 0)
def I_X8_told : List (Option sw_I) := [some (.aload_n 0, 0, 0, 0), some (.getfield 39, 8, 15, 0), none, none, some (.iconst 0, 0, 0, 0), some (.iaload, 0, 0, 0), some (.istore_n 1, 0, 0, 0), some (.aload_n 0, 0, 0, 0), some (.getfield 39, 8, 15, 0), none, none, some (.iconst 1, 0, 0, 0), some (.iaload, 0, 0, 0), some (.istore_n 2, 0, 0, 0), some (.aload_n 0, 0, 0, 0), some (.getfield 39, 8, 15, 0), none, none, some (.iconst 2, 0, 0, 0), some (.iaload, 0, 0, 0), some (.istore_n 3, 0, 0, 0), some (.iload_n 1, 0, 0, 0), some (.iload_n 2, 0, 0, 0), some (.if_icmp .ge 7, 0, 0, 0), none, none, some (.iload_n 1, 0, 0, 0), some (.goto 4, 0, 0, 0), none, none, some (.iload_n 2, 0, 0, 0), some (.istore 4, 0, 0, 0), none, some (.iload_n 1, 0, 0, 0), some (.iload_n 2, 0, 0, 0), some (.if_icmp .ge 7, 0, 0, 0), none, none, some (.iload_n 2, 0, 0, 0), some (.goto 4, 0, 0, 0), none, none, some (.iload_n 1, 0, 0, 0), some (.istore 5, 0, 0, 0), none, some (.aload_n 0, 0, 0, 0), some (.getfield 100, 8, 10, 0), none, none, some (.iload_n 3, 0, 0, 0), some (.iload 4, 0, 0, 0), none, some (.if_icmp .ge 8, 0, 0, 0), none, none, some (.iload 4, 0, 0, 0), none, some (.goto 15, 0, 0, 0), none, none, some (.iload_n 3, 0, 0, 0), some (.iload 5, 0, 0, 0), none, some (.if_icmp .le 8, 0, 0, 0), none, none, some (.iload 5, 0, 0, 0), none, some (.goto 4, 0, 0, 0), none, none, some (.iload_n 3, 0, 0, 0), some (.iadd, 0, 0, 0), some (.ireturn, 0, 0, 0)]
set_option maxRecDepth 100000 in
theorem k_X8_told : sw_Ok M_X8_told I_X8_told := (by decide +kernel : sw_ok yX8_told.cls cX8_told 0 I_X8_told = true)
abbrev M_X8_begin : sw_M := (yX8_begin, cX8_begin, 3, (some .int), 5, 122)
def I_X8_begin : List (Option sw_I) := [some (.iload_n 1, 0, 0, 0), some (.iconst 0, 0, 0, 0), some (.aload_n 0, 0, 0, 0), some (.getfield 97, 8, 7, 0), none, none, some (.iconst 1, 0, 0, 0), some (.isub, 0, 0, 0), some (.invokestatic 87, 0, 0, 0), none, none, some (.ifCond .ne 6, 0, 0, 0), none, none, some (.bipush (-2), 0, 0, (-2)), none, some (.ireturn, 0, 0, 0), some (.aload_n 0, 0, 0, 0), some (.getfield 91, 8, 12, 0), none, none, some (.ifCond .ne 23, 0, 0, 0), none, none, some (.aload_n 0, 0, 0, 0), some (.invokevirtual 132, 0, 0, 0), none, none, some (.ifCond .gt 16, 0, 0, 0), none, none, some (.aload_n 0, 0, 0, 0), some (.getfield 129, 8, 13, 0), none, none, some (.aload_n 0, 0, 0, 0), some (.getfield 32, 8, 9, 0), none, none, some (.iload_n 1, 0, 0, 0), some (.iaload, 0, 0, 0), some (.if_icmp .eq 6, 0, 0, 0), none, none, some (.bipush (-4), 0, 0, (-4)), none, some (.ireturn, 0, 0, 0), some (.aload_n 0, 0, 0, 0), some (.iconst 0, 0, 0, 0), some (.putfield 129, 8, 13, 0), none, none, some (.aload_n 0, 0, 0, 0), some (.aload_n 0, 0, 0, 0), some (.aload_n 0, 0, 0, 0), some (.getfield 100, 8, 10, 0), none, none, some (.aload_n 0, 0, 0, 0), some (.getfield 29, 8, 8, 0), none, none, some (.iload_n 1, 0, 0, 0), some (.iaload, 0, 0, 0), some (.invokevirtual 125, 0, 0, 0), none, none, some (.putfield 136, 8, 22, 0), none, none, some (.aload_n 0, 0, 0, 0), some (.iconst 0, 0, 0, 0), some (.putfield 139, 8, 23, 0), none, none, some (.iconst 0, 0, 0, 0), some (.istore_n 2, 0, 0, 0), some (.iload_n 2, 0, 0, 0), some (.aload_n 0, 0, 0, 0), some (.getfield 136, 8, 22, 0), none, none, some (.if_icmp .ge 21, 0, 0, 0), none, none, some (.aload_n 0, 0, 0, 0), some (.getfield 48, 8, 21, 0), none, none, some (.iload_n 2, 0, 0, 0), some (.aload_n 0, 0, 0, 0), some (.getfield 60, 8, 27, 0), none, none, some (.iload_n 2, 0, 0, 0), some (.iaload, 0, 0, 0), some (.iastore, 0, 0, 0), some (.iinc 2 1, 0, 0, 0), none, none, some (.goto (-23), 0, 0, 0), none, none, some (.aload_n 0, 0, 0, 0), some (.aload_n 0, 0, 0, 0), some (.getfield 136, 8, 22, 0), none, none, some (.ifCond .le 7, 0, 0, 0), none, none, some (.iconst 1, 0, 0, 0), some (.goto 4, 0, 0, 0), none, none, some (.iconst 0, 0, 0, 0), some (.putfield 91, 8, 12, 0), none, none, some (.aload_n 0, 0, 0, 0), some (.getfield 136, 8, 22, 0), none, none, some (.ireturn, 0, 0, 0)]
set_option maxRecDepth 100000 in
theorem k_X8_begin : sw_Ok M_X8_begin I_X8_begin := (by decide +kernel : sw_ok yX8_begin.cls cX8_begin 0 I_X8_begin = true)
abbrev M_X8_brakes : sw_M := (yX8_brakes, cX8_brakes, 1, none, 2, 43)
def I_X8_brakes : List (Option sw_I) := [some (.aload_n 0, 0, 0, 0), some (.getfield 142, 8, 11, 0), none, none, some (.ifCond .le 34, 0, 0, 0), none, none, some (.aload_n 0, 0, 0, 0), some (.aload_n 0, 0, 0, 0), some (.getfield 142, 8, 11, 0), none, none, some (.aload_n 0, 0, 0, 0), some (.getfield 45, 8, 17, 0), none, none, some (.if_icmp .le 15, 0, 0, 0), none, none, some (.aload_n 0, 0, 0, 0), some (.getfield 142, 8, 11, 0), none, none, some (.aload_n 0, 0, 0, 0), some (.getfield 45, 8, 17, 0), none, none, some (.isub, 0, 0, 0), some (.goto 4, 0, 0, 0), none, none, some (.iconst 0, 0, 0, 0), some (.putfield 142, 8, 11, 0), none, none, some (.goto 32, 0, 0, 0), none, none, some (.aload_n 0, 0, 0, 0), some (.aload_n 0, 0, 0, 0), some (.getfield 142, 8, 11, 0), none, none, some (.ineg, 0, 0, 0), some (.aload_n 0, 0, 0, 0), some (.getfield 45, 8, 17, 0), none, none, some (.if_icmp .le 15, 0, 0, 0), none, none, some (.aload_n 0, 0, 0, 0), some (.getfield 142, 8, 11, 0), none, none, some (.aload_n 0, 0, 0, 0), some (.getfield 45, 8, 17, 0), none, none, some (.iadd, 0, 0, 0), some (.goto 4, 0, 0, 0), none, none, some (.iconst 0, 0, 0, 0), some (.putfield 142, 8, 11, 0), none, none, some (.aload_n 0, 0, 0, 0), some (.dup, 0, 0, 0), some (.getfield 100, 8, 10, 0), none, none, some (.aload_n 0, 0, 0, 0), some (.getfield 142, 8, 11, 0), none, none, some (.iadd, 0, 0, 0), some (.putfield 100, 8, 10, 0), none, none, some (.aload_n 0, 0, 0, 0), some (.aload_n 0, 0, 0, 0), some (.getfield 100, 8, 10, 0), none, none, some (.invokevirtual 103, 0, 0, 0), none, none, some (.ifCond .ne 27, 0, 0, 0), none, none, some (.aload_n 0, 0, 0, 0), some (.aload_n 0, 0, 0, 0), some (.getfield 100, 8, 10, 0), none, none, some (.ifCond .ge 7, 0, 0, 0), none, none, some (.iconst 0, 0, 0, 0), some (.goto 7, 0, 0, 0), none, none, some (.aload_n 0, 0, 0, 0), some (.getfield 7, 8, 0, 0), none, none, some (.putfield 100, 8, 10, 0), none, none, some (.aload_n 0, 0, 0, 0), some (.iconst 0, 0, 0, 0), some (.putfield 142, 8, 11, 0), none, none, some (.aload_n 0, 0, 0, 0), some (.aload_n 0, 0, 0, 0), some (.getfield 142, 8, 11, 0), none, none, some (.ifCond .ne 7, 0, 0, 0), none, none, some (.iconst 0, 0, 0, 0), some (.goto 4, 0, 0, 0), none, none, some (.iconst 2, 0, 0, 0), some (.putfield 91, 8, 12, 0), none, none, some (.return_, 0, 0, 0)]
set_option maxRecDepth 100000 in
theorem k_X8_brakes : sw_Ok M_X8_brakes I_X8_brakes := (by decide +kernel : sw_ok yX8_brakes.cls cX8_brakes 0 I_X8_brakes = true)
abbrev M_X8_rides : sw_M := (yX8_rides, cX8_rides, 3, none, 3, 63)
def I_X8_rides : List (Option sw_I) := [some (.aload_n 0, 0, 0, 0), some (.getfield 48, 8, 21, 0), none, none, some (.aload_n 0, 0, 0, 0), some (.getfield 139, 8, 23, 0), none, none, some (.iaload, 0, 0, 0), some (.istore_n 1, 0, 0, 0), some (.iload_n 1, 0, 0, 0), some (.ifCond .ge 8, 0, 0, 0), none, none, some (.iload_n 1, 0, 0, 0), some (.ineg, 0, 0, 0), some (.goto 4, 0, 0, 0), none, none, some (.iload_n 1, 0, 0, 0), some (.istore_n 2, 0, 0, 0), some (.aload_n 0, 0, 0, 0), some (.invokevirtual 132, 0, 0, 0), none, none, some (.ifCond .gt 20, 0, 0, 0), none, none, some (.iload_n 2, 0, 0, 0), some (.aload_n 0, 0, 0, 0), some (.aload_n 0, 0, 0, 0), some (.invokevirtual 145, 0, 0, 0), none, none, some (.invokevirtual 107, 0, 0, 0), none, none, some (.aload_n 0, 0, 0, 0), some (.getfield 42, 8, 16, 0), none, none, some (.iadd, 0, 0, 0), some (.if_icmp .le 26, 0, 0, 0), none, none, some (.aload_n 0, 0, 0, 0), some (.dup, 0, 0, 0), some (.getfield 148, 8, 20, 0), none, none, some (.iconst 1, 0, 0, 0), some (.iadd, 0, 0, 0), some (.putfield 148, 8, 20, 0), none, none, some (.aload_n 0, 0, 0, 0), some (.aload_n 0, 0, 0, 0), some (.getfield 136, 8, 22, 0), none, none, some (.putfield 139, 8, 23, 0), none, none, some (.aload_n 0, 0, 0, 0), some (.invokevirtual 151, 0, 0, 0), none, none, some (.return_, 0, 0, 0), some (.aload_n 0, 0, 0, 0), some (.iload_n 1, 0, 0, 0), some (.putfield 142, 8, 11, 0), none, none, some (.aload_n 0, 0, 0, 0), some (.dup, 0, 0, 0), some (.getfield 100, 8, 10, 0), none, none, some (.iload_n 1, 0, 0, 0), some (.iadd, 0, 0, 0), some (.putfield 100, 8, 10, 0), none, none, some (.aload_n 0, 0, 0, 0), some (.dup, 0, 0, 0), some (.getfield 139, 8, 23, 0), none, none, some (.iconst 1, 0, 0, 0), some (.iadd, 0, 0, 0), some (.putfield 139, 8, 23, 0), none, none, some (.aload_n 0, 0, 0, 0), some (.getfield 139, 8, 23, 0), none, none, some (.aload_n 0, 0, 0, 0), some (.getfield 136, 8, 22, 0), none, none, some (.if_icmp .ne 23, 0, 0, 0), none, none, some (.aload_n 0, 0, 0, 0), some (.iconst 0, 0, 0, 0), some (.putfield 142, 8, 11, 0), none, none, some (.aload_n 0, 0, 0, 0), some (.iconst 0, 0, 0, 0), some (.putfield 91, 8, 12, 0), none, none, some (.aload_n 0, 0, 0, 0), some (.dup, 0, 0, 0), some (.getfield 154, 8, 19, 0), none, none, some (.iconst 1, 0, 0, 0), some (.iadd, 0, 0, 0), some (.putfield 154, 8, 19, 0), none, none, some (.return_, 0, 0, 0)]
set_option maxRecDepth 100000 in
theorem k_X8_rides : sw_Ok M_X8_rides I_X8_rides := (by decide +kernel : sw_ok yX8_rides.cls cX8_rides 0 I_X8_rides = true)
abbrev M_X8_pass : sw_M := (yX8_pass, cX8_pass, 4, (some .int), 4, 85)
def I_X8_pass : List (Option sw_I) := [some (.iload_n 1, 0, 0, 0), some (.iconst 1, 0, 0, 0), some (.sipush 400, 0, 0, 400), none, none, some (.invokestatic 87, 0, 0, 0), none, none, some (.ifCond .ne 6, 0, 0, 0), none, none, some (.bipush (-2), 0, 0, (-2)), none, some (.ireturn, 0, 0, 0), some (.iconst 0, 0, 0, 0), some (.istore_n 2, 0, 0, 0), some (.iload_n 2, 0, 0, 0), some (.iload_n 1, 0, 0, 0), some (.if_icmp .ge 90, 0, 0, 0), none, none, some (.aload_n 0, 0, 0, 0), some (.getfield 91, 8, 12, 0), none, none, some (.iconst 1, 0, 0, 0), some (.if_icmp .ne 10, 0, 0, 0), none, none, some (.aload_n 0, 0, 0, 0), some (.invokevirtual 157, 0, 0, 0), none, none, some (.goto 15, 0, 0, 0), none, none, some (.aload_n 0, 0, 0, 0), some (.getfield 91, 8, 12, 0), none, none, some (.iconst 2, 0, 0, 0), some (.if_icmp .ne 7, 0, 0, 0), none, none, some (.aload_n 0, 0, 0, 0), some (.invokevirtual 151, 0, 0, 0), none, none, some (.iconst 3, 0, 0, 0), some (.aload_n 0, 0, 0, 0), some (.getfield 160, 8, 18, 0), none, none, some (.bipush 40, 0, 0, 40), none, some (.irem, 0, 0, 0), some (.imul, 0, 0, 0), some (.istore_n 3, 0, 0, 0), some (.aload_n 0, 0, 0, 0), some (.getfield 63, 8, 28, 0), none, none, some (.iload_n 3, 0, 0, 0), some (.aload_n 0, 0, 0, 0), some (.getfield 100, 8, 10, 0), none, none, some (.iastore, 0, 0, 0), some (.aload_n 0, 0, 0, 0), some (.getfield 63, 8, 28, 0), none, none, some (.iload_n 3, 0, 0, 0), some (.iconst 1, 0, 0, 0), some (.iadd, 0, 0, 0), some (.aload_n 0, 0, 0, 0), some (.getfield 142, 8, 11, 0), none, none, some (.iastore, 0, 0, 0), some (.aload_n 0, 0, 0, 0), some (.getfield 63, 8, 28, 0), none, none, some (.iload_n 3, 0, 0, 0), some (.iconst 2, 0, 0, 0), some (.iadd, 0, 0, 0), some (.aload_n 0, 0, 0, 0), some (.getfield 91, 8, 12, 0), none, none, some (.iastore, 0, 0, 0), some (.aload_n 0, 0, 0, 0), some (.dup, 0, 0, 0), some (.getfield 160, 8, 18, 0), none, none, some (.iconst 1, 0, 0, 0), some (.iadd, 0, 0, 0), some (.putfield 160, 8, 18, 0), none, none, some (.iinc 2 1, 0, 0, 0), none, none, some (.goto (-89), 0, 0, 0), none, none, some (.aload_n 0, 0, 0, 0), some (.getfield 91, 8, 12, 0), none, none, some (.ireturn, 0, 0, 0)]
set_option maxRecDepth 100000 in
theorem k_X8_pass : sw_Ok M_X8_pass I_X8_pass := (by decide +kernel : sw_ok yX8_pass.cls cX8_pass 0 I_X8_pass = true)
abbrev M_X8_state : sw_M := (yX8_state, cX8_state, 2, (some .int), 1, 25)
def I_X8_state : List (Option sw_I) := [some (.iload_n 1, 0, 0, 0), some (.tableswitch 149 0 12 #[67, 72, 77, 82, 87, 92, 97, 102, 124, 129, 134, 139, 144], 67, 0, 0), none, none, none, none, none, none, none, none, none, none, none, none, none, none, none, none, none, none, none, none, none, none, none, none, none, none, none, none, none, none, none, none, none, none, none, none, none, none, none, none, none, none, none, none, none, none, none, none, none, none, none, none, none, none, none, none, none, none, none, none, none, none, none, none, none, none, some (.aload_n 0, 0, 0, 0), some (.getfield 100, 8, 10, 0), none, none, some (.ireturn, 0, 0, 0), some (.aload_n 0, 0, 0, 0), some (.getfield 142, 8, 11, 0), none, none, some (.ireturn, 0, 0, 0), some (.aload_n 0, 0, 0, 0), some (.getfield 91, 8, 12, 0), none, none, some (.ireturn, 0, 0, 0), some (.aload_n 0, 0, 0, 0), some (.getfield 129, 8, 13, 0), none, none, some (.ireturn, 0, 0, 0), some (.aload_n 0, 0, 0, 0), some (.invokevirtual 132, 0, 0, 0), none, none, some (.ireturn, 0, 0, 0), some (.aload_n 0, 0, 0, 0), some (.invokevirtual 145, 0, 0, 0), none, none, some (.ireturn, 0, 0, 0), some (.aload_n 0, 0, 0, 0), some (.getfield 160, 8, 18, 0), none, none, some (.ireturn, 0, 0, 0), some (.aload_n 0, 0, 0, 0), some (.getfield 91, 8, 12, 0), none, none, some (.iconst 1, 0, 0, 0), some (.if_icmp .ne 15, 0, 0, 0), none, none, some (.aload_n 0, 0, 0, 0), some (.getfield 136, 8, 22, 0), none, none, some (.aload_n 0, 0, 0, 0), some (.getfield 139, 8, 23, 0), none, none, some (.isub, 0, 0, 0), some (.goto 4, 0, 0, 0), none, none, some (.iconst 0, 0, 0, 0), some (.ireturn, 0, 0, 0), some (.aload_n 0, 0, 0, 0), some (.getfield 154, 8, 19, 0), none, none, some (.ireturn, 0, 0, 0), some (.aload_n 0, 0, 0, 0), some (.getfield 148, 8, 20, 0), none, none, some (.ireturn, 0, 0, 0), some (.aload_n 0, 0, 0, 0), some (.getfield 94, 8, 3, 0), none, none, some (.ireturn, 0, 0, 0), some (.aload_n 0, 0, 0, 0), some (.getfield 97, 8, 7, 0), none, none, some (.ireturn, 0, 0, 0), some (.aload_n 0, 0, 0, 0), some (.getfield 163, 8, 39, 0), none, none, some (.ireturn, 0, 0, 0), some (.sipush (-2000), 0, 0, (-2000)), none, none, some (.ireturn, 0, 0, 0)]
set_option maxRecDepth 100000 in
theorem k_X8_state : sw_Ok M_X8_state I_X8_state := (by decide +kernel : sw_ok yX8_state.cls cX8_state 0 I_X8_state = true)
abbrev M_X8_loads : sw_M := (yX8_loads, cX8_loads, 4, (some .int), 1, 22)
def I_X8_loads : List (Option sw_I) := [some (.iload_n 1, 0, 0, 0), some (.iconst 0, 0, 0, 0), some (.sipush 1000, 0, 0, 1000), none, none, some (.invokestatic 87, 0, 0, 0), none, none, some (.ifCond .eq 24, 0, 0, 0), none, none, some (.iload_n 2, 0, 0, 0), some (.iconst 0, 0, 0, 0), some (.sipush 1000, 0, 0, 1000), none, none, some (.invokestatic 87, 0, 0, 0), none, none, some (.ifCond .eq 13, 0, 0, 0), none, none, some (.iload_n 3, 0, 0, 0), some (.iconst 0, 0, 0, 0), some (.bipush 10, 0, 0, 10), none, some (.invokestatic 87, 0, 0, 0), none, none, some (.ifCond .ne 6, 0, 0, 0), none, none, some (.bipush (-2), 0, 0, (-2)), none, some (.ireturn, 0, 0, 0), some (.aload_n 0, 0, 0, 0), some (.iload_n 1, 0, 0, 0), some (.putfield 166, 8, 29, 0), none, none, some (.aload_n 0, 0, 0, 0), some (.iload_n 2, 0, 0, 0), some (.putfield 169, 8, 30, 0), none, none, some (.aload_n 0, 0, 0, 0), some (.iload_n 3, 0, 0, 0), some (.putfield 172, 8, 31, 0), none, none, some (.iconst 1, 0, 0, 0), some (.ireturn, 0, 0, 0)]
set_option maxRecDepth 100000 in
theorem k_X8_loads : sw_Ok M_X8_loads I_X8_loads := (by decide +kernel : sw_ok yX8_loads.cls cX8_loads 0 I_X8_loads = true)
abbrev M_X8_ratio : sw_M := (yX8_ratio, cX8_ratio, 3, (some .int), 1, 22)
def I_X8_ratio : List (Option sw_I) := [some (.iload_n 1, 0, 0, 0), some (.bipush 100, 0, 0, 100), none, some (.sipush 400, 0, 0, 400), none, none, some (.invokestatic 87, 0, 0, 0), none, none, some (.ifCond .ne 6, 0, 0, 0), none, none, some (.bipush (-2), 0, 0, (-2)), none, some (.ireturn, 0, 0, 0), some (.aload_n 0, 0, 0, 0), some (.getfield 66, 8, 32, 0), none, none, some (.istore_n 2, 0, 0, 0), some (.aload_n 0, 0, 0, 0), some (.iload_n 1, 0, 0, 0), some (.putfield 66, 8, 32, 0), none, none, some (.iload_n 2, 0, 0, 0), some (.ireturn, 0, 0, 0)]
set_option maxRecDepth 100000 in
theorem k_X8_ratio : sw_Ok M_X8_ratio I_X8_ratio := (by decide +kernel : sw_ok yX8_ratio.cls cX8_ratio 0 I_X8_ratio = true)
abbrev M_X8_isSlipping : sw_M := (yX8_isSlipping, cX8_isSlipping, 6, (some .boolean), 0, 0)
def I_X8_isSlipping : List (Option sw_I) := [some (.aload_n 0, 0, 0, 0), some (.getfield 166, 8, 29, 0), none, none, some (.aload_n 0, 0, 0, 0), some (.getfield 172, 8, 31, 0), none, none, some (.iload_n 1, 0, 0, 0), some (.imul, 0, 0, 0), some (.iadd, 0, 0, 0), some (.iconst 1, 0, 0, 0), some (.iadd, 0, 0, 0), some (.bipush 10, 0, 0, 10), none, some (.iload_n 2, 0, 0, 0), some (.isub, 0, 0, 0), some (.imul, 0, 0, 0), some (.istore 4, 0, 0, 0), none, some (.aload_n 0, 0, 0, 0), some (.getfield 169, 8, 30, 0), none, none, some (.aload_n 0, 0, 0, 0), some (.getfield 172, 8, 31, 0), none, none, some (.aload_n 0, 0, 0, 0), some (.getfield 7, 8, 0, 0), none, none, some (.iload_n 1, 0, 0, 0), some (.isub, 0, 0, 0), some (.imul, 0, 0, 0), some (.iadd, 0, 0, 0), some (.iconst 1, 0, 0, 0), some (.iadd, 0, 0, 0), some (.bipush 10, 0, 0, 10), none, some (.iload_n 2, 0, 0, 0), some (.iadd, 0, 0, 0), some (.imul, 0, 0, 0), some (.istore 5, 0, 0, 0), none, some (.bipush 100, 0, 0, 100), none, some (.iload 4, 0, 0, 0), none, some (.iload 5, 0, 0, 0), none, some (.if_icmp .le 8, 0, 0, 0), none, none, some (.iload 4, 0, 0, 0), none, some (.goto 5, 0, 0, 0), none, none, some (.iload 5, 0, 0, 0), none, some (.imul, 0, 0, 0), some (.iload_n 3, 0, 0, 0), some (.iload 4, 0, 0, 0), none, some (.iload 5, 0, 0, 0), none, some (.if_icmp .le 8, 0, 0, 0), none, none, some (.iload 5, 0, 0, 0), none, some (.goto 5, 0, 0, 0), none, none, some (.iload 4, 0, 0, 0), none, some (.imul, 0, 0, 0), some (.if_icmp .le 7, 0, 0, 0), none, none, some (.iconst 1, 0, 0, 0), some (.goto 4, 0, 0, 0), none, none, some (.iconst 0, 0, 0, 0), some (.ireturn, 0, 0, 0)]
set_option maxRecDepth 100000 in
theorem k_X8_isSlipping : sw_Ok M_X8_isSlipping I_X8_isSlipping := (by decide +kernel : sw_ok yX8_isSlipping.cls cX8_isSlipping 0 I_X8_isSlipping = true)
abbrev M_X8_slips : sw_M := (yX8_slips, cX8_slips, 3, (some .int), 2, 43)
def I_X8_slips : List (Option sw_I) := [some (.aload_n 0, 0, 0, 0), some (.iload_n 1, 0, 0, 0), some (.invokevirtual 103, 0, 0, 0), none, none, some (.ifCond .eq 35, 0, 0, 0), none, none, some (.iload_n 2, 0, 0, 0), some (.bipush (-9), 0, 0, (-9)), none, some (.bipush 9, 0, 0, 9), none, some (.invokestatic 87, 0, 0, 0), none, none, some (.ifCond .eq 24, 0, 0, 0), none, none, some (.aload_n 0, 0, 0, 0), some (.iload_n 1, 0, 0, 0), some (.iload_n 2, 0, 0, 0), some (.aload_n 0, 0, 0, 0), some (.getfield 66, 8, 32, 0), none, none, some (.invokevirtual 175, 0, 0, 0), none, none, some (.ifCond .eq 7, 0, 0, 0), none, none, some (.iconst 1, 0, 0, 0), some (.goto 9, 0, 0, 0), none, none, some (.iconst 0, 0, 0, 0), some (.goto 5, 0, 0, 0), none, none, some (.bipush (-2), 0, 0, (-2)), none, some (.ireturn, 0, 0, 0)]
set_option maxRecDepth 100000 in
theorem k_X8_slips : sw_Ok M_X8_slips I_X8_slips := (by decide +kernel : sw_ok yX8_slips.cls cX8_slips 0 I_X8_slips = true)
abbrev M_X8_firstSlip : sw_M := (yX8_firstSlip, cX8_firstSlip, 7, (some .int), 1, 25)
def I_X8_firstSlip : List (Option sw_I) := [some (.iload_n 1, 0, 0, 0), some (.istore 4, 0, 0, 0), none, some (.iconst 0, 0, 0, 0), some (.istore 5, 0, 0, 0), none, some (.iconst 0, 0, 0, 0), some (.istore 6, 0, 0, 0), none, some (.iload 6, 0, 0, 0), none, some (.iload_n 2, 0, 0, 0), some (.if_icmp .ge 50, 0, 0, 0), none, none, some (.aload_n 0, 0, 0, 0), some (.iload 4, 0, 0, 0), none, some (.aload_n 0, 0, 0, 0), some (.getfield 60, 8, 27, 0), none, none, some (.iload 6, 0, 0, 0), none, some (.iaload, 0, 0, 0), some (.iload 5, 0, 0, 0), none, some (.isub, 0, 0, 0), some (.iload_n 3, 0, 0, 0), some (.invokevirtual 175, 0, 0, 0), none, none, some (.ifCond .eq 8, 0, 0, 0), none, none, some (.iload 6, 0, 0, 0), none, some (.iconst 1, 0, 0, 0), some (.iadd, 0, 0, 0), some (.ireturn, 0, 0, 0), some (.aload_n 0, 0, 0, 0), some (.getfield 60, 8, 27, 0), none, none, some (.iload 6, 0, 0, 0), none, some (.iaload, 0, 0, 0), some (.istore 5, 0, 0, 0), none, some (.iload 4, 0, 0, 0), none, some (.iload 5, 0, 0, 0), none, some (.iadd, 0, 0, 0), some (.istore 4, 0, 0, 0), none, some (.iinc 6 1, 0, 0, 0), none, none, some (.goto (-50), 0, 0, 0), none, none, some (.iload_n 2, 0, 0, 0), some (.ifCond .le 22, 0, 0, 0), none, none, some (.aload_n 0, 0, 0, 0), some (.iload 4, 0, 0, 0), none, some (.iload 5, 0, 0, 0), none, some (.ineg, 0, 0, 0), some (.iload_n 3, 0, 0, 0), some (.invokevirtual 175, 0, 0, 0), none, none, some (.ifCond .eq 9, 0, 0, 0), none, none, some (.iload_n 2, 0, 0, 0), some (.iconst 1, 0, 0, 0), some (.iadd, 0, 0, 0), some (.goto 4, 0, 0, 0), none, none, some (.iconst (-1), 0, 0, 0), some (.ireturn, 0, 0, 0)]
set_option maxRecDepth 100000 in
theorem k_X8_firstSlip : sw_Ok M_X8_firstSlip I_X8_firstSlip := (by decide +kernel : sw_ok yX8_firstSlip.cls cX8_firstSlip 0 I_X8_firstSlip = true)
abbrev M_X8_slipAt : sw_M := (yX8_slipAt, cX8_slipAt, 2, (some .int), 5, 122)
def I_X8_slipAt : List (Option sw_I) := [some (.aload_n 0, 0, 0, 0), some (.iload_n 1, 0, 0, 0), some (.invokevirtual 103, 0, 0, 0), none, none, some (.ifCond .ne 6, 0, 0, 0), none, none, some (.bipush (-2), 0, 0, (-2)), none, some (.ireturn, 0, 0, 0), some (.aload_n 0, 0, 0, 0), some (.getfield 91, 8, 12, 0), none, none, some (.ifCond .ne 27, 0, 0, 0), none, none, some (.aload_n 0, 0, 0, 0), some (.aload_n 0, 0, 0, 0), some (.getfield 100, 8, 10, 0), none, none, some (.aload_n 0, 0, 0, 0), some (.aload_n 0, 0, 0, 0), some (.getfield 100, 8, 10, 0), none, none, some (.iload_n 1, 0, 0, 0), some (.invokevirtual 125, 0, 0, 0), none, none, some (.aload_n 0, 0, 0, 0), some (.getfield 66, 8, 32, 0), none, none, some (.invokevirtual 178, 0, 0, 0), none, none, some (.goto 5, 0, 0, 0), none, none, some (.bipush (-4), 0, 0, (-4)), none, some (.ireturn, 0, 0, 0)]
set_option maxRecDepth 100000 in
theorem k_X8_slipAt : sw_Ok M_X8_slipAt I_X8_slipAt := (by decide +kernel : sw_ok yX8_slipAt.cls cX8_slipAt 0 I_X8_slipAt = true)
abbrev M_X8_hold : sw_M := (yX8_hold, cX8_hold, 4, (some .int), 5, 122)
def I_X8_hold : List (Option sw_I) := [some (.aload_n 0, 0, 0, 0), some (.iload_n 1, 0, 0, 0), some (.invokevirtual 103, 0, 0, 0), none, none, some (.ifCond .ne 6, 0, 0, 0), none, none, some (.bipush (-2), 0, 0, (-2)), none, some (.ireturn, 0, 0, 0), some (.aload_n 0, 0, 0, 0), some (.getfield 91, 8, 12, 0), none, none, some (.ifCond .eq 6, 0, 0, 0), none, none, some (.bipush (-4), 0, 0, (-4)), none, some (.ireturn, 0, 0, 0), some (.aload_n 0, 0, 0, 0), some (.aload_n 0, 0, 0, 0), some (.getfield 100, 8, 10, 0), none, none, some (.iload_n 1, 0, 0, 0), some (.invokevirtual 125, 0, 0, 0), none, none, some (.istore_n 2, 0, 0, 0), some (.bipush 100, 0, 0, 100), none, some (.istore_n 3, 0, 0, 0), some (.iload_n 3, 0, 0, 0), some (.sipush 400, 0, 0, 400), none, none, some (.if_icmp .gt 25, 0, 0, 0), none, none, some (.aload_n 0, 0, 0, 0), some (.aload_n 0, 0, 0, 0), some (.getfield 100, 8, 10, 0), none, none, some (.iload_n 2, 0, 0, 0), some (.iload_n 3, 0, 0, 0), some (.invokevirtual 178, 0, 0, 0), none, none, some (.iconst (-1), 0, 0, 0), some (.if_icmp .ne 5, 0, 0, 0), none, none, some (.iload_n 3, 0, 0, 0), some (.ireturn, 0, 0, 0), some (.iinc 3 1, 0, 0, 0), none, none, some (.goto (-26), 0, 0, 0), none, none, some (.iconst (-1), 0, 0, 0), some (.ireturn, 0, 0, 0)]
set_option maxRecDepth 100000 in
theorem k_X8_hold : sw_Ok M_X8_hold I_X8_hold := (by decide +kernel : sw_ok yX8_hold.cls cX8_hold 0 I_X8_hold = true)
abbrev M_X8_broken : sw_M := (yX8_broken, cX8_broken, 3, (some .int), 1, 22)
def I_X8_broken : List (Option sw_I) := [some (.iload_n 1, 0, 0, 0), some (.iconst 0, 0, 0, 0), some (.bipush 59, 0, 0, 59), none, some (.invokestatic 87, 0, 0, 0), none, none, some (.ifCond .eq 13, 0, 0, 0), none, none, some (.iload_n 2, 0, 0, 0), some (.iconst 1, 0, 0, 0), some (.bipush 99, 0, 0, 99), none, some (.invokestatic 87, 0, 0, 0), none, none, some (.ifCond .ne 6, 0, 0, 0), none, none, some (.bipush (-2), 0, 0, (-2)), none, some (.ireturn, 0, 0, 0), some (.aload_n 0, 0, 0, 0), some (.getfield 69, 8, 33, 0), none, none, some (.iload_n 1, 0, 0, 0), some (.aload_n 0, 0, 0, 0), some (.getfield 69, 8, 33, 0), none, none, some (.iload_n 1, 0, 0, 0), some (.iaload, 0, 0, 0), some (.iload_n 2, 0, 0, 0), some (.iadd, 0, 0, 0), some (.bipush 99, 0, 0, 99), none, some (.if_icmp .le 8, 0, 0, 0), none, none, some (.bipush 99, 0, 0, 99), none, some (.goto 11, 0, 0, 0), none, none, some (.aload_n 0, 0, 0, 0), some (.getfield 69, 8, 33, 0), none, none, some (.iload_n 1, 0, 0, 0), some (.iaload, 0, 0, 0), some (.iload_n 2, 0, 0, 0), some (.iadd, 0, 0, 0), some (.iastore, 0, 0, 0), some (.aload_n 0, 0, 0, 0), some (.getfield 69, 8, 33, 0), none, none, some (.iload_n 1, 0, 0, 0), some (.iaload, 0, 0, 0), some (.ireturn, 0, 0, 0)]
set_option maxRecDepth 100000 in
theorem k_X8_broken : sw_Ok M_X8_broken I_X8_broken := (by decide +kernel : sw_ok yX8_broken.cls cX8_broken 0 I_X8_broken = true)
abbrev M_X8_worstFrom : sw_M := (yX8_worstFrom, cX8_worstFrom, 7, (some .int), 1, 24)
def I_X8_worstFrom : List (Option sw_I) := [some (.iconst 0, 0, 0, 0), some (.istore_n 3, 0, 0, 0), some (.iconst (-1), 0, 0, 0), some (.istore 4, 0, 0, 0), none, some (.iconst 0, 0, 0, 0), some (.istore 5, 0, 0, 0), none, some (.iload 5, 0, 0, 0), none, some (.iload_n 1, 0, 0, 0), some (.iadd, 0, 0, 0), some (.bipush 60, 0, 0, 60), none, some (.if_icmp .gt 34, 0, 0, 0), none, none, some (.aload_n 0, 0, 0, 0), some (.iload 5, 0, 0, 0), none, some (.iload_n 2, 0, 0, 0), some (.iadd, 0, 0, 0), some (.iload_n 1, 0, 0, 0), some (.invokevirtual 182, 0, 0, 0), none, none, some (.istore 6, 0, 0, 0), none, some (.iload 6, 0, 0, 0), none, some (.iload 4, 0, 0, 0), none, some (.if_icmp .le 10, 0, 0, 0), none, none, some (.iload 6, 0, 0, 0), none, some (.istore 4, 0, 0, 0), none, some (.iload 5, 0, 0, 0), none, some (.istore_n 3, 0, 0, 0), some (.iinc 5 1, 0, 0, 0), none, none, some (.goto (-37), 0, 0, 0), none, none, some (.iload_n 3, 0, 0, 0), some (.ireturn, 0, 0, 0)]
set_option maxRecDepth 100000 in
theorem k_X8_worstFrom : sw_Ok M_X8_worstFrom I_X8_worstFrom := (by decide +kernel : sw_ok yX8_worstFrom.cls cX8_worstFrom 0 I_X8_worstFrom = true)
abbrev M_X8_sumOf : sw_M := (yX8_sumOf, cX8_sumOf, 5, (some .int), 0, 0)
def I_X8_sumOf : List (Option sw_I) := [some (.iconst 0, 0, 0, 0), some (.istore_n 3, 0, 0, 0), some (.iload_n 1, 0, 0, 0), some (.istore 4, 0, 0, 0), none, some (.iload 4, 0, 0, 0), none, some (.iload_n 1, 0, 0, 0), some (.iload_n 2, 0, 0, 0), some (.iadd, 0, 0, 0), some (.if_icmp .ge 26, 0, 0, 0), none, none, some (.iload 4, 0, 0, 0), none, some (.bipush 60, 0, 0, 60), none, some (.if_icmp .ge 19, 0, 0, 0), none, none, some (.iload_n 3, 0, 0, 0), some (.aload_n 0, 0, 0, 0), some (.getfield 69, 8, 33, 0), none, none, some (.iload 4, 0, 0, 0), none, some (.iaload, 0, 0, 0), some (.iadd, 0, 0, 0), some (.istore_n 3, 0, 0, 0), some (.iinc 4 1, 0, 0, 0), none, none, some (.goto (-28), 0, 0, 0), none, none, some (.iload_n 3, 0, 0, 0), some (.ireturn, 0, 0, 0)]
set_option maxRecDepth 100000 in
theorem k_X8_sumOf : sw_Ok M_X8_sumOf I_X8_sumOf := (by decide +kernel : sw_ok yX8_sumOf.cls cX8_sumOf 0 I_X8_sumOf = true)
abbrev M_X8_worst : sw_M := (yX8_worst, cX8_worst, 2, (some .int), 2, 50)
def I_X8_worst : List (Option sw_I) := [some (.iload_n 1, 0, 0, 0), some (.iconst 1, 0, 0, 0), some (.bipush 60, 0, 0, 60), none, some (.invokestatic 87, 0, 0, 0), none, none, some (.ifCond .eq 17, 0, 0, 0), none, none, some (.aload_n 0, 0, 0, 0), some (.aload_n 0, 0, 0, 0), some (.iload_n 1, 0, 0, 0), some (.iconst 0, 0, 0, 0), some (.invokevirtual 185, 0, 0, 0), none, none, some (.iload_n 1, 0, 0, 0), some (.invokevirtual 182, 0, 0, 0), none, none, some (.goto 5, 0, 0, 0), none, none, some (.bipush (-2), 0, 0, (-2)), none, some (.ireturn, 0, 0, 0)]
set_option maxRecDepth 100000 in
theorem k_X8_worst : sw_Ok M_X8_worst I_X8_worst := (by decide +kernel : sw_ok yX8_worst.cls cX8_worst 0 I_X8_worst = true)
abbrev M_X8_worstAt : sw_M := (yX8_worstAt, cX8_worstAt, 2, (some .int), 2, 50)
def I_X8_worstAt : List (Option sw_I) := [some (.iload_n 1, 0, 0, 0), some (.iconst 1, 0, 0, 0), some (.bipush 60, 0, 0, 60), none, some (.invokestatic 87, 0, 0, 0), none, none, some (.ifCond .eq 12, 0, 0, 0), none, none, some (.aload_n 0, 0, 0, 0), some (.iload_n 1, 0, 0, 0), some (.iconst 0, 0, 0, 0), some (.invokevirtual 185, 0, 0, 0), none, none, some (.goto 5, 0, 0, 0), none, none, some (.bipush (-2), 0, 0, (-2)), none, some (.ireturn, 0, 0, 0)]
set_option maxRecDepth 100000 in
theorem k_X8_worstAt : sw_Ok M_X8_worstAt I_X8_worstAt := (by decide +kernel : sw_ok yX8_worstAt.cls cX8_worstAt 0 I_X8_worstAt = true)
abbrev M_X8_cut : sw_M := (yX8_cut, cX8_cut, 4, (some .int), 1, 24)
def I_X8_cut : List (Option sw_I) := [some (.iload_n 1, 0, 0, 0), some (.iconst 1, 0, 0, 0), some (.bipush 60, 0, 0, 60), none, some (.invokestatic 87, 0, 0, 0), none, none, some (.ifCond .ne 6, 0, 0, 0), none, none, some (.bipush (-2), 0, 0, (-2)), none, some (.ireturn, 0, 0, 0), some (.aload_n 0, 0, 0, 0), some (.iconst 0, 0, 0, 0), some (.iload_n 1, 0, 0, 0), some (.invokevirtual 182, 0, 0, 0), none, none, some (.istore_n 2, 0, 0, 0), some (.iconst 0, 0, 0, 0), some (.istore_n 3, 0, 0, 0), some (.iload_n 3, 0, 0, 0), some (.bipush 60, 0, 0, 60), none, some (.if_icmp .ge 35, 0, 0, 0), none, none, some (.aload_n 0, 0, 0, 0), some (.getfield 69, 8, 33, 0), none, none, some (.iload_n 3, 0, 0, 0), some (.iload_n 3, 0, 0, 0), some (.iload_n 1, 0, 0, 0), some (.iadd, 0, 0, 0), some (.bipush 60, 0, 0, 60), none, some (.if_icmp .ge 14, 0, 0, 0), none, none, some (.aload_n 0, 0, 0, 0), some (.getfield 69, 8, 33, 0), none, none, some (.iload_n 3, 0, 0, 0), some (.iload_n 1, 0, 0, 0), some (.iadd, 0, 0, 0), some (.iaload, 0, 0, 0), some (.goto 4, 0, 0, 0), none, none, some (.iconst 0, 0, 0, 0), some (.iastore, 0, 0, 0), some (.iinc 3 1, 0, 0, 0), none, none, some (.goto (-35), 0, 0, 0), none, none, some (.iload_n 2, 0, 0, 0), some (.ireturn, 0, 0, 0)]
set_option maxRecDepth 100000 in
theorem k_X8_cut : sw_Ok M_X8_cut I_X8_cut := (by decide +kernel : sw_ok yX8_cut.cls cX8_cut 0 I_X8_cut = true)
abbrev M_X8_mend : sw_M := (yX8_mend, cX8_mend, 4, (some .int), 2, 50)
def I_X8_mend : List (Option sw_I) := [some (.iload_n 1, 0, 0, 0), some (.iconst 1, 0, 0, 0), some (.bipush 60, 0, 0, 60), none, some (.invokestatic 87, 0, 0, 0), none, none, some (.ifCond .eq 7, 0, 0, 0), none, none, some (.iload_n 2, 0, 0, 0), some (.ifCond .ge 6, 0, 0, 0), none, none, some (.bipush (-2), 0, 0, (-2)), none, some (.ireturn, 0, 0, 0), some (.iconst 0, 0, 0, 0), some (.istore_n 3, 0, 0, 0), some (.aload_n 0, 0, 0, 0), some (.aload_n 0, 0, 0, 0), some (.iload_n 1, 0, 0, 0), some (.iload_n 3, 0, 0, 0), some (.invokevirtual 185, 0, 0, 0), none, none, some (.iload_n 3, 0, 0, 0), some (.iadd, 0, 0, 0), some (.iload_n 1, 0, 0, 0), some (.invokevirtual 182, 0, 0, 0), none, none, some (.iload_n 2, 0, 0, 0), some (.if_icmp .le 9, 0, 0, 0), none, none, some (.iinc 3 1, 0, 0, 0), none, none, some (.goto (-20), 0, 0, 0), none, none, some (.iload_n 3, 0, 0, 0), some (.ireturn, 0, 0, 0)]
set_option maxRecDepth 100000 in
theorem k_X8_mend : sw_Ok M_X8_mend I_X8_mend := (by decide +kernel : sw_ok yX8_mend.cls cX8_mend 0 I_X8_mend = true)
abbrev M_X8_areMen : sw_M := (yX8_areMen, cX8_areMen, 3, (some .boolean), 1, 22)
def I_X8_areMen : List (Option sw_I) := [some (.iload_n 0, 0, 0, 0), some (.iconst 1, 0, 0, 0), some (.sipush 500, 0, 0, 500), none, none, some (.invokestatic 87, 0, 0, 0), none, none, some (.ifCond .eq 27, 0, 0, 0), none, none, some (.iload_n 1, 0, 0, 0), some (.iconst 1, 0, 0, 0), some (.bipush 50, 0, 0, 50), none, some (.invokestatic 87, 0, 0, 0), none, none, some (.ifCond .eq 17, 0, 0, 0), none, none, some (.iload_n 2, 0, 0, 0), some (.iconst 0, 0, 0, 0), some (.bipush 100, 0, 0, 100), none, some (.invokestatic 87, 0, 0, 0), none, none, some (.ifCond .eq 7, 0, 0, 0), none, none, some (.iconst 1, 0, 0, 0), some (.goto 4, 0, 0, 0), none, none, some (.iconst 0, 0, 0, 0), some (.ireturn, 0, 0, 0)]
set_option maxRecDepth 100000 in
theorem k_X8_areMen : sw_Ok M_X8_areMen I_X8_areMen := (by decide +kernel : sw_ok yX8_areMen.cls cX8_areMen 0 I_X8_areMen = true)
abbrev M_X8_shift : sw_M := (yX8_shift, cX8_shift, 8, (some .int), 5, 122)
def I_X8_shift : List (Option sw_I) := [some (.aload_n 0, 0, 0, 0), some (.iload_n 1, 0, 0, 0), some (.invokevirtual 103, 0, 0, 0), none, none, some (.ifCond .eq 13, 0, 0, 0), none, none, some (.iload_n 2, 0, 0, 0), some (.iload_n 3, 0, 0, 0), some (.iload 4, 0, 0, 0), none, some (.invokestatic 188, 0, 0, 0), none, none, some (.ifCond .ne 6, 0, 0, 0), none, none, some (.bipush (-2), 0, 0, (-2)), none, some (.ireturn, 0, 0, 0), some (.iload_n 2, 0, 0, 0), some (.iload_n 3, 0, 0, 0), some (.iadd, 0, 0, 0), some (.iconst 1, 0, 0, 0), some (.isub, 0, 0, 0), some (.iload_n 3, 0, 0, 0), some (.idiv, 0, 0, 0), some (.istore 5, 0, 0, 0), none, some (.aload_n 0, 0, 0, 0), some (.iconst 0, 0, 0, 0), some (.iload_n 1, 0, 0, 0), some (.invokevirtual 125, 0, 0, 0), none, none, some (.istore 6, 0, 0, 0), none, some (.aload_n 0, 0, 0, 0), some (.iload_n 1, 0, 0, 0), some (.iconst 0, 0, 0, 0), some (.invokevirtual 125, 0, 0, 0), none, none, some (.istore 7, 0, 0, 0), none, some (.iload 5, 0, 0, 0), none, some (.iconst 2, 0, 0, 0), some (.iload 4, 0, 0, 0), none, some (.imul, 0, 0, 0), some (.iload 6, 0, 0, 0), none, some (.iadd, 0, 0, 0), some (.imul, 0, 0, 0), some (.iload 5, 0, 0, 0), none, some (.iconst 1, 0, 0, 0), some (.isub, 0, 0, 0), some (.iload 7, 0, 0, 0), none, some (.imul, 0, 0, 0), some (.iadd, 0, 0, 0), some (.ireturn, 0, 0, 0)]
set_option maxRecDepth 100000 in
theorem k_X8_shift : sw_Ok M_X8_shift I_X8_shift := (by decide +kernel : sw_ok yX8_shift.cls cX8_shift 0 I_X8_shift = true)
abbrev M_X8_both : sw_M := (yX8_both, cX8_both, 9, (some .int), 5, 122)
def I_X8_both : List (Option sw_I) := [some (.iload_n 1, 0, 0, 0), some (.iload_n 2, 0, 0, 0), some (.iload_n 3, 0, 0, 0), some (.invokestatic 188, 0, 0, 0), none, none, some (.ifCond .ne 6, 0, 0, 0), none, none, some (.bipush (-2), 0, 0, (-2)), none, some (.ireturn, 0, 0, 0), some (.iload_n 1, 0, 0, 0), some (.iload_n 2, 0, 0, 0), some (.iadd, 0, 0, 0), some (.iconst 1, 0, 0, 0), some (.isub, 0, 0, 0), some (.iload_n 2, 0, 0, 0), some (.idiv, 0, 0, 0), some (.istore 4, 0, 0, 0), none, some (.aload_n 0, 0, 0, 0), some (.iconst 0, 0, 0, 0), some (.aload_n 0, 0, 0, 0), some (.getfield 7, 8, 0, 0), none, none, some (.invokevirtual 125, 0, 0, 0), none, none, some (.istore 5, 0, 0, 0), none, some (.aload_n 0, 0, 0, 0), some (.aload_n 0, 0, 0, 0), some (.getfield 7, 8, 0, 0), none, none, some (.iconst 0, 0, 0, 0), some (.invokevirtual 125, 0, 0, 0), none, none, some (.istore 6, 0, 0, 0), none, some (.iload_n 3, 0, 0, 0), some (.istore 7, 0, 0, 0), none, some (.iconst 0, 0, 0, 0), some (.istore 8, 0, 0, 0), none, some (.iload 8, 0, 0, 0), none, some (.iload 4, 0, 0, 0), none, some (.if_icmp .ge 30, 0, 0, 0), none, none, some (.iload 7, 0, 0, 0), none, some (.iload_n 3, 0, 0, 0), some (.iload 8, 0, 0, 0), none, some (.iconst 2, 0, 0, 0), some (.irem, 0, 0, 0), some (.ifCond .ne 8, 0, 0, 0), none, none, some (.iload 5, 0, 0, 0), none, some (.goto 5, 0, 0, 0), none, none, some (.iload 6, 0, 0, 0), none, some (.iadd, 0, 0, 0), some (.iadd, 0, 0, 0), some (.istore 7, 0, 0, 0), none, some (.iinc 8 1, 0, 0, 0), none, none, some (.goto (-31), 0, 0, 0), none, none, some (.iload 7, 0, 0, 0), none, some (.ireturn, 0, 0, 0)]
set_option maxRecDepth 100000 in
theorem k_X8_both : sw_Ok M_X8_both I_X8_both := (by decide +kernel : sw_ok yX8_both.cls cX8_both 0 I_X8_both = true)
abbrev M_X8_logged : sw_M := (yX8_logged, cX8_logged, 1, (some .int), 0, 0)
def I_X8_logged : List (Option sw_I) := [some (.aload_n 0, 0, 0, 0), some (.getfield 160, 8, 18, 0), none, none, some (.bipush 40, 0, 0, 40), none, some (.if_icmp .ge 10, 0, 0, 0), none, none, some (.aload_n 0, 0, 0, 0), some (.getfield 160, 8, 18, 0), none, none, some (.goto 5, 0, 0, 0), none, none, some (.bipush 40, 0, 0, 40), none, some (.ireturn, 0, 0, 0)]
set_option maxRecDepth 100000 in
theorem k_X8_logged : sw_Ok M_X8_logged I_X8_logged := (by decide +kernel : sw_ok yX8_logged.cls cX8_logged 0 I_X8_logged = true)
abbrev M_X8_log : sw_M := (yX8_log, cX8_log, 3, (some .int), 1, 22)
def I_X8_log : List (Option sw_I) := [some (.iload_n 1, 0, 0, 0), some (.iconst 0, 0, 0, 0), some (.aload_n 0, 0, 0, 0), some (.invokevirtual 191, 0, 0, 0), none, none, some (.iconst 1, 0, 0, 0), some (.isub, 0, 0, 0), some (.invokestatic 87, 0, 0, 0), none, none, some (.ifCond .eq 12, 0, 0, 0), none, none, some (.iload_n 2, 0, 0, 0), some (.iconst 0, 0, 0, 0), some (.iconst 2, 0, 0, 0), some (.invokestatic 87, 0, 0, 0), none, none, some (.ifCond .ne 7, 0, 0, 0), none, none, some (.sipush (-2000), 0, 0, (-2000)), none, none, some (.ireturn, 0, 0, 0), some (.aload_n 0, 0, 0, 0), some (.getfield 63, 8, 28, 0), none, none, some (.iconst 3, 0, 0, 0), some (.aload_n 0, 0, 0, 0), some (.getfield 160, 8, 18, 0), none, none, some (.iconst 1, 0, 0, 0), some (.isub, 0, 0, 0), some (.iload_n 1, 0, 0, 0), some (.isub, 0, 0, 0), some (.bipush 40, 0, 0, 40), none, some (.irem, 0, 0, 0), some (.imul, 0, 0, 0), some (.iload_n 2, 0, 0, 0), some (.iadd, 0, 0, 0), some (.iaload, 0, 0, 0), some (.ireturn, 0, 0, 0)]
set_option maxRecDepth 100000 in
theorem k_X8_log : sw_Ok M_X8_log I_X8_log := (by decide +kernel : sw_ok yX8_log.cls cX8_log 0 I_X8_log = true)
abbrev M_X8_meets : sw_M := (yX8_meets, cX8_meets, 2, (some .int), 0, 0)
def I_X8_meets : List (Option sw_I) := [some (.aload_n 0, 0, 0, 0), some (.iload_n 1, 0, 0, 0), some (.putfield 163, 8, 39, 0), none, none, some (.bipush (-10), 0, 0, (-10)), none, some (.iload_n 1, 0, 0, 0), some (.isub, 0, 0, 0), some (.ireturn, 0, 0, 0)]
set_option maxRecDepth 100000 in
theorem k_X8_meets : sw_Ok M_X8_meets I_X8_meets := (by decide +kernel : sw_ok yX8_meets.cls cX8_meets 0 I_X8_meets = true)
abbrev M_X8_isSheet : sw_M := (yX8_isSheet, cX8_isSheet, 1, (some .boolean), 1, 22)
def I_X8_isSheet : List (Option sw_I) := [some (.iload_n 0, 0, 0, 0), some (.iconst 0, 0, 0, 0), some (.iconst 3, 0, 0, 0), some (.invokestatic 87, 0, 0, 0), none, none, some (.ireturn, 0, 0, 0)]
set_option maxRecDepth 100000 in
theorem k_X8_isSheet : sw_Ok M_X8_isSheet I_X8_isSheet := (by decide +kernel : sw_ok yX8_isSheet.cls cX8_isSheet 0 I_X8_isSheet = true)
abbrev M_X8_sheet : sw_M := (yX8_sheet, cX8_sheet, 5, (some .int), 2, 42)
def I_X8_sheet : List (Option sw_I) := [some (.iload_n 1, 0, 0, 0), some (.invokestatic 194, 0, 0, 0), none, none, some (.ifCond .eq 18, 0, 0, 0), none, none, some (.iload_n 2, 0, 0, 0), some (.iconst 0, 0, 0, 0), some (.iconst 2, 0, 0, 0), some (.invokestatic 87, 0, 0, 0), none, none, some (.ifCond .eq 9, 0, 0, 0), none, none, some (.iload_n 3, 0, 0, 0), some (.bipush 60, 0, 0, 60), none, some (.if_icmp .le 6, 0, 0, 0), none, none, some (.bipush (-2), 0, 0, (-2)), none, some (.ireturn, 0, 0, 0), some (.iload_n 3, 0, 0, 0), some (.ifCond .ge 9, 0, 0, 0), none, none, some (.aload_n 0, 0, 0, 0), some (.iconst 5, 0, 0, 0), some (.invokevirtual 197, 0, 0, 0), none, none, some (.ireturn, 0, 0, 0), some (.aload_n 0, 0, 0, 0), some (.getfield 72, 8, 34, 0), none, none, some (.iload_n 1, 0, 0, 0), some (.iconst 1, 0, 0, 0), some (.bastore, 0, 0, 0), some (.aload_n 0, 0, 0, 0), some (.getfield 75, 8, 35, 0), none, none, some (.iload_n 1, 0, 0, 0), some (.iload_n 2, 0, 0, 0), some (.iastore, 0, 0, 0), some (.aload_n 0, 0, 0, 0), some (.getfield 78, 8, 36, 0), none, none, some (.iload_n 1, 0, 0, 0), some (.iload_n 3, 0, 0, 0), some (.iastore, 0, 0, 0), some (.iconst 0, 0, 0, 0), some (.istore 4, 0, 0, 0), none, some (.iload 4, 0, 0, 0), none, some (.bipush 60, 0, 0, 60), none, some (.if_icmp .ge 22, 0, 0, 0), none, none, some (.aload_n 0, 0, 0, 0), some (.getfield 81, 8, 37, 0), none, none, some (.bipush 60, 0, 0, 60), none, some (.iload_n 1, 0, 0, 0), some (.imul, 0, 0, 0), some (.iload 4, 0, 0, 0), none, some (.iadd, 0, 0, 0), some (.iconst 0, 0, 0, 0), some (.iastore, 0, 0, 0), some (.iinc 4 1, 0, 0, 0), none, none, some (.goto (-23), 0, 0, 0), none, none, some (.iload_n 3, 0, 0, 0), some (.ireturn, 0, 0, 0)]
set_option maxRecDepth 100000 in
theorem k_X8_sheet : sw_Ok M_X8_sheet I_X8_sheet := (by decide +kernel : sw_ok yX8_sheet.cls cX8_sheet 0 I_X8_sheet = true)
abbrev M_X8_lose : sw_M := (yX8_lose, cX8_lose, 2, (some .int), 2, 42)
def I_X8_lose : List (Option sw_I) := [some (.iload_n 1, 0, 0, 0), some (.invokestatic 194, 0, 0, 0), none, none, some (.ifCond .ne 6, 0, 0, 0), none, none, some (.bipush (-2), 0, 0, (-2)), none, some (.ireturn, 0, 0, 0), some (.aload_n 0, 0, 0, 0), some (.getfield 72, 8, 34, 0), none, none, some (.iload_n 1, 0, 0, 0), some (.baload, 0, 0, 0), some (.ifCond .ne 9, 0, 0, 0), none, none, some (.aload_n 0, 0, 0, 0), some (.iconst 1, 0, 0, 0), some (.invokevirtual 197, 0, 0, 0), none, none, some (.ireturn, 0, 0, 0), some (.aload_n 0, 0, 0, 0), some (.getfield 72, 8, 34, 0), none, none, some (.iload_n 1, 0, 0, 0), some (.iconst 0, 0, 0, 0), some (.bastore, 0, 0, 0), some (.aload_n 0, 0, 0, 0), some (.getfield 78, 8, 36, 0), none, none, some (.iload_n 1, 0, 0, 0), some (.iaload, 0, 0, 0), some (.ireturn, 0, 0, 0)]
set_option maxRecDepth 100000 in
theorem k_X8_lose : sw_Ok M_X8_lose I_X8_lose := (by decide +kernel : sw_ok yX8_lose.cls cX8_lose 0 I_X8_lose = true)
abbrev M_X8_lacks : sw_M := (yX8_lacks, cX8_lacks, 4, (some .int), 1, 22)
def I_X8_lacks : List (Option sw_I) := [some (.aload_n 0, 0, 0, 0), some (.getfield 72, 8, 34, 0), none, none, some (.iload_n 1, 0, 0, 0), some (.baload, 0, 0, 0), some (.ifCond .ne 7, 0, 0, 0), none, none, some (.iconst 1, 0, 0, 0), some (.goto 38, 0, 0, 0), none, none, some (.aload_n 0, 0, 0, 0), some (.getfield 75, 8, 35, 0), none, none, some (.iload_n 1, 0, 0, 0), some (.iaload, 0, 0, 0), some (.iload_n 2, 0, 0, 0), some (.if_icmp .eq 7, 0, 0, 0), none, none, some (.iconst 3, 0, 0, 0), some (.goto 24, 0, 0, 0), none, none, some (.iload_n 3, 0, 0, 0), some (.iconst 0, 0, 0, 0), some (.aload_n 0, 0, 0, 0), some (.getfield 78, 8, 36, 0), none, none, some (.iload_n 1, 0, 0, 0), some (.iaload, 0, 0, 0), some (.iconst 1, 0, 0, 0), some (.isub, 0, 0, 0), some (.invokestatic 87, 0, 0, 0), none, none, some (.ifCond .eq 7, 0, 0, 0), none, none, some (.iconst 0, 0, 0, 0), some (.goto 4, 0, 0, 0), none, none, some (.iconst 2, 0, 0, 0), some (.ireturn, 0, 0, 0)]
set_option maxRecDepth 100000 in
theorem k_X8_lacks : sw_Ok M_X8_lacks I_X8_lacks := (by decide +kernel : sw_ok yX8_lacks.cls cX8_lacks 0 I_X8_lacks = true)
abbrev M_X8_lay : sw_M := (yX8_lay, cX8_lay, 4, none, 0, 0)
def I_X8_lay : List (Option sw_I) := [some (.aload_n 0, 0, 0, 0), some (.getfield 81, 8, 37, 0), none, none, some (.bipush 60, 0, 0, 60), none, some (.iload_n 1, 0, 0, 0), some (.imul, 0, 0, 0), some (.iload_n 2, 0, 0, 0), some (.iadd, 0, 0, 0), some (.aload_n 0, 0, 0, 0), some (.getfield 75, 8, 35, 0), none, none, some (.iload_n 1, 0, 0, 0), some (.iaload, 0, 0, 0), some (.ifCond .ne 8, 0, 0, 0), none, none, some (.iload_n 3, 0, 0, 0), some (.i2b, 0, 0, 0), some (.goto 19, 0, 0, 0), none, none, some (.aload_n 0, 0, 0, 0), some (.getfield 75, 8, 35, 0), none, none, some (.iload_n 1, 0, 0, 0), some (.iaload, 0, 0, 0), some (.iconst 1, 0, 0, 0), some (.if_icmp .ne 8, 0, 0, 0), none, none, some (.iload_n 3, 0, 0, 0), some (.i2s, 0, 0, 0), some (.goto 4, 0, 0, 0), none, none, some (.iload_n 3, 0, 0, 0), some (.iastore, 0, 0, 0), some (.return_, 0, 0, 0)]
set_option maxRecDepth 100000 in
theorem k_X8_lay : sw_Ok M_X8_lay I_X8_lay := (by decide +kernel : sw_ok yX8_lay.cls cX8_lay 0 I_X8_lay = true)
abbrev M_X8_put : sw_M := (yX8_put, cX8_put, 6, (some .int), 2, 45)
def I_X8_put : List (Option sw_I) := [some (.iload_n 1, 0, 0, 0), some (.invokestatic 194, 0, 0, 0), none, none, some (.ifCond .eq 12, 0, 0, 0), none, none, some (.iload_n 2, 0, 0, 0), some (.iconst 0, 0, 0, 0), some (.iconst 2, 0, 0, 0), some (.invokestatic 87, 0, 0, 0), none, none, some (.ifCond .ne 6, 0, 0, 0), none, none, some (.bipush (-2), 0, 0, (-2)), none, some (.ireturn, 0, 0, 0), some (.aload_n 0, 0, 0, 0), some (.iload_n 1, 0, 0, 0), some (.iload_n 2, 0, 0, 0), some (.iload_n 3, 0, 0, 0), some (.invokevirtual 200, 0, 0, 0), none, none, some (.istore 5, 0, 0, 0), none, some (.iload 5, 0, 0, 0), none, some (.ifCond .le 10, 0, 0, 0), none, none, some (.aload_n 0, 0, 0, 0), some (.iload 5, 0, 0, 0), none, some (.invokevirtual 197, 0, 0, 0), none, none, some (.ireturn, 0, 0, 0), some (.aload_n 0, 0, 0, 0), some (.iload_n 1, 0, 0, 0), some (.iload_n 3, 0, 0, 0), some (.iload 4, 0, 0, 0), none, some (.invokevirtual 203, 0, 0, 0), none, none, some (.iconst 1, 0, 0, 0), some (.ireturn, 0, 0, 0)]
set_option maxRecDepth 100000 in
theorem k_X8_put : sw_Ok M_X8_put I_X8_put := (by decide +kernel : sw_ok yX8_put.cls cX8_put 0 I_X8_put = true)
abbrev M_X8_get : sw_M := (yX8_get, cX8_get, 5, (some .int), 2, 45)
def I_X8_get : List (Option sw_I) := [some (.iload_n 1, 0, 0, 0), some (.invokestatic 194, 0, 0, 0), none, none, some (.ifCond .eq 12, 0, 0, 0), none, none, some (.iload_n 2, 0, 0, 0), some (.iconst 0, 0, 0, 0), some (.iconst 2, 0, 0, 0), some (.invokestatic 87, 0, 0, 0), none, none, some (.ifCond .ne 6, 0, 0, 0), none, none, some (.ldc 207, 0, 0, (-2147483648)), none, some (.ireturn, 0, 0, 0), some (.aload_n 0, 0, 0, 0), some (.iload_n 1, 0, 0, 0), some (.iload_n 2, 0, 0, 0), some (.iload_n 3, 0, 0, 0), some (.invokevirtual 200, 0, 0, 0), none, none, some (.istore 4, 0, 0, 0), none, some (.iload 4, 0, 0, 0), none, some (.ifCond .le 12, 0, 0, 0), none, none, some (.aload_n 0, 0, 0, 0), some (.iload 4, 0, 0, 0), none, some (.putfield 163, 8, 39, 0), none, none, some (.ldc 207, 0, 0, (-2147483648)), none, some (.ireturn, 0, 0, 0), some (.aload_n 0, 0, 0, 0), some (.getfield 81, 8, 37, 0), none, none, some (.bipush 60, 0, 0, 60), none, some (.iload_n 1, 0, 0, 0), some (.imul, 0, 0, 0), some (.iload_n 3, 0, 0, 0), some (.iadd, 0, 0, 0), some (.iaload, 0, 0, 0), some (.ireturn, 0, 0, 0)]
set_option maxRecDepth 100000 in
theorem k_X8_get : sw_Ok M_X8_get I_X8_get := (by decide +kernel : sw_ok yX8_get.cls cX8_get 0 I_X8_get = true)
abbrev M_X8_copy : sw_M := (yX8_copy, cX8_copy, 7, (some .int), 2, 42)
def I_X8_copy : List (Option sw_I) := [some (.iload_n 1, 0, 0, 0), some (.invokestatic 194, 0, 0, 0), none, none, some (.ifCond .eq 10, 0, 0, 0), none, none, some (.iload_n 3, 0, 0, 0), some (.invokestatic 194, 0, 0, 0), none, none, some (.ifCond .ne 6, 0, 0, 0), none, none, some (.bipush (-2), 0, 0, (-2)), none, some (.ireturn, 0, 0, 0), some (.aload_n 0, 0, 0, 0), some (.getfield 72, 8, 34, 0), none, none, some (.iload_n 1, 0, 0, 0), some (.baload, 0, 0, 0), some (.ifCond .eq 12, 0, 0, 0), none, none, some (.aload_n 0, 0, 0, 0), some (.getfield 72, 8, 34, 0), none, none, some (.iload_n 3, 0, 0, 0), some (.baload, 0, 0, 0), some (.ifCond .ne 9, 0, 0, 0), none, none, some (.aload_n 0, 0, 0, 0), some (.iconst 1, 0, 0, 0), some (.invokevirtual 197, 0, 0, 0), none, none, some (.ireturn, 0, 0, 0), some (.aload_n 0, 0, 0, 0), some (.getfield 75, 8, 35, 0), none, none, some (.iload_n 1, 0, 0, 0), some (.iaload, 0, 0, 0), some (.aload_n 0, 0, 0, 0), some (.getfield 75, 8, 35, 0), none, none, some (.iload_n 3, 0, 0, 0), some (.iaload, 0, 0, 0), some (.if_icmp .eq 9, 0, 0, 0), none, none, some (.aload_n 0, 0, 0, 0), some (.iconst 4, 0, 0, 0), some (.invokevirtual 197, 0, 0, 0), none, none, some (.ireturn, 0, 0, 0), some (.iload_n 2, 0, 0, 0), some (.ifCond .lt 48, 0, 0, 0), none, none, some (.iload 4, 0, 0, 0), none, some (.ifCond .lt 43, 0, 0, 0), none, none, some (.iload 5, 0, 0, 0), none, some (.ifCond .lt 38, 0, 0, 0), none, none, some (.iload_n 2, 0, 0, 0), some (.i2l, 0, 0, 0), some (.iload 5, 0, 0, 0), none, some (.i2l, 0, 0, 0), some (.ladd, 0, 0, 0), some (.aload_n 0, 0, 0, 0), some (.getfield 78, 8, 36, 0), none, none, some (.iload_n 1, 0, 0, 0), some (.iaload, 0, 0, 0), some (.i2l, 0, 0, 0), some (.lcmp, 0, 0, 0), some (.ifCond .gt 21, 0, 0, 0), none, none, some (.iload 4, 0, 0, 0), none, some (.i2l, 0, 0, 0), some (.iload 5, 0, 0, 0), none, some (.i2l, 0, 0, 0), some (.ladd, 0, 0, 0), some (.aload_n 0, 0, 0, 0), some (.getfield 78, 8, 36, 0), none, none, some (.iload_n 3, 0, 0, 0), some (.iaload, 0, 0, 0), some (.i2l, 0, 0, 0), some (.lcmp, 0, 0, 0), some (.ifCond .le 9, 0, 0, 0), none, none, some (.aload_n 0, 0, 0, 0), some (.iconst 2, 0, 0, 0), some (.invokevirtual 197, 0, 0, 0), none, none, some (.ireturn, 0, 0, 0), some (.iconst 0, 0, 0, 0), some (.istore 6, 0, 0, 0), none, some (.iload 6, 0, 0, 0), none, some (.iload 5, 0, 0, 0), none, some (.if_icmp .ge 30, 0, 0, 0), none, none, some (.aload_n 0, 0, 0, 0), some (.getfield 84, 8, 38, 0), none, none, some (.iload 6, 0, 0, 0), none, some (.aload_n 0, 0, 0, 0), some (.getfield 81, 8, 37, 0), none, none, some (.bipush 60, 0, 0, 60), none, some (.iload_n 1, 0, 0, 0), some (.imul, 0, 0, 0), some (.iload_n 2, 0, 0, 0), some (.iadd, 0, 0, 0), some (.iload 6, 0, 0, 0), none, some (.iadd, 0, 0, 0), some (.iaload, 0, 0, 0), some (.iastore, 0, 0, 0), some (.iinc 6 1, 0, 0, 0), none, none, some (.goto (-31), 0, 0, 0), none, none, some (.iconst 0, 0, 0, 0), some (.istore 6, 0, 0, 0), none, some (.iload 6, 0, 0, 0), none, some (.iload 5, 0, 0, 0), none, some (.if_icmp .ge 31, 0, 0, 0), none, none, some (.aload_n 0, 0, 0, 0), some (.getfield 81, 8, 37, 0), none, none, some (.bipush 60, 0, 0, 60), none, some (.iload_n 3, 0, 0, 0), some (.imul, 0, 0, 0), some (.iload 4, 0, 0, 0), none, some (.iadd, 0, 0, 0), some (.iload 6, 0, 0, 0), none, some (.iadd, 0, 0, 0), some (.aload_n 0, 0, 0, 0), some (.getfield 84, 8, 38, 0), none, none, some (.iload 6, 0, 0, 0), none, some (.iaload, 0, 0, 0), some (.iastore, 0, 0, 0), some (.iinc 6 1, 0, 0, 0), none, none, some (.goto (-32), 0, 0, 0), none, none, some (.iconst 1, 0, 0, 0), some (.ireturn, 0, 0, 0)]
set_option maxRecDepth 100000 in
theorem k_X8_copy : sw_Ok M_X8_copy I_X8_copy := (by decide +kernel : sw_ok yX8_copy.cls cX8_copy 0 I_X8_copy = true)
abbrev M_X8_read : sw_M := (yX8_read, cX8_read, 4, (some .int), 2, 42)
def I_X8_read : List (Option sw_I) := [some (.iload_n 1, 0, 0, 0), some (.invokestatic 194, 0, 0, 0), none, none, some (.ifCond .ne 6, 0, 0, 0), none, none, some (.bipush (-2), 0, 0, (-2)), none, some (.ireturn, 0, 0, 0), some (.aload_n 0, 0, 0, 0), some (.getfield 72, 8, 34, 0), none, none, some (.iload_n 1, 0, 0, 0), some (.baload, 0, 0, 0), some (.ifCond .ne 9, 0, 0, 0), none, none, some (.aload_n 0, 0, 0, 0), some (.iconst 1, 0, 0, 0), some (.invokevirtual 197, 0, 0, 0), none, none, some (.ireturn, 0, 0, 0), some (.iconst 0, 0, 0, 0), some (.istore_n 2, 0, 0, 0), some (.iload_n 2, 0, 0, 0), some (.aload_n 0, 0, 0, 0), some (.getfield 78, 8, 36, 0), none, none, some (.iload_n 1, 0, 0, 0), some (.iaload, 0, 0, 0), some (.if_icmp .ge 47, 0, 0, 0), none, none, some (.aload_n 0, 0, 0, 0), some (.getfield 81, 8, 37, 0), none, none, some (.bipush 60, 0, 0, 60), none, some (.iload_n 1, 0, 0, 0), some (.imul, 0, 0, 0), some (.iload_n 2, 0, 0, 0), some (.iadd, 0, 0, 0), some (.iaload, 0, 0, 0), some (.istore_n 3, 0, 0, 0), some (.aload_n 0, 0, 0, 0), some (.getfield 69, 8, 33, 0), none, none, some (.iload_n 2, 0, 0, 0), some (.iload_n 3, 0, 0, 0), some (.ifCond .ge 7, 0, 0, 0), none, none, some (.iconst 0, 0, 0, 0), some (.goto 15, 0, 0, 0), none, none, some (.iload_n 3, 0, 0, 0), some (.bipush 99, 0, 0, 99), none, some (.if_icmp .le 8, 0, 0, 0), none, none, some (.bipush 99, 0, 0, 99), none, some (.goto 4, 0, 0, 0), none, none, some (.iload_n 3, 0, 0, 0), some (.iastore, 0, 0, 0), some (.iinc 2 1, 0, 0, 0), none, none, some (.goto (-51), 0, 0, 0), none, none, some (.aload_n 0, 0, 0, 0), some (.getfield 78, 8, 36, 0), none, none, some (.iload_n 1, 0, 0, 0), some (.iaload, 0, 0, 0), some (.ireturn, 0, 0, 0)]
set_option maxRecDepth 100000 in
theorem k_X8_read : sw_Ok M_X8_read I_X8_read := (by decide +kernel : sw_ok yX8_read.cls cX8_read 0 I_X8_read = true)
abbrev M_X8_write : sw_M := (yX8_write, cX8_write, 5, (some .int), 2, 42)
def I_X8_write : List (Option sw_I) := [some (.iload_n 1, 0, 0, 0), some (.invokestatic 194, 0, 0, 0), none, none, some (.ifCond .eq 12, 0, 0, 0), none, none, some (.iload_n 2, 0, 0, 0), some (.iconst 0, 0, 0, 0), some (.iconst 2, 0, 0, 0), some (.invokestatic 87, 0, 0, 0), none, none, some (.ifCond .ne 6, 0, 0, 0), none, none, some (.bipush (-2), 0, 0, (-2)), none, some (.ireturn, 0, 0, 0), some (.aload_n 0, 0, 0, 0), some (.getfield 72, 8, 34, 0), none, none, some (.iload_n 1, 0, 0, 0), some (.baload, 0, 0, 0), some (.ifCond .ne 9, 0, 0, 0), none, none, some (.aload_n 0, 0, 0, 0), some (.iconst 1, 0, 0, 0), some (.invokevirtual 197, 0, 0, 0), none, none, some (.ireturn, 0, 0, 0), some (.aload_n 0, 0, 0, 0), some (.invokevirtual 191, 0, 0, 0), none, none, some (.aload_n 0, 0, 0, 0), some (.getfield 78, 8, 36, 0), none, none, some (.iload_n 1, 0, 0, 0), some (.iaload, 0, 0, 0), some (.if_icmp .ge 10, 0, 0, 0), none, none, some (.aload_n 0, 0, 0, 0), some (.invokevirtual 191, 0, 0, 0), none, none, some (.goto 9, 0, 0, 0), none, none, some (.aload_n 0, 0, 0, 0), some (.getfield 78, 8, 36, 0), none, none, some (.iload_n 1, 0, 0, 0), some (.iaload, 0, 0, 0), some (.istore_n 3, 0, 0, 0), some (.iconst 0, 0, 0, 0), some (.istore 4, 0, 0, 0), none, some (.iload 4, 0, 0, 0), none, some (.iload_n 3, 0, 0, 0), some (.if_icmp .ge 37, 0, 0, 0), none, none, some (.aload_n 0, 0, 0, 0), some (.iload_n 1, 0, 0, 0), some (.iload 4, 0, 0, 0), none, some (.aload_n 0, 0, 0, 0), some (.getfield 63, 8, 28, 0), none, none, some (.iconst 3, 0, 0, 0), some (.aload_n 0, 0, 0, 0), some (.getfield 160, 8, 18, 0), none, none, some (.iload_n 3, 0, 0, 0), some (.isub, 0, 0, 0), some (.iload 4, 0, 0, 0), none, some (.iadd, 0, 0, 0), some (.bipush 40, 0, 0, 40), none, some (.irem, 0, 0, 0), some (.imul, 0, 0, 0), some (.iload_n 2, 0, 0, 0), some (.iadd, 0, 0, 0), some (.iaload, 0, 0, 0), some (.invokevirtual 203, 0, 0, 0), none, none, some (.iinc 4 1, 0, 0, 0), none, none, some (.goto (-37), 0, 0, 0), none, none, some (.iload_n 3, 0, 0, 0), some (.ireturn, 0, 0, 0)]
set_option maxRecDepth 100000 in
theorem k_X8_write : sw_Ok M_X8_write I_X8_write := (by decide +kernel : sw_ok yX8_write.cls cX8_write 0 I_X8_write = true)
abbrev M_X8_plan : sw_M := (yX8_plan, cX8_plan, 5, (some .int), 5, 122)
def I_X8_plan : List (Option sw_I) := [some (.iload_n 1, 0, 0, 0), some (.invokestatic 194, 0, 0, 0), none, none, some (.ifCond .eq 11, 0, 0, 0), none, none, some (.aload_n 0, 0, 0, 0), some (.iload_n 2, 0, 0, 0), some (.invokevirtual 103, 0, 0, 0), none, none, some (.ifCond .ne 6, 0, 0, 0), none, none, some (.bipush (-2), 0, 0, (-2)), none, some (.ireturn, 0, 0, 0), some (.aload_n 0, 0, 0, 0), some (.getfield 91, 8, 12, 0), none, none, some (.ifCond .eq 6, 0, 0, 0), none, none, some (.bipush (-4), 0, 0, (-4)), none, some (.ireturn, 0, 0, 0), some (.aload_n 0, 0, 0, 0), some (.getfield 72, 8, 34, 0), none, none, some (.iload_n 1, 0, 0, 0), some (.baload, 0, 0, 0), some (.ifCond .ne 9, 0, 0, 0), none, none, some (.aload_n 0, 0, 0, 0), some (.iconst 1, 0, 0, 0), some (.invokevirtual 197, 0, 0, 0), none, none, some (.ireturn, 0, 0, 0), some (.aload_n 0, 0, 0, 0), some (.aload_n 0, 0, 0, 0), some (.getfield 100, 8, 10, 0), none, none, some (.iload_n 2, 0, 0, 0), some (.invokevirtual 125, 0, 0, 0), none, none, some (.istore_n 3, 0, 0, 0), some (.iload_n 3, 0, 0, 0), some (.aload_n 0, 0, 0, 0), some (.getfield 78, 8, 36, 0), none, none, some (.iload_n 1, 0, 0, 0), some (.iaload, 0, 0, 0), some (.if_icmp .ge 7, 0, 0, 0), none, none, some (.iload_n 3, 0, 0, 0), some (.goto 9, 0, 0, 0), none, none, some (.aload_n 0, 0, 0, 0), some (.getfield 78, 8, 36, 0), none, none, some (.iload_n 1, 0, 0, 0), some (.iaload, 0, 0, 0), some (.istore_n 3, 0, 0, 0), some (.iconst 0, 0, 0, 0), some (.istore 4, 0, 0, 0), none, some (.iload 4, 0, 0, 0), none, some (.iload_n 3, 0, 0, 0), some (.if_icmp .ge 23, 0, 0, 0), none, none, some (.aload_n 0, 0, 0, 0), some (.iload_n 1, 0, 0, 0), some (.iload 4, 0, 0, 0), none, some (.aload_n 0, 0, 0, 0), some (.getfield 60, 8, 27, 0), none, none, some (.iload 4, 0, 0, 0), none, some (.iaload, 0, 0, 0), some (.invokevirtual 203, 0, 0, 0), none, none, some (.iinc 4 1, 0, 0, 0), none, none, some (.goto (-23), 0, 0, 0), none, none, some (.iload_n 3, 0, 0, 0), some (.ireturn, 0, 0, 0)]
set_option maxRecDepth 100000 in
theorem k_X8_plan : sw_Ok M_X8_plan I_X8_plan := (by decide +kernel : sw_ok yX8_plan.cls cX8_plan 0 I_X8_plan = true)
abbrev M_X8_check : sw_M := (yX8_check, cX8_check, 5, (some .int), 4, 91)
def I_X8_check : List (Option sw_I) := [some (.iload_n 1, 0, 0, 0), some (.invokestatic 194, 0, 0, 0), none, none, some (.ifCond .ne 6, 0, 0, 0), none, none, some (.bipush (-2), 0, 0, (-2)), none, some (.ireturn, 0, 0, 0), some (.aload_n 0, 0, 0, 0), some (.getfield 91, 8, 12, 0), none, none, some (.ifCond .eq 6, 0, 0, 0), none, none, some (.bipush (-4), 0, 0, (-4)), none, some (.ireturn, 0, 0, 0), some (.aload_n 0, 0, 0, 0), some (.getfield 72, 8, 34, 0), none, none, some (.iload_n 1, 0, 0, 0), some (.baload, 0, 0, 0), some (.ifCond .ne 9, 0, 0, 0), none, none, some (.aload_n 0, 0, 0, 0), some (.iconst 1, 0, 0, 0), some (.invokevirtual 197, 0, 0, 0), none, none, some (.ireturn, 0, 0, 0), some (.aload_n 0, 0, 0, 0), some (.invokevirtual 111, 0, 0, 0), none, none, some (.aload_n 0, 0, 0, 0), some (.getfield 100, 8, 10, 0), none, none, some (.istore_n 2, 0, 0, 0), some (.iconst 0, 0, 0, 0), some (.istore_n 3, 0, 0, 0), some (.iconst 0, 0, 0, 0), some (.istore 4, 0, 0, 0), none, some (.iload 4, 0, 0, 0), none, some (.aload_n 0, 0, 0, 0), some (.getfield 78, 8, 36, 0), none, none, some (.iload_n 1, 0, 0, 0), some (.iaload, 0, 0, 0), some (.if_icmp .ge 47, 0, 0, 0), none, none, some (.aload_n 0, 0, 0, 0), some (.iload_n 2, 0, 0, 0), some (.iload_n 3, 0, 0, 0), some (.aload_n 0, 0, 0, 0), some (.getfield 81, 8, 37, 0), none, none, some (.bipush 60, 0, 0, 60), none, some (.iload_n 1, 0, 0, 0), some (.imul, 0, 0, 0), some (.iload 4, 0, 0, 0), none, some (.iadd, 0, 0, 0), some (.iaload, 0, 0, 0), some (.invokevirtual 208, 0, 0, 0), none, none, some (.ifCond .eq 26, 0, 0, 0), none, none, some (.aload_n 0, 0, 0, 0), some (.getfield 81, 8, 37, 0), none, none, some (.bipush 60, 0, 0, 60), none, some (.iload_n 1, 0, 0, 0), some (.imul, 0, 0, 0), some (.iload 4, 0, 0, 0), none, some (.iadd, 0, 0, 0), some (.iaload, 0, 0, 0), some (.istore_n 3, 0, 0, 0), some (.iload_n 2, 0, 0, 0), some (.iload_n 3, 0, 0, 0), some (.iadd, 0, 0, 0), some (.istore_n 2, 0, 0, 0), some (.iinc 4 1, 0, 0, 0), none, none, some (.goto (-52), 0, 0, 0), none, none, some (.iload 4, 0, 0, 0), none, some (.aload_n 0, 0, 0, 0), some (.getfield 78, 8, 36, 0), none, none, some (.iload_n 1, 0, 0, 0), some (.iaload, 0, 0, 0), some (.if_icmp .ne 28, 0, 0, 0), none, none, some (.iload_n 3, 0, 0, 0), some (.aload_n 0, 0, 0, 0), some (.getfield 16, 8, 2, 0), none, none, some (.ineg, 0, 0, 0), some (.aload_n 0, 0, 0, 0), some (.getfield 16, 8, 2, 0), none, none, some (.invokestatic 87, 0, 0, 0), none, none, some (.ifCond .eq 12, 0, 0, 0), none, none, some (.iload 4, 0, 0, 0), none, some (.sipush 1000, 0, 0, 1000), none, none, some (.iadd, 0, 0, 0), some (.goto 5, 0, 0, 0), none, none, some (.iload 4, 0, 0, 0), none, some (.ireturn, 0, 0, 0)]
set_option maxRecDepth 100000 in
theorem k_X8_check : sw_Ok M_X8_check I_X8_check := (by decide +kernel : sw_ok yX8_check.cls cX8_check 0 I_X8_check = true)
abbrev M_X8_fits : sw_M := (yX8_fits, cX8_fits, 4, (some .boolean), 3, 68)
def I_X8_fits : List (Option sw_I) := [some (.iload_n 3, 0, 0, 0), some (.aload_n 0, 0, 0, 0), some (.getfield 13, 8, 1, 0), none, none, some (.ineg, 0, 0, 0), some (.aload_n 0, 0, 0, 0), some (.getfield 13, 8, 1, 0), none, none, some (.invokestatic 87, 0, 0, 0), none, none, some (.ifCond .eq 34, 0, 0, 0), none, none, some (.iload_n 3, 0, 0, 0), some (.iload_n 2, 0, 0, 0), some (.isub, 0, 0, 0), some (.aload_n 0, 0, 0, 0), some (.getfield 16, 8, 2, 0), none, none, some (.ineg, 0, 0, 0), some (.aload_n 0, 0, 0, 0), some (.getfield 16, 8, 2, 0), none, none, some (.invokestatic 87, 0, 0, 0), none, none, some (.ifCond .eq 16, 0, 0, 0), none, none, some (.aload_n 0, 0, 0, 0), some (.iload_n 1, 0, 0, 0), some (.iload_n 3, 0, 0, 0), some (.invokevirtual 114, 0, 0, 0), none, none, some (.ifCond .eq 7, 0, 0, 0), none, none, some (.iconst 1, 0, 0, 0), some (.goto 4, 0, 0, 0), none, none, some (.iconst 0, 0, 0, 0), some (.ireturn, 0, 0, 0)]
set_option maxRecDepth 100000 in
theorem k_X8_fits : sw_Ok M_X8_fits I_X8_fits := (by decide +kernel : sw_ok yX8_fits.cls cX8_fits 0 I_X8_fits = true)
abbrev M_X8_digest : sw_M := (yX8_digest, cX8_digest, 4, (some .long), 2, 46)
def I_X8_digest : List (Option sw_I) := [some (.ldc2_w 211, 0, 0, 17), none, none, some (.lstore_n 1, 0, 0, 0), some (.iconst 0, 0, 0, 0), some (.istore_n 3, 0, 0, 0), some (.iload_n 3, 0, 0, 0), some (.bipush 12, 0, 0, 12), none, some (.if_icmp .ge 22, 0, 0, 0), none, none, some (.ldc2_w 213, 0, 0, 31), none, none, some (.lload_n 1, 0, 0, 0), some (.lmul, 0, 0, 0), some (.aload_n 0, 0, 0, 0), some (.iload_n 3, 0, 0, 0), some (.invokevirtual 215, 0, 0, 0), none, none, some (.i2l, 0, 0, 0), some (.ladd, 0, 0, 0), some (.lstore_n 1, 0, 0, 0), some (.iinc 3 1, 0, 0, 0), none, none, some (.goto (-22), 0, 0, 0), none, none, some (.iconst 0, 0, 0, 0), some (.istore_n 3, 0, 0, 0), some (.iload_n 3, 0, 0, 0), some (.bipush 60, 0, 0, 60), none, some (.if_icmp .ge 23, 0, 0, 0), none, none, some (.ldc2_w 213, 0, 0, 31), none, none, some (.lload_n 1, 0, 0, 0), some (.lmul, 0, 0, 0), some (.aload_n 0, 0, 0, 0), some (.getfield 69, 8, 33, 0), none, none, some (.iload_n 3, 0, 0, 0), some (.iaload, 0, 0, 0), some (.i2l, 0, 0, 0), some (.ladd, 0, 0, 0), some (.lstore_n 1, 0, 0, 0), some (.iinc 3 1, 0, 0, 0), none, none, some (.goto (-23), 0, 0, 0), none, none, some (.aload_n 0, 0, 0, 0), some (.getfield 139, 8, 23, 0), none, none, some (.istore_n 3, 0, 0, 0), some (.iload_n 3, 0, 0, 0), some (.aload_n 0, 0, 0, 0), some (.getfield 136, 8, 22, 0), none, none, some (.if_icmp .ge 31, 0, 0, 0), none, none, some (.aload_n 0, 0, 0, 0), some (.getfield 91, 8, 12, 0), none, none, some (.iconst 1, 0, 0, 0), some (.if_icmp .ne 23, 0, 0, 0), none, none, some (.ldc2_w 213, 0, 0, 31), none, none, some (.lload_n 1, 0, 0, 0), some (.lmul, 0, 0, 0), some (.aload_n 0, 0, 0, 0), some (.getfield 48, 8, 21, 0), none, none, some (.iload_n 3, 0, 0, 0), some (.iaload, 0, 0, 0), some (.i2l, 0, 0, 0), some (.ladd, 0, 0, 0), some (.lstore_n 1, 0, 0, 0), some (.iinc 3 1, 0, 0, 0), none, none, some (.goto (-33), 0, 0, 0), none, none, some (.lload_n 1, 0, 0, 0), some (.lreturn, 0, 0, 0)]
set_option maxRecDepth 100000 in
theorem k_X8_digest : sw_Ok M_X8_digest I_X8_digest := (by decide +kernel : sw_ok yX8_digest.cls cX8_digest 0 I_X8_digest = true)
end
section
theorem sw_in {w : Cond} (i : Nat) (h : tables_1[i]? = some w) (g : goodWord w = true) : w ∈ sw_tb := List.mem_filter.mpr ⟨List.mem_append_right _ (List.mem_of_getElem? h), g⟩
theorem sw_inP {w : Cond} (i : Nat) (h : (k2_sels lw_privs)[i]? = some w) (g : goodWord w = true) : w ∈ sw_tb := List.mem_filter.mpr ⟨List.mem_append_left _ (List.mem_of_getElem? h), g⟩
theorem cS_J9_min_7cf53 : sw_calS M_J9_min_7cf53 2 := ⟨⟨sw_in 289 (by decide +kernel) rfl, sw_in 11 (by decide +kernel) rfl, by decide +kernel⟩, sw_in 288 (by decide +kernel) rfl⟩
theorem ml_X0_15 : Cond.methodLink RX0 15 yJ9_min_7cf53 ∈ sw_tb := sw_in 472 (by decide +kernel) rfl
theorem cS_J9_max_7cf53 : sw_calS M_J9_max_7cf53 2 := ⟨⟨sw_in 286 (by decide +kernel) rfl, sw_in 11 (by decide +kernel) rfl, by decide +kernel⟩, sw_in 285 (by decide +kernel) rfl⟩
theorem ml_X0_21 : Cond.methodLink RX0 21 yJ9_max_7cf53 ∈ sw_tb := sw_in 485 (by decide +kernel) rfl
theorem cV_X0_wiresIn : sw_calV M_X0_wiresIn 2 := ⟨⟨sw_in 484 (by decide +kernel) rfl, sw_in 8 (by decide +kernel) rfl, by decide +kernel⟩, sw_in 482 (by decide +kernel) rfl, sw_in 483 (by decide +kernel) rfl⟩
theorem ml_X0_24 : Cond.methodLink RX0 24 yX0_wiresIn ∈ sw_tb := sw_in 481 (by decide +kernel) rfl
theorem cV_X3_has : sw_calV M_X3_has 1 := ⟨⟨sw_in 279 (by decide +kernel) rfl, sw_in 2 (by decide +kernel) rfl, by decide +kernel⟩, sw_in 277 (by decide +kernel) rfl, sw_in 278 (by decide +kernel) rfl⟩
theorem ml_X1_26 : Cond.methodLink RX1 26 yX3_has ∈ sw_tb := sw_in 311 (by decide +kernel) rfl
theorem cV_X1_aimAt : sw_calV M_X1_aimAt 2 := ⟨⟨sw_in 315 (by decide +kernel) rfl, sw_in 4 (by decide +kernel) rfl, by decide +kernel⟩, sw_in 314 (by decide +kernel) rfl, sw_inP 0 (by decide +kernel) rfl⟩
theorem ml_X1_32 : Cond.methodLink RX1 32 yX1_aimAt ∈ sw_tb := sw_in 312 (by decide +kernel) rfl
theorem cS_J9_abs_0f7a4 : sw_calS M_J9_abs_0f7a4 1 := ⟨⟨sw_in 319 (by decide +kernel) rfl, sw_in 11 (by decide +kernel) rfl, by decide +kernel⟩, sw_in 318 (by decide +kernel) rfl⟩
theorem ml_X1_36 : Cond.methodLink RX1 36 yJ9_abs_0f7a4 ∈ sw_tb := sw_in 317 (by decide +kernel) rfl
theorem cV_X1_fillRow : sw_calV M_X1_fillRow 1 := ⟨⟨sw_in 323 (by decide +kernel) rfl, sw_in 4 (by decide +kernel) rfl, by decide +kernel⟩, sw_in 322 (by decide +kernel) rfl, sw_inP 1 (by decide +kernel) rfl⟩
theorem ml_X1_45 : Cond.methodLink RX1 45 yX1_fillRow ∈ sw_tb := sw_in 320 (by decide +kernel) rfl
theorem cV_X1_ticksBetween : sw_calV M_X1_ticksBetween 2 := ⟨⟨sw_in 310 (by decide +kernel) rfl, sw_in 4 (by decide +kernel) rfl, by decide +kernel⟩, sw_in 308 (by decide +kernel) rfl, sw_in 309 (by decide +kernel) rfl⟩
theorem ml_X1_49 : Cond.methodLink RX1 49 yX1_ticksBetween ∈ sw_tb := sw_in 343 (by decide +kernel) rfl
theorem ml_X1_53 : Cond.methodLink RX1 53 yJ9_min_7cf53 ∈ sw_tb := sw_in 329 (by decide +kernel) rfl
theorem cV_X1_farthestOfBest : sw_calV M_X1_farthestOfBest 2 := ⟨⟨sw_in 347 (by decide +kernel) rfl, sw_in 4 (by decide +kernel) rfl, by decide +kernel⟩, sw_in 346 (by decide +kernel) rfl, sw_inP 4 (by decide +kernel) rfl⟩
theorem ml_X1_56 : Cond.methodLink RX1 56 yX1_farthestOfBest ∈ sw_tb := sw_in 344 (by decide +kernel) rfl
theorem cV_X1_greatestFrom : sw_calV M_X1_greatestFrom 1 := ⟨⟨sw_in 327 (by decide +kernel) rfl, sw_in 4 (by decide +kernel) rfl, by decide +kernel⟩, sw_in 326 (by decide +kernel) rfl, sw_inP 2 (by decide +kernel) rfl⟩
theorem ml_X1_69 : Cond.methodLink RX1 69 yX1_greatestFrom ∈ sw_tb := sw_in 324 (by decide +kernel) rfl
theorem ml_X1_72 : Cond.methodLink RX1 72 yJ9_max_7cf53 ∈ sw_tb := sw_in 330 (by decide +kernel) rfl
theorem cV_X1_ticksAfter : sw_calV M_X1_ticksAfter 2 := ⟨⟨sw_in 334 (by decide +kernel) rfl, sw_in 4 (by decide +kernel) rfl, by decide +kernel⟩, sw_in 333 (by decide +kernel) rfl, sw_inP 3 (by decide +kernel) rfl⟩
theorem ml_X1_75 : Cond.methodLink RX1 75 yX1_ticksAfter ∈ sw_tb := sw_in 331 (by decide +kernel) rfl
theorem cV_X3_greatestSpeed : sw_calV M_X3_greatestSpeed 2 := ⟨⟨sw_in 301 (by decide +kernel) rfl, sw_in 2 (by decide +kernel) rfl, by decide +kernel⟩, sw_in 299 (by decide +kernel) rfl, sw_in 300 (by decide +kernel) rfl⟩
theorem ml_X1_78 : Cond.methodLink RX1 78 yX3_greatestSpeed ∈ sw_tb := sw_in 328 (by decide +kernel) rfl
theorem ml_X2_33 : Cond.methodLink RX2 33 yJ9_max_7cf53 ∈ sw_tb := sw_in 445 (by decide +kernel) rfl
theorem ml_X2_39 : Cond.methodLink RX2 39 yJ9_min_7cf53 ∈ sw_tb := sw_in 446 (by decide +kernel) rfl
theorem cV_X2_slipsAt : sw_calV M_X2_slipsAt 3 := ⟨⟨sw_in 444 (by decide +kernel) rfl, sw_in 7 (by decide +kernel) rfl, by decide +kernel⟩, sw_in 442 (by decide +kernel) rfl, sw_in 443 (by decide +kernel) rfl⟩
theorem ml_X2_42 : Cond.methodLink RX2 42 yX2_slipsAt ∈ sw_tb := sw_in 455 (by decide +kernel) rfl
theorem cS_J7_fill_53178 : sw_calS M_J7_fill_53178 2 := ⟨⟨sw_in 33 (by decide +kernel) rfl, sw_in 3 (by decide +kernel) rfl, by decide +kernel⟩, sw_in 32 (by decide +kernel) rfl⟩
theorem ml_X3_32 : Cond.methodLink RX3 32 yJ7_fill_53178 ∈ sw_tb := sw_in 31 (by decide +kernel) rfl
theorem ml_X3_38 : Cond.methodLink RX3 38 yJ9_max_7cf53 ∈ sw_tb := sw_in 284 (by decide +kernel) rfl
theorem ml_X3_44 : Cond.methodLink RX3 44 yJ9_min_7cf53 ∈ sw_tb := sw_in 287 (by decide +kernel) rfl
theorem ml_X3_47 : Cond.methodLink RX3 47 yX3_has ∈ sw_tb := sw_in 302 (by decide +kernel) rfl
theorem ml_X3_51 : Cond.methodLink RX3 51 yJ9_abs_0f7a4 ∈ sw_tb := sw_in 613 (by decide +kernel) rfl
theorem ml_X3_55 : Cond.methodLink RX3 55 yX3_greatestSpeed ∈ sw_tb := sw_in 614 (by decide +kernel) rfl
theorem cV_X3_allowsTick : sw_calV M_X3_allowsTick 3 := ⟨⟨sw_in 612 (by decide +kernel) rfl, sw_in 2 (by decide +kernel) rfl, by decide +kernel⟩, sw_in 610 (by decide +kernel) rfl, sw_in 611 (by decide +kernel) rfl⟩
theorem ml_X3_58 : Cond.methodLink RX3 58 yX3_allowsTick ∈ sw_tb := sw_in 609 (by decide +kernel) rfl
theorem ml_X4_26 : Cond.methodLink RX4 26 yJ7_fill_53178 ∈ sw_tb := sw_in 552 (by decide +kernel) rfl
theorem ml_X5_19 : Cond.methodLink RX5 19 yJ9_min_7cf53 ∈ sw_tb := sw_in 529 (by decide +kernel) rfl
theorem cS_J9_floorMod_7cf53 : sw_calS M_J9_floorMod_7cf53 2 := ⟨⟨sw_in 419 (by decide +kernel) rfl, sw_in 11 (by decide +kernel) rfl, by decide +kernel⟩, sw_in 418 (by decide +kernel) rfl⟩
theorem ml_X5_25 : Cond.methodLink RX5 25 yJ9_floorMod_7cf53 ∈ sw_tb := sw_in 417 (by decide +kernel) rfl
theorem ml_X6_43 : Cond.methodLink RX6 43 yJ9_min_7cf53 ∈ sw_tb := sw_in 398 (by decide +kernel) rfl
theorem ml_X6_49 : Cond.methodLink RX6 49 yJ9_max_7cf53 ∈ sw_tb := sw_in 399 (by decide +kernel) rfl
theorem cV_X6_mustBrake : sw_calV M_X6_mustBrake 0 := ⟨⟨sw_in 387 (by decide +kernel) rfl, sw_in 5 (by decide +kernel) rfl, by decide +kernel⟩, sw_in 386 (by decide +kernel) rfl, sw_inP 5 (by decide +kernel) rfl⟩
theorem ml_X6_64 : Cond.methodLink RX6 64 yX6_mustBrake ∈ sw_tb := sw_in 384 (by decide +kernel) rfl
theorem cV_X6_rideOn : sw_calV M_X6_rideOn 0 := ⟨⟨sw_in 407 (by decide +kernel) rfl, sw_in 5 (by decide +kernel) rfl, by decide +kernel⟩, sw_in 406 (by decide +kernel) rfl, sw_inP 7 (by decide +kernel) rfl⟩
theorem ml_X6_71 : Cond.methodLink RX6 71 yX6_rideOn ∈ sw_tb := sw_in 404 (by decide +kernel) rfl
theorem cV_X6_slowDown : sw_calV M_X6_slowDown 0 := ⟨⟨sw_in 411 (by decide +kernel) rfl, sw_in 5 (by decide +kernel) rfl, by decide +kernel⟩, sw_in 410 (by decide +kernel) rfl, sw_inP 8 (by decide +kernel) rfl⟩
theorem ml_X6_74 : Cond.methodLink RX6 74 yX6_slowDown ∈ sw_tb := sw_in 408 (by decide +kernel) rfl
theorem cV_X5_note : sw_calV M_X5_note 3 := ⟨⟨sw_in 416 (by decide +kernel) rfl, sw_in 6 (by decide +kernel) rfl, by decide +kernel⟩, sw_in 414 (by decide +kernel) rfl, sw_in 415 (by decide +kernel) rfl⟩
theorem ml_X6_80 : Cond.methodLink RX6 80 yX5_note ∈ sw_tb := sw_in 413 (by decide +kernel) rfl
theorem cV_X6_openLinks : sw_calV M_X6_openLinks 0 := ⟨⟨sw_in 371 (by decide +kernel) rfl, sw_in 5 (by decide +kernel) rfl, by decide +kernel⟩, sw_in 369 (by decide +kernel) rfl, sw_in 370 (by decide +kernel) rfl⟩
theorem ml_X6_84 : Cond.methodLink RX6 84 yX6_openLinks ∈ sw_tb := sw_in 388 (by decide +kernel) rfl
theorem cV_X6_nextSpeed : sw_calV M_X6_nextSpeed 0 := ⟨⟨sw_in 392 (by decide +kernel) rfl, sw_in 5 (by decide +kernel) rfl, by decide +kernel⟩, sw_in 391 (by decide +kernel) rfl, sw_inP 6 (by decide +kernel) rfl⟩
theorem ml_X6_88 : Cond.methodLink RX6 88 yX6_nextSpeed ∈ sw_tb := sw_in 389 (by decide +kernel) rfl
theorem ml_X6_91 : Cond.methodLink RX6 91 yJ9_abs_0f7a4 ∈ sw_tb := sw_in 393 (by decide +kernel) rfl
theorem cV_X6_told : sw_calV M_X6_told 0 := ⟨⟨sw_in 397 (by decide +kernel) rfl, sw_in 5 (by decide +kernel) rfl, by decide +kernel⟩, sw_in 395 (by decide +kernel) rfl, sw_in 396 (by decide +kernel) rfl⟩
theorem ml_X6_95 : Cond.methodLink RX6 95 yX6_told ∈ sw_tb := sw_in 394 (by decide +kernel) rfl
theorem cV_X3_limitAt : sw_calV M_X3_limitAt 1 := ⟨⟨sw_in 403 (by decide +kernel) rfl, sw_in 2 (by decide +kernel) rfl, by decide +kernel⟩, sw_in 401 (by decide +kernel) rfl, sw_in 402 (by decide +kernel) rfl⟩
theorem ml_X6_98 : Cond.methodLink RX6 98 yX3_limitAt ∈ sw_tb := sw_in 400 (by decide +kernel) rfl
theorem ml_X6_106 : Cond.methodLink RX6 106 yX3_has ∈ sw_tb := sw_in 412 (by decide +kernel) rfl
theorem cS_X7_within : sw_calS M_X7_within 3 := ⟨⟨sw_in 265 (by decide +kernel) rfl, sw_in 1 (by decide +kernel) rfl, by decide +kernel⟩, sw_in 264 (by decide +kernel) rfl⟩
theorem ml_X7_63 : Cond.methodLink RX7 63 yX7_within ∈ sw_tb := sw_in 263 (by decide +kernel) rfl
theorem cV_X6_rests : sw_calV M_X6_rests 0 := ⟨⟨sw_in 269 (by decide +kernel) rfl, sw_in 5 (by decide +kernel) rfl, by decide +kernel⟩, sw_in 267 (by decide +kernel) rfl, sw_in 268 (by decide +kernel) rfl⟩
theorem ml_X7_67 : Cond.methodLink RX7 67 yX6_rests ∈ sw_tb := sw_in 266 (by decide +kernel) rfl
theorem cV_X3_renew : sw_calV M_X3_renew 3 := ⟨⟨sw_in 30 (by decide +kernel) rfl, sw_in 2 (by decide +kernel) rfl, by decide +kernel⟩, sw_in 28 (by decide +kernel) rfl, sw_in 29 (by decide +kernel) rfl⟩
theorem ml_X7_71 : Cond.methodLink RX7 71 yX3_renew ∈ sw_tb := sw_in 270 (by decide +kernel) rfl
theorem cV_X1_forget : sw_calV M_X1_forget 0 := ⟨⟨sw_in 67 (by decide +kernel) rfl, sw_in 4 (by decide +kernel) rfl, by decide +kernel⟩, sw_in 65 (by decide +kernel) rfl, sw_in 66 (by decide +kernel) rfl⟩
theorem ml_X7_75 : Cond.methodLink RX7 75 yX1_forget ∈ sw_tb := sw_in 271 (by decide +kernel) rfl
theorem ml_X7_85 : Cond.methodLink RX7 85 yX3_has ∈ sw_tb := sw_in 276 (by decide +kernel) rfl
theorem cV_X3_addZone : sw_calV M_X3_addZone 3 := ⟨⟨sw_in 283 (by decide +kernel) rfl, sw_in 2 (by decide +kernel) rfl, by decide +kernel⟩, sw_in 281 (by decide +kernel) rfl, sw_in 282 (by decide +kernel) rfl⟩
theorem ml_X7_92 : Cond.methodLink RX7 92 yX3_addZone ∈ sw_tb := sw_in 280 (by decide +kernel) rfl
theorem ml_X7_95 : Cond.methodLink RX7 95 yX3_greatestSpeed ∈ sw_tb := sw_in 298 (by decide +kernel) rfl
theorem ml_X7_99 : Cond.methodLink RX7 99 yX1_ticksBetween ∈ sw_tb := sw_in 307 (by decide +kernel) rfl
theorem cV_X1_trace : sw_calV M_X1_trace 3 := ⟨⟨sw_in 342 (by decide +kernel) rfl, sw_in 4 (by decide +kernel) rfl, by decide +kernel⟩, sw_in 340 (by decide +kernel) rfl, sw_in 341 (by decide +kernel) rfl⟩
theorem ml_X7_102 : Cond.methodLink RX7 102 yX1_trace ∈ sw_tb := sw_in 339 (by decide +kernel) rfl
theorem ml_X7_122 : Cond.methodLink RX7 122 yX6_openLinks ∈ sw_tb := sw_in 368 (by decide +kernel) rfl
theorem cV_X6_setOut : sw_calV M_X6_setOut 1 := ⟨⟨sw_in 375 (by decide +kernel) rfl, sw_in 5 (by decide +kernel) rfl, by decide +kernel⟩, sw_in 373 (by decide +kernel) rfl, sw_in 374 (by decide +kernel) rfl⟩
theorem ml_X7_129 : Cond.methodLink RX7 129 yX6_setOut ∈ sw_tb := sw_in 372 (by decide +kernel) rfl
theorem cV_X6_passTick : sw_calV M_X6_passTick 0 := ⟨⟨sw_in 383 (by decide +kernel) rfl, sw_in 5 (by decide +kernel) rfl, by decide +kernel⟩, sw_in 381 (by decide +kernel) rfl, sw_in 382 (by decide +kernel) rfl⟩
theorem ml_X7_133 : Cond.methodLink RX7 133 yX6_passTick ∈ sw_tb := sw_in 380 (by decide +kernel) rfl
theorem ml_X7_142 : Cond.methodLink RX7 142 yX6_told ∈ sw_tb := sw_in 424 (by decide +kernel) rfl
theorem cV_X6_ticksLeft : sw_calV M_X6_ticksLeft 0 := ⟨⟨sw_in 428 (by decide +kernel) rfl, sw_in 5 (by decide +kernel) rfl, by decide +kernel⟩, sw_in 426 (by decide +kernel) rfl, sw_in 427 (by decide +kernel) rfl⟩
theorem ml_X7_154 : Cond.methodLink RX7 154 yX6_ticksLeft ∈ sw_tb := sw_in 425 (by decide +kernel) rfl
theorem ml_X7_178 : Cond.methodLink RX7 178 yX2_slipsAt ∈ sw_tb := sw_in 441 (by decide +kernel) rfl
theorem cV_X2_firstSlip : sw_calV M_X2_firstSlip 3 := ⟨⟨sw_in 454 (by decide +kernel) rfl, sw_in 7 (by decide +kernel) rfl, by decide +kernel⟩, sw_in 452 (by decide +kernel) rfl, sw_in 453 (by decide +kernel) rfl⟩
theorem ml_X7_181 : Cond.methodLink RX7 181 yX2_firstSlip ∈ sw_tb := sw_in 451 (by decide +kernel) rfl
theorem cV_X2_leastRatio : sw_calV M_X2_leastRatio 3 := ⟨⟨sw_in 463 (by decide +kernel) rfl, sw_in 7 (by decide +kernel) rfl, by decide +kernel⟩, sw_in 461 (by decide +kernel) rfl, sw_in 462 (by decide +kernel) rfl⟩
theorem ml_X7_185 : Cond.methodLink RX7 185 yX2_leastRatio ∈ sw_tb := sw_in 460 (by decide +kernel) rfl
theorem cV_X0_addBroken : sw_calV M_X0_addBroken 2 := ⟨⟨sw_in 471 (by decide +kernel) rfl, sw_in 8 (by decide +kernel) rfl, by decide +kernel⟩, sw_in 469 (by decide +kernel) rfl, sw_in 470 (by decide +kernel) rfl⟩
theorem ml_X7_188 : Cond.methodLink RX7 188 yX0_addBroken ∈ sw_tb := sw_in 468 (by decide +kernel) rfl
theorem cV_X0_firstOfWorst : sw_calV M_X0_firstOfWorst 1 := ⟨⟨sw_in 480 (by decide +kernel) rfl, sw_in 8 (by decide +kernel) rfl, by decide +kernel⟩, sw_in 478 (by decide +kernel) rfl, sw_in 479 (by decide +kernel) rfl⟩
theorem ml_X7_191 : Cond.methodLink RX7 191 yX0_firstOfWorst ∈ sw_tb := sw_in 477 (by decide +kernel) rfl
theorem ml_X7_195 : Cond.methodLink RX7 195 yX0_wiresIn ∈ sw_tb := sw_in 486 (by decide +kernel) rfl
theorem cV_X0_cutAway : sw_calV M_X0_cutAway 1 := ⟨⟨sw_in 498 (by decide +kernel) rfl, sw_in 8 (by decide +kernel) rfl, by decide +kernel⟩, sw_in 496 (by decide +kernel) rfl, sw_in 497 (by decide +kernel) rfl⟩
theorem ml_X7_198 : Cond.methodLink RX7 198 yX0_cutAway ∈ sw_tb := sw_in 495 (by decide +kernel) rfl
theorem cV_X0_fewestToCut : sw_calV M_X0_fewestToCut 2 := ⟨⟨sw_in 506 (by decide +kernel) rfl, sw_in 8 (by decide +kernel) rfl, by decide +kernel⟩, sw_in 504 (by decide +kernel) rfl, sw_in 505 (by decide +kernel) rfl⟩
theorem ml_X7_201 : Cond.methodLink RX7 201 yX0_fewestToCut ∈ sw_tb := sw_in 503 (by decide +kernel) rfl
theorem cS_X7_areMen : sw_calS M_X7_areMen 3 := ⟨⟨sw_in 513 (by decide +kernel) rfl, sw_in 1 (by decide +kernel) rfl, by decide +kernel⟩, sw_in 512 (by decide +kernel) rfl⟩
theorem ml_X7_204 : Cond.methodLink RX7 204 yX7_areMen ∈ sw_tb := sw_in 511 (by decide +kernel) rfl
theorem cS_X7_tripsFor : sw_calS M_X7_tripsFor 2 := ⟨⟨sw_in 516 (by decide +kernel) rfl, sw_in 1 (by decide +kernel) rfl, by decide +kernel⟩, sw_in 515 (by decide +kernel) rfl⟩
theorem ml_X7_207 : Cond.methodLink RX7 207 yX7_tripsFor ∈ sw_tb := sw_in 514 (by decide +kernel) rfl
theorem cV_X5_size : sw_calV M_X5_size 0 := ⟨⟨sw_in 528 (by decide +kernel) rfl, sw_in 6 (by decide +kernel) rfl, by decide +kernel⟩, sw_in 526 (by decide +kernel) rfl, sw_in 527 (by decide +kernel) rfl⟩
theorem ml_X7_213 : Cond.methodLink RX7 213 yX5_size ∈ sw_tb := sw_in 525 (by decide +kernel) rfl
theorem cV_X5_latest : sw_calV M_X5_latest 2 := ⟨⟨sw_in 533 (by decide +kernel) rfl, sw_in 6 (by decide +kernel) rfl, by decide +kernel⟩, sw_in 531 (by decide +kernel) rfl, sw_in 532 (by decide +kernel) rfl⟩
theorem ml_X7_216 : Cond.methodLink RX7 216 yX5_latest ∈ sw_tb := sw_in 530 (by decide +kernel) rfl
theorem cS_X7_isSheet : sw_calS M_X7_isSheet 1 := ⟨⟨sw_in 540 (by decide +kernel) rfl, sw_in 1 (by decide +kernel) rfl, by decide +kernel⟩, sw_in 539 (by decide +kernel) rfl⟩
theorem ml_X7_219 : Cond.methodLink RX7 219 yX7_isSheet ∈ sw_tb := sw_in 538 (by decide +kernel) rfl
theorem cS_X7_isForm : sw_calS M_X7_isForm 1 := ⟨⟨sw_in 543 (by decide +kernel) rfl, sw_in 1 (by decide +kernel) rfl, by decide +kernel⟩, sw_in 542 (by decide +kernel) rfl⟩
theorem ml_X7_222 : Cond.methodLink RX7 222 yX7_isForm ∈ sw_tb := sw_in 541 (by decide +kernel) rfl
theorem cV_X7_finding : sw_calV M_X7_finding 1 := ⟨⟨sw_in 547 (by decide +kernel) rfl, sw_in 1 (by decide +kernel) rfl, by decide +kernel⟩, sw_in 546 (by decide +kernel) rfl, sw_inP 9 (by decide +kernel) rfl⟩
theorem ml_X7_225 : Cond.methodLink RX7 225 yX7_finding ∈ sw_tb := sw_in 544 (by decide +kernel) rfl
theorem cV_X4_renew : sw_calV M_X4_renew 2 := ⟨⟨sw_in 551 (by decide +kernel) rfl, sw_in 9 (by decide +kernel) rfl, by decide +kernel⟩, sw_in 549 (by decide +kernel) rfl, sw_in 550 (by decide +kernel) rfl⟩
theorem ml_X7_228 : Cond.methodLink RX7 228 yX4_renew ∈ sw_tb := sw_in 548 (by decide +kernel) rfl
theorem cS_X7_wrongOfItem : sw_calS M_X7_wrongOfItem 3 := ⟨⟨sw_in 563 (by decide +kernel) rfl, sw_in 1 (by decide +kernel) rfl, by decide +kernel⟩, sw_in 562 (by decide +kernel) rfl⟩
theorem ml_X7_237 : Cond.methodLink RX7 237 yX7_wrongOfItem ∈ sw_tb := sw_in 561 (by decide +kernel) rfl
theorem cV_X4_store : sw_calV M_X4_store 2 := ⟨⟨sw_in 571 (by decide +kernel) rfl, sw_in 9 (by decide +kernel) rfl, by decide +kernel⟩, sw_in 569 (by decide +kernel) rfl, sw_in 570 (by decide +kernel) rfl⟩
theorem ml_X7_241 : Cond.methodLink RX7 241 yX4_store ∈ sw_tb := sw_in 568 (by decide +kernel) rfl
theorem cV_X4_hasItems : sw_calV M_X4_hasItems 2 := ⟨⟨sw_in 567 (by decide +kernel) rfl, sw_in 9 (by decide +kernel) rfl, by decide +kernel⟩, sw_in 565 (by decide +kernel) rfl, sw_in 566 (by decide +kernel) rfl⟩
theorem ml_X7_251 : Cond.methodLink RX7 251 yX4_hasItems ∈ sw_tb := sw_in 564 (by decide +kernel) rfl
theorem cV_X0_take : sw_calV M_X0_take 2 := ⟨⟨sw_in 591 (by decide +kernel) rfl, sw_in 8 (by decide +kernel) rfl, by decide +kernel⟩, sw_in 589 (by decide +kernel) rfl, sw_in 590 (by decide +kernel) rfl⟩
theorem ml_X7_261 : Cond.methodLink RX7 261 yX0_take ∈ sw_tb := sw_in 588 (by decide +kernel) rfl
theorem ml_X7_265 : Cond.methodLink RX7 265 yJ9_min_7cf53 ∈ sw_tb := sw_in 596 (by decide +kernel) rfl
theorem cV_X3_lawfulSpeeds : sw_calV M_X3_lawfulSpeeds 3 := ⟨⟨sw_in 608 (by decide +kernel) rfl, sw_in 2 (by decide +kernel) rfl, by decide +kernel⟩, sw_in 606 (by decide +kernel) rfl, sw_in 607 (by decide +kernel) rfl⟩
theorem ml_X7_270 : Cond.methodLink RX7 270 yX3_lawfulSpeeds ∈ sw_tb := sw_in 605 (by decide +kernel) rfl
theorem ml_X7_273 : Cond.methodLink RX7 273 yJ9_abs_0f7a4 ∈ sw_tb := sw_in 615 (by decide +kernel) rfl
theorem cV_X7_state : sw_calV M_X7_state 1 := ⟨⟨sw_in 423 (by decide +kernel) rfl, sw_in 1 (by decide +kernel) rfl, by decide +kernel⟩, sw_in 421 (by decide +kernel) rfl, sw_in 422 (by decide +kernel) rfl⟩
theorem ml_X7_283 : Cond.methodLink RX7 283 yX7_state ∈ sw_tb := sw_in 622 (by decide +kernel) rfl
theorem cS_X8_in : sw_calS M_X8_in 3 := ⟨⟨sw_in 756 (by decide +kernel) rfl, sw_in 10 (by decide +kernel) rfl, by decide +kernel⟩, sw_in 755 (by decide +kernel) rfl⟩
theorem ml_X8_87 : Cond.methodLink RX8 87 yX8_in ∈ sw_tb := sw_in 754 (by decide +kernel) rfl
theorem cV_X8_isPlace : sw_calV M_X8_isPlace 1 := ⟨⟨sw_in 764 (by decide +kernel) rfl, sw_in 10 (by decide +kernel) rfl, by decide +kernel⟩, sw_in 763 (by decide +kernel) rfl, sw_inP 10 (by decide +kernel) rfl⟩
theorem ml_X8_103 : Cond.methodLink RX8 103 yX8_isPlace ∈ sw_tb := sw_in 761 (by decide +kernel) rfl
theorem cV_X8_allowed : sw_calV M_X8_allowed 1 := ⟨⟨sw_in 780 (by decide +kernel) rfl, sw_in 10 (by decide +kernel) rfl, by decide +kernel⟩, sw_in 779 (by decide +kernel) rfl, sw_inP 12 (by decide +kernel) rfl⟩
theorem ml_X8_107 : Cond.methodLink RX8 107 yX8_allowed ∈ sw_tb := sw_in 777 (by decide +kernel) rfl
theorem cV_X8_lookAtZones : sw_calV M_X8_lookAtZones 0 := ⟨⟨sw_in 776 (by decide +kernel) rfl, sw_in 10 (by decide +kernel) rfl, by decide +kernel⟩, sw_in 775 (by decide +kernel) rfl, sw_inP 11 (by decide +kernel) rfl⟩
theorem ml_X8_111 : Cond.methodLink RX8 111 yX8_lookAtZones ∈ sw_tb := sw_in 773 (by decide +kernel) rfl
theorem cV_X8_isTick : sw_calV M_X8_isTick 2 := ⟨⟨sw_in 784 (by decide +kernel) rfl, sw_in 10 (by decide +kernel) rfl, by decide +kernel⟩, sw_in 783 (by decide +kernel) rfl, sw_inP 13 (by decide +kernel) rfl⟩
theorem ml_X8_114 : Cond.methodLink RX8 114 yX8_isTick ∈ sw_tb := sw_in 781 (by decide +kernel) rfl
theorem cV_X8_workBack : sw_calV M_X8_workBack 1 := ⟨⟨sw_in 796 (by decide +kernel) rfl, sw_in 10 (by decide +kernel) rfl, by decide +kernel⟩, sw_in 795 (by decide +kernel) rfl, sw_inP 15 (by decide +kernel) rfl⟩
theorem ml_X8_118 : Cond.methodLink RX8 118 yX8_workBack ∈ sw_tb := sw_in 793 (by decide +kernel) rfl
theorem cV_X8_goes : sw_calV M_X8_goes 3 := ⟨⟨sw_in 800 (by decide +kernel) rfl, sw_in 10 (by decide +kernel) rfl, by decide +kernel⟩, sw_in 799 (by decide +kernel) rfl, sw_inP 16 (by decide +kernel) rfl⟩
theorem ml_X8_122 : Cond.methodLink RX8 122 yX8_goes ∈ sw_tb := sw_in 797 (by decide +kernel) rfl
theorem cV_X8_plans : sw_calV M_X8_plans 2 := ⟨⟨sw_in 792 (by decide +kernel) rfl, sw_in 10 (by decide +kernel) rfl, by decide +kernel⟩, sw_in 791 (by decide +kernel) rfl, sw_inP 14 (by decide +kernel) rfl⟩
theorem ml_X8_125 : Cond.methodLink RX8 125 yX8_plans ∈ sw_tb := sw_in 789 (by decide +kernel) rfl
theorem cV_X8_opens : sw_calV M_X8_opens 0 := ⟨⟨sw_in 828 (by decide +kernel) rfl, sw_in 10 (by decide +kernel) rfl, by decide +kernel⟩, sw_in 827 (by decide +kernel) rfl, sw_inP 17 (by decide +kernel) rfl⟩
theorem ml_X8_132 : Cond.methodLink RX8 132 yX8_opens ∈ sw_tb := sw_in 825 (by decide +kernel) rfl
theorem cV_X8_told : sw_calV M_X8_told 0 := ⟨⟨sw_in 840 (by decide +kernel) rfl, sw_in 10 (by decide +kernel) rfl, by decide +kernel⟩, sw_in 839 (by decide +kernel) rfl, sw_inP 19 (by decide +kernel) rfl⟩
theorem ml_X8_145 : Cond.methodLink RX8 145 yX8_told ∈ sw_tb := sw_in 837 (by decide +kernel) rfl
theorem cV_X8_brakes : sw_calV M_X8_brakes 0 := ⟨⟨sw_in 844 (by decide +kernel) rfl, sw_in 10 (by decide +kernel) rfl, by decide +kernel⟩, sw_in 843 (by decide +kernel) rfl, sw_inP 20 (by decide +kernel) rfl⟩
theorem ml_X8_151 : Cond.methodLink RX8 151 yX8_brakes ∈ sw_tb := sw_in 841 (by decide +kernel) rfl
theorem cV_X8_rides : sw_calV M_X8_rides 0 := ⟨⟨sw_in 836 (by decide +kernel) rfl, sw_in 10 (by decide +kernel) rfl, by decide +kernel⟩, sw_in 835 (by decide +kernel) rfl, sw_inP 18 (by decide +kernel) rfl⟩
theorem ml_X8_157 : Cond.methodLink RX8 157 yX8_rides ∈ sw_tb := sw_in 833 (by decide +kernel) rfl
theorem cV_X8_isSlipping : sw_calV M_X8_isSlipping 3 := ⟨⟨sw_in 864 (by decide +kernel) rfl, sw_in 10 (by decide +kernel) rfl, by decide +kernel⟩, sw_in 863 (by decide +kernel) rfl, sw_inP 21 (by decide +kernel) rfl⟩
theorem ml_X8_175 : Cond.methodLink RX8 175 yX8_isSlipping ∈ sw_tb := sw_in 861 (by decide +kernel) rfl
theorem cV_X8_firstSlip : sw_calV M_X8_firstSlip 3 := ⟨⟨sw_in 872 (by decide +kernel) rfl, sw_in 10 (by decide +kernel) rfl, by decide +kernel⟩, sw_in 871 (by decide +kernel) rfl, sw_inP 22 (by decide +kernel) rfl⟩
theorem ml_X8_178 : Cond.methodLink RX8 178 yX8_firstSlip ∈ sw_tb := sw_in 869 (by decide +kernel) rfl
theorem cV_X8_sumOf : sw_calV M_X8_sumOf 2 := ⟨⟨sw_in 892 (by decide +kernel) rfl, sw_in 10 (by decide +kernel) rfl, by decide +kernel⟩, sw_in 891 (by decide +kernel) rfl, sw_inP 24 (by decide +kernel) rfl⟩
theorem ml_X8_182 : Cond.methodLink RX8 182 yX8_sumOf ∈ sw_tb := sw_in 889 (by decide +kernel) rfl
theorem cV_X8_worstFrom : sw_calV M_X8_worstFrom 2 := ⟨⟨sw_in 888 (by decide +kernel) rfl, sw_in 10 (by decide +kernel) rfl, by decide +kernel⟩, sw_in 887 (by decide +kernel) rfl, sw_inP 23 (by decide +kernel) rfl⟩
theorem ml_X8_185 : Cond.methodLink RX8 185 yX8_worstFrom ∈ sw_tb := sw_in 885 (by decide +kernel) rfl
theorem cS_X8_areMen : sw_calS M_X8_areMen 3 := ⟨⟨sw_in 911 (by decide +kernel) rfl, sw_in 10 (by decide +kernel) rfl, by decide +kernel⟩, sw_in 910 (by decide +kernel) rfl⟩
theorem ml_X8_188 : Cond.methodLink RX8 188 yX8_areMen ∈ sw_tb := sw_in 909 (by decide +kernel) rfl
theorem cV_X8_logged : sw_calV M_X8_logged 0 := ⟨⟨sw_in 923 (by decide +kernel) rfl, sw_in 10 (by decide +kernel) rfl, by decide +kernel⟩, sw_in 922 (by decide +kernel) rfl, sw_inP 25 (by decide +kernel) rfl⟩
theorem ml_X8_191 : Cond.methodLink RX8 191 yX8_logged ∈ sw_tb := sw_in 920 (by decide +kernel) rfl
theorem cS_X8_isSheet : sw_calS M_X8_isSheet 1 := ⟨⟨sw_in 930 (by decide +kernel) rfl, sw_in 10 (by decide +kernel) rfl, by decide +kernel⟩, sw_in 929 (by decide +kernel) rfl⟩
theorem ml_X8_194 : Cond.methodLink RX8 194 yX8_isSheet ∈ sw_tb := sw_in 928 (by decide +kernel) rfl
theorem cV_X8_meets : sw_calV M_X8_meets 1 := ⟨⟨sw_in 934 (by decide +kernel) rfl, sw_in 10 (by decide +kernel) rfl, by decide +kernel⟩, sw_in 933 (by decide +kernel) rfl, sw_inP 26 (by decide +kernel) rfl⟩
theorem ml_X8_197 : Cond.methodLink RX8 197 yX8_meets ∈ sw_tb := sw_in 931 (by decide +kernel) rfl
theorem cV_X8_lacks : sw_calV M_X8_lacks 3 := ⟨⟨sw_in 946 (by decide +kernel) rfl, sw_in 10 (by decide +kernel) rfl, by decide +kernel⟩, sw_in 945 (by decide +kernel) rfl, sw_inP 27 (by decide +kernel) rfl⟩
theorem ml_X8_200 : Cond.methodLink RX8 200 yX8_lacks ∈ sw_tb := sw_in 943 (by decide +kernel) rfl
theorem cV_X8_lay : sw_calV M_X8_lay 3 := ⟨⟨sw_in 950 (by decide +kernel) rfl, sw_in 10 (by decide +kernel) rfl, by decide +kernel⟩, sw_in 949 (by decide +kernel) rfl, sw_inP 28 (by decide +kernel) rfl⟩
theorem ml_X8_203 : Cond.methodLink RX8 203 yX8_lay ∈ sw_tb := sw_in 947 (by decide +kernel) rfl
theorem cV_X8_fits : sw_calV M_X8_fits 3 := ⟨⟨sw_in 979 (by decide +kernel) rfl, sw_in 10 (by decide +kernel) rfl, by decide +kernel⟩, sw_in 978 (by decide +kernel) rfl, sw_inP 29 (by decide +kernel) rfl⟩
theorem ml_X8_208 : Cond.methodLink RX8 208 yX8_fits ∈ sw_tb := sw_in 976 (by decide +kernel) rfl
theorem cV_X8_state : sw_calV M_X8_state 1 := ⟨⟨sw_in 848 (by decide +kernel) rfl, sw_in 10 (by decide +kernel) rfl, by decide +kernel⟩, sw_in 846 (by decide +kernel) rfl, sw_in 847 (by decide +kernel) rfl⟩
theorem ml_X8_215 : Cond.methodLink RX8 215 yX8_state ∈ sw_tb := sw_in 986 (by decide +kernel) rfl
theorem cV_X7_shaft : sw_calV M_X7_shaft 3 := ⟨⟨sw_in 262 (by decide +kernel) rfl, sw_in 1 (by decide +kernel) rfl, by decide +kernel⟩, sw_in 260 (by decide +kernel) rfl, sw_in 261 (by decide +kernel) rfl⟩
theorem ml_L_13 : Cond.methodLink RL 13 yX7_shaft ∈ sw_tb := sw_in 259 (by decide +kernel) rfl
theorem cV_X8_shaft : sw_calV M_X8_shaft 3 := ⟨⟨sw_in 753 (by decide +kernel) rfl, sw_in 10 (by decide +kernel) rfl, by decide +kernel⟩, sw_in 751 (by decide +kernel) rfl, sw_in 752 (by decide +kernel) rfl⟩
theorem ml_L_17 : Cond.methodLink RL 17 yX8_shaft ∈ sw_tb := sw_in 750 (by decide +kernel) rfl
theorem cV_X7_zone : sw_calV M_X7_zone 3 := ⟨⟨sw_in 275 (by decide +kernel) rfl, sw_in 1 (by decide +kernel) rfl, by decide +kernel⟩, sw_in 273 (by decide +kernel) rfl, sw_in 274 (by decide +kernel) rfl⟩
theorem ml_L_18 : Cond.methodLink RL 18 yX7_zone ∈ sw_tb := sw_in 272 (by decide +kernel) rfl
theorem cV_X8_zone : sw_calV M_X8_zone 3 := ⟨⟨sw_in 760 (by decide +kernel) rfl, sw_in 10 (by decide +kernel) rfl, by decide +kernel⟩, sw_in 758 (by decide +kernel) rfl, sw_in 759 (by decide +kernel) rfl⟩
theorem ml_L_21 : Cond.methodLink RL 21 yX8_zone ∈ sw_tb := sw_in 757 (by decide +kernel) rfl
theorem cV_X7_stop : sw_calV M_X7_stop 2 := ⟨⟨sw_in 293 (by decide +kernel) rfl, sw_in 1 (by decide +kernel) rfl, by decide +kernel⟩, sw_in 291 (by decide +kernel) rfl, sw_in 292 (by decide +kernel) rfl⟩
theorem ml_L_22 : Cond.methodLink RL 22 yX7_stop ∈ sw_tb := sw_in 290 (by decide +kernel) rfl
theorem cV_X8_stop : sw_calV M_X8_stop 2 := ⟨⟨sw_in 768 (by decide +kernel) rfl, sw_in 10 (by decide +kernel) rfl, by decide +kernel⟩, sw_in 766 (by decide +kernel) rfl, sw_in 767 (by decide +kernel) rfl⟩
theorem ml_L_26 : Cond.methodLink RL 26 yX8_stop ∈ sw_tb := sw_in 765 (by decide +kernel) rfl
theorem cV_X7_most : sw_calV M_X7_most 2 := ⟨⟨sw_in 297 (by decide +kernel) rfl, sw_in 1 (by decide +kernel) rfl, by decide +kernel⟩, sw_in 295 (by decide +kernel) rfl, sw_in 296 (by decide +kernel) rfl⟩
theorem ml_L_27 : Cond.methodLink RL 27 yX7_most ∈ sw_tb := sw_in 294 (by decide +kernel) rfl
theorem cV_X8_most : sw_calV M_X8_most 2 := ⟨⟨sw_in 772 (by decide +kernel) rfl, sw_in 10 (by decide +kernel) rfl, by decide +kernel⟩, sw_in 770 (by decide +kernel) rfl, sw_in 771 (by decide +kernel) rfl⟩
theorem ml_L_30 : Cond.methodLink RL 30 yX8_most ∈ sw_tb := sw_in 769 (by decide +kernel) rfl
theorem cV_X7_ticks : sw_calV M_X7_ticks 1 := ⟨⟨sw_in 306 (by decide +kernel) rfl, sw_in 1 (by decide +kernel) rfl, by decide +kernel⟩, sw_in 304 (by decide +kernel) rfl, sw_in 305 (by decide +kernel) rfl⟩
theorem ml_L_31 : Cond.methodLink RL 31 yX7_ticks ∈ sw_tb := sw_in 303 (by decide +kernel) rfl
theorem cV_X8_ticks : sw_calV M_X8_ticks 1 := ⟨⟨sw_in 788 (by decide +kernel) rfl, sw_in 10 (by decide +kernel) rfl, by decide +kernel⟩, sw_in 786 (by decide +kernel) rfl, sw_in 787 (by decide +kernel) rfl⟩
theorem ml_L_35 : Cond.methodLink RL 35 yX8_ticks ∈ sw_tb := sw_in 785 (by decide +kernel) rfl
theorem cV_X7_speed : sw_calV M_X7_speed 2 := ⟨⟨sw_in 338 (by decide +kernel) rfl, sw_in 1 (by decide +kernel) rfl, by decide +kernel⟩, sw_in 336 (by decide +kernel) rfl, sw_in 337 (by decide +kernel) rfl⟩
theorem ml_L_36 : Cond.methodLink RL 36 yX7_speed ∈ sw_tb := sw_in 335 (by decide +kernel) rfl
theorem cV_X8_speed : sw_calV M_X8_speed 2 := ⟨⟨sw_in 804 (by decide +kernel) rfl, sw_in 10 (by decide +kernel) rfl, by decide +kernel⟩, sw_in 802 (by decide +kernel) rfl, sw_in 803 (by decide +kernel) rfl⟩
theorem ml_L_39 : Cond.methodLink RL 39 yX8_speed ∈ sw_tb := sw_in 801 (by decide +kernel) rfl
theorem cV_X7_ring : sw_calV M_X7_ring 1 := ⟨⟨sw_in 351 (by decide +kernel) rfl, sw_in 1 (by decide +kernel) rfl, by decide +kernel⟩, sw_in 349 (by decide +kernel) rfl, sw_in 350 (by decide +kernel) rfl⟩
theorem ml_L_40 : Cond.methodLink RL 40 yX7_ring ∈ sw_tb := sw_in 348 (by decide +kernel) rfl
theorem cV_X8_ring : sw_calV M_X8_ring 1 := ⟨⟨sw_in 808 (by decide +kernel) rfl, sw_in 10 (by decide +kernel) rfl, by decide +kernel⟩, sw_in 806 (by decide +kernel) rfl, sw_in 807 (by decide +kernel) rfl⟩
theorem ml_L_43 : Cond.methodLink RL 43 yX8_ring ∈ sw_tb := sw_in 805 (by decide +kernel) rfl
theorem cV_X7_link : sw_calV M_X7_link 2 := ⟨⟨sw_in 355 (by decide +kernel) rfl, sw_in 1 (by decide +kernel) rfl, by decide +kernel⟩, sw_in 353 (by decide +kernel) rfl, sw_in 354 (by decide +kernel) rfl⟩
theorem ml_L_44 : Cond.methodLink RL 44 yX7_link ∈ sw_tb := sw_in 352 (by decide +kernel) rfl
theorem cV_X8_link : sw_calV M_X8_link 2 := ⟨⟨sw_in 812 (by decide +kernel) rfl, sw_in 10 (by decide +kernel) rfl, by decide +kernel⟩, sw_in 810 (by decide +kernel) rfl, sw_in 811 (by decide +kernel) rfl⟩
theorem ml_L_48 : Cond.methodLink RL 48 yX8_link ∈ sw_tb := sw_in 809 (by decide +kernel) rfl
theorem cV_X7_error : sw_calV M_X7_error 2 := ⟨⟨sw_in 359 (by decide +kernel) rfl, sw_in 1 (by decide +kernel) rfl, by decide +kernel⟩, sw_in 357 (by decide +kernel) rfl, sw_in 358 (by decide +kernel) rfl⟩
theorem ml_L_49 : Cond.methodLink RL 49 yX7_error ∈ sw_tb := sw_in 356 (by decide +kernel) rfl
theorem cV_X8_error : sw_calV M_X8_error 2 := ⟨⟨sw_in 816 (by decide +kernel) rfl, sw_in 10 (by decide +kernel) rfl, by decide +kernel⟩, sw_in 814 (by decide +kernel) rfl, sw_in 815 (by decide +kernel) rfl⟩
theorem ml_L_52 : Cond.methodLink RL 52 yX8_error ∈ sw_tb := sw_in 813 (by decide +kernel) rfl
theorem cV_X7_guard : sw_calV M_X7_guard 2 := ⟨⟨sw_in 363 (by decide +kernel) rfl, sw_in 1 (by decide +kernel) rfl, by decide +kernel⟩, sw_in 361 (by decide +kernel) rfl, sw_in 362 (by decide +kernel) rfl⟩
theorem ml_L_53 : Cond.methodLink RL 53 yX7_guard ∈ sw_tb := sw_in 360 (by decide +kernel) rfl
theorem cV_X8_guard : sw_calV M_X8_guard 2 := ⟨⟨sw_in 820 (by decide +kernel) rfl, sw_in 10 (by decide +kernel) rfl, by decide +kernel⟩, sw_in 818 (by decide +kernel) rfl, sw_in 819 (by decide +kernel) rfl⟩
theorem ml_L_56 : Cond.methodLink RL 56 yX8_guard ∈ sw_tb := sw_in 817 (by decide +kernel) rfl
theorem cV_X7_begin : sw_calV M_X7_begin 1 := ⟨⟨sw_in 367 (by decide +kernel) rfl, sw_in 1 (by decide +kernel) rfl, by decide +kernel⟩, sw_in 365 (by decide +kernel) rfl, sw_in 366 (by decide +kernel) rfl⟩
theorem ml_L_57 : Cond.methodLink RL 57 yX7_begin ∈ sw_tb := sw_in 364 (by decide +kernel) rfl
theorem cV_X8_begin : sw_calV M_X8_begin 1 := ⟨⟨sw_in 824 (by decide +kernel) rfl, sw_in 10 (by decide +kernel) rfl, by decide +kernel⟩, sw_in 822 (by decide +kernel) rfl, sw_in 823 (by decide +kernel) rfl⟩
theorem ml_L_60 : Cond.methodLink RL 60 yX8_begin ∈ sw_tb := sw_in 821 (by decide +kernel) rfl
theorem cV_X7_pass : sw_calV M_X7_pass 1 := ⟨⟨sw_in 379 (by decide +kernel) rfl, sw_in 1 (by decide +kernel) rfl, by decide +kernel⟩, sw_in 377 (by decide +kernel) rfl, sw_in 378 (by decide +kernel) rfl⟩
theorem ml_L_61 : Cond.methodLink RL 61 yX7_pass ∈ sw_tb := sw_in 376 (by decide +kernel) rfl
theorem cV_X8_pass : sw_calV M_X8_pass 1 := ⟨⟨sw_in 832 (by decide +kernel) rfl, sw_in 10 (by decide +kernel) rfl, by decide +kernel⟩, sw_in 830 (by decide +kernel) rfl, sw_in 831 (by decide +kernel) rfl⟩
theorem ml_L_64 : Cond.methodLink RL 64 yX8_pass ∈ sw_tb := sw_in 829 (by decide +kernel) rfl
theorem ml_L_65 : Cond.methodLink RL 65 yX7_state ∈ sw_tb := sw_in 420 (by decide +kernel) rfl
theorem ml_L_68 : Cond.methodLink RL 68 yX8_state ∈ sw_tb := sw_in 845 (by decide +kernel) rfl
theorem cV_X7_loads : sw_calV M_X7_loads 3 := ⟨⟨sw_in 432 (by decide +kernel) rfl, sw_in 1 (by decide +kernel) rfl, by decide +kernel⟩, sw_in 430 (by decide +kernel) rfl, sw_in 431 (by decide +kernel) rfl⟩
theorem ml_L_69 : Cond.methodLink RL 69 yX7_loads ∈ sw_tb := sw_in 429 (by decide +kernel) rfl
theorem cV_X8_loads : sw_calV M_X8_loads 3 := ⟨⟨sw_in 852 (by decide +kernel) rfl, sw_in 10 (by decide +kernel) rfl, by decide +kernel⟩, sw_in 850 (by decide +kernel) rfl, sw_in 851 (by decide +kernel) rfl⟩
theorem ml_L_72 : Cond.methodLink RL 72 yX8_loads ∈ sw_tb := sw_in 849 (by decide +kernel) rfl
theorem cV_X7_ratio : sw_calV M_X7_ratio 1 := ⟨⟨sw_in 436 (by decide +kernel) rfl, sw_in 1 (by decide +kernel) rfl, by decide +kernel⟩, sw_in 434 (by decide +kernel) rfl, sw_in 435 (by decide +kernel) rfl⟩
theorem ml_L_73 : Cond.methodLink RL 73 yX7_ratio ∈ sw_tb := sw_in 433 (by decide +kernel) rfl
theorem cV_X8_ratio : sw_calV M_X8_ratio 1 := ⟨⟨sw_in 856 (by decide +kernel) rfl, sw_in 10 (by decide +kernel) rfl, by decide +kernel⟩, sw_in 854 (by decide +kernel) rfl, sw_in 855 (by decide +kernel) rfl⟩
theorem ml_L_76 : Cond.methodLink RL 76 yX8_ratio ∈ sw_tb := sw_in 853 (by decide +kernel) rfl
theorem cV_X7_slips : sw_calV M_X7_slips 2 := ⟨⟨sw_in 440 (by decide +kernel) rfl, sw_in 1 (by decide +kernel) rfl, by decide +kernel⟩, sw_in 438 (by decide +kernel) rfl, sw_in 439 (by decide +kernel) rfl⟩
theorem ml_L_77 : Cond.methodLink RL 77 yX7_slips ∈ sw_tb := sw_in 437 (by decide +kernel) rfl
theorem cV_X8_slips : sw_calV M_X8_slips 2 := ⟨⟨sw_in 860 (by decide +kernel) rfl, sw_in 10 (by decide +kernel) rfl, by decide +kernel⟩, sw_in 858 (by decide +kernel) rfl, sw_in 859 (by decide +kernel) rfl⟩
theorem ml_L_80 : Cond.methodLink RL 80 yX8_slips ∈ sw_tb := sw_in 857 (by decide +kernel) rfl
theorem cV_X7_slipAt : sw_calV M_X7_slipAt 1 := ⟨⟨sw_in 450 (by decide +kernel) rfl, sw_in 1 (by decide +kernel) rfl, by decide +kernel⟩, sw_in 448 (by decide +kernel) rfl, sw_in 449 (by decide +kernel) rfl⟩
theorem ml_L_81 : Cond.methodLink RL 81 yX7_slipAt ∈ sw_tb := sw_in 447 (by decide +kernel) rfl
theorem cV_X8_slipAt : sw_calV M_X8_slipAt 1 := ⟨⟨sw_in 868 (by decide +kernel) rfl, sw_in 10 (by decide +kernel) rfl, by decide +kernel⟩, sw_in 866 (by decide +kernel) rfl, sw_in 867 (by decide +kernel) rfl⟩
theorem ml_L_84 : Cond.methodLink RL 84 yX8_slipAt ∈ sw_tb := sw_in 865 (by decide +kernel) rfl
theorem cV_X7_hold : sw_calV M_X7_hold 1 := ⟨⟨sw_in 459 (by decide +kernel) rfl, sw_in 1 (by decide +kernel) rfl, by decide +kernel⟩, sw_in 457 (by decide +kernel) rfl, sw_in 458 (by decide +kernel) rfl⟩
theorem ml_L_85 : Cond.methodLink RL 85 yX7_hold ∈ sw_tb := sw_in 456 (by decide +kernel) rfl
theorem cV_X8_hold : sw_calV M_X8_hold 1 := ⟨⟨sw_in 876 (by decide +kernel) rfl, sw_in 10 (by decide +kernel) rfl, by decide +kernel⟩, sw_in 874 (by decide +kernel) rfl, sw_in 875 (by decide +kernel) rfl⟩
theorem ml_L_88 : Cond.methodLink RL 88 yX8_hold ∈ sw_tb := sw_in 873 (by decide +kernel) rfl
theorem cV_X7_broken : sw_calV M_X7_broken 2 := ⟨⟨sw_in 467 (by decide +kernel) rfl, sw_in 1 (by decide +kernel) rfl, by decide +kernel⟩, sw_in 465 (by decide +kernel) rfl, sw_in 466 (by decide +kernel) rfl⟩
theorem ml_L_89 : Cond.methodLink RL 89 yX7_broken ∈ sw_tb := sw_in 464 (by decide +kernel) rfl
theorem cV_X8_broken : sw_calV M_X8_broken 2 := ⟨⟨sw_in 880 (by decide +kernel) rfl, sw_in 10 (by decide +kernel) rfl, by decide +kernel⟩, sw_in 878 (by decide +kernel) rfl, sw_in 879 (by decide +kernel) rfl⟩
theorem ml_L_92 : Cond.methodLink RL 92 yX8_broken ∈ sw_tb := sw_in 877 (by decide +kernel) rfl
theorem cV_X7_worst : sw_calV M_X7_worst 1 := ⟨⟨sw_in 476 (by decide +kernel) rfl, sw_in 1 (by decide +kernel) rfl, by decide +kernel⟩, sw_in 474 (by decide +kernel) rfl, sw_in 475 (by decide +kernel) rfl⟩
theorem ml_L_93 : Cond.methodLink RL 93 yX7_worst ∈ sw_tb := sw_in 473 (by decide +kernel) rfl
theorem cV_X8_worst : sw_calV M_X8_worst 1 := ⟨⟨sw_in 884 (by decide +kernel) rfl, sw_in 10 (by decide +kernel) rfl, by decide +kernel⟩, sw_in 882 (by decide +kernel) rfl, sw_in 883 (by decide +kernel) rfl⟩
theorem ml_L_96 : Cond.methodLink RL 96 yX8_worst ∈ sw_tb := sw_in 881 (by decide +kernel) rfl
theorem cV_X7_worstAt : sw_calV M_X7_worstAt 1 := ⟨⟨sw_in 490 (by decide +kernel) rfl, sw_in 1 (by decide +kernel) rfl, by decide +kernel⟩, sw_in 488 (by decide +kernel) rfl, sw_in 489 (by decide +kernel) rfl⟩
theorem ml_L_97 : Cond.methodLink RL 97 yX7_worstAt ∈ sw_tb := sw_in 487 (by decide +kernel) rfl
theorem cV_X8_worstAt : sw_calV M_X8_worstAt 1 := ⟨⟨sw_in 896 (by decide +kernel) rfl, sw_in 10 (by decide +kernel) rfl, by decide +kernel⟩, sw_in 894 (by decide +kernel) rfl, sw_in 895 (by decide +kernel) rfl⟩
theorem ml_L_100 : Cond.methodLink RL 100 yX8_worstAt ∈ sw_tb := sw_in 893 (by decide +kernel) rfl
theorem cV_X7_cut : sw_calV M_X7_cut 1 := ⟨⟨sw_in 494 (by decide +kernel) rfl, sw_in 1 (by decide +kernel) rfl, by decide +kernel⟩, sw_in 492 (by decide +kernel) rfl, sw_in 493 (by decide +kernel) rfl⟩
theorem ml_L_101 : Cond.methodLink RL 101 yX7_cut ∈ sw_tb := sw_in 491 (by decide +kernel) rfl
theorem cV_X8_cut : sw_calV M_X8_cut 1 := ⟨⟨sw_in 900 (by decide +kernel) rfl, sw_in 10 (by decide +kernel) rfl, by decide +kernel⟩, sw_in 898 (by decide +kernel) rfl, sw_in 899 (by decide +kernel) rfl⟩
theorem ml_L_104 : Cond.methodLink RL 104 yX8_cut ∈ sw_tb := sw_in 897 (by decide +kernel) rfl
theorem cV_X7_mend : sw_calV M_X7_mend 2 := ⟨⟨sw_in 502 (by decide +kernel) rfl, sw_in 1 (by decide +kernel) rfl, by decide +kernel⟩, sw_in 500 (by decide +kernel) rfl, sw_in 501 (by decide +kernel) rfl⟩
theorem ml_L_105 : Cond.methodLink RL 105 yX7_mend ∈ sw_tb := sw_in 499 (by decide +kernel) rfl
theorem cV_X8_mend : sw_calV M_X8_mend 2 := ⟨⟨sw_in 904 (by decide +kernel) rfl, sw_in 10 (by decide +kernel) rfl, by decide +kernel⟩, sw_in 902 (by decide +kernel) rfl, sw_in 903 (by decide +kernel) rfl⟩
theorem ml_L_108 : Cond.methodLink RL 108 yX8_mend ∈ sw_tb := sw_in 901 (by decide +kernel) rfl
theorem cV_X7_shift : sw_calV M_X7_shift 4 := ⟨⟨sw_in 510 (by decide +kernel) rfl, sw_in 1 (by decide +kernel) rfl, by decide +kernel⟩, sw_in 508 (by decide +kernel) rfl, sw_in 509 (by decide +kernel) rfl⟩
theorem ml_L_109 : Cond.methodLink RL 109 yX7_shift ∈ sw_tb := sw_in 507 (by decide +kernel) rfl
theorem cV_X8_shift : sw_calV M_X8_shift 4 := ⟨⟨sw_in 908 (by decide +kernel) rfl, sw_in 10 (by decide +kernel) rfl, by decide +kernel⟩, sw_in 906 (by decide +kernel) rfl, sw_in 907 (by decide +kernel) rfl⟩
theorem ml_L_113 : Cond.methodLink RL 113 yX8_shift ∈ sw_tb := sw_in 905 (by decide +kernel) rfl
theorem cV_X7_both : sw_calV M_X7_both 3 := ⟨⟨sw_in 520 (by decide +kernel) rfl, sw_in 1 (by decide +kernel) rfl, by decide +kernel⟩, sw_in 518 (by decide +kernel) rfl, sw_in 519 (by decide +kernel) rfl⟩
theorem ml_L_114 : Cond.methodLink RL 114 yX7_both ∈ sw_tb := sw_in 517 (by decide +kernel) rfl
theorem cV_X8_both : sw_calV M_X8_both 3 := ⟨⟨sw_in 915 (by decide +kernel) rfl, sw_in 10 (by decide +kernel) rfl, by decide +kernel⟩, sw_in 913 (by decide +kernel) rfl, sw_in 914 (by decide +kernel) rfl⟩
theorem ml_L_117 : Cond.methodLink RL 117 yX8_both ∈ sw_tb := sw_in 912 (by decide +kernel) rfl
theorem cV_X7_log : sw_calV M_X7_log 2 := ⟨⟨sw_in 524 (by decide +kernel) rfl, sw_in 1 (by decide +kernel) rfl, by decide +kernel⟩, sw_in 522 (by decide +kernel) rfl, sw_in 523 (by decide +kernel) rfl⟩
theorem ml_L_118 : Cond.methodLink RL 118 yX7_log ∈ sw_tb := sw_in 521 (by decide +kernel) rfl
theorem cV_X8_log : sw_calV M_X8_log 2 := ⟨⟨sw_in 919 (by decide +kernel) rfl, sw_in 10 (by decide +kernel) rfl, by decide +kernel⟩, sw_in 917 (by decide +kernel) rfl, sw_in 918 (by decide +kernel) rfl⟩
theorem ml_L_121 : Cond.methodLink RL 121 yX8_log ∈ sw_tb := sw_in 916 (by decide +kernel) rfl
theorem cV_X7_sheet : sw_calV M_X7_sheet 3 := ⟨⟨sw_in 537 (by decide +kernel) rfl, sw_in 1 (by decide +kernel) rfl, by decide +kernel⟩, sw_in 535 (by decide +kernel) rfl, sw_in 536 (by decide +kernel) rfl⟩
theorem ml_L_122 : Cond.methodLink RL 122 yX7_sheet ∈ sw_tb := sw_in 534 (by decide +kernel) rfl
theorem cV_X8_sheet : sw_calV M_X8_sheet 3 := ⟨⟨sw_in 927 (by decide +kernel) rfl, sw_in 10 (by decide +kernel) rfl, by decide +kernel⟩, sw_in 925 (by decide +kernel) rfl, sw_in 926 (by decide +kernel) rfl⟩
theorem ml_L_125 : Cond.methodLink RL 125 yX8_sheet ∈ sw_tb := sw_in 924 (by decide +kernel) rfl
theorem cV_X7_lose : sw_calV M_X7_lose 1 := ⟨⟨sw_in 556 (by decide +kernel) rfl, sw_in 1 (by decide +kernel) rfl, by decide +kernel⟩, sw_in 554 (by decide +kernel) rfl, sw_in 555 (by decide +kernel) rfl⟩
theorem ml_L_126 : Cond.methodLink RL 126 yX7_lose ∈ sw_tb := sw_in 553 (by decide +kernel) rfl
theorem cV_X8_lose : sw_calV M_X8_lose 1 := ⟨⟨sw_in 938 (by decide +kernel) rfl, sw_in 10 (by decide +kernel) rfl, by decide +kernel⟩, sw_in 936 (by decide +kernel) rfl, sw_in 937 (by decide +kernel) rfl⟩
theorem ml_L_129 : Cond.methodLink RL 129 yX8_lose ∈ sw_tb := sw_in 935 (by decide +kernel) rfl
theorem cV_X7_put : sw_calV M_X7_put 4 := ⟨⟨sw_in 560 (by decide +kernel) rfl, sw_in 1 (by decide +kernel) rfl, by decide +kernel⟩, sw_in 558 (by decide +kernel) rfl, sw_in 559 (by decide +kernel) rfl⟩
theorem ml_L_130 : Cond.methodLink RL 130 yX7_put ∈ sw_tb := sw_in 557 (by decide +kernel) rfl
theorem cV_X8_put : sw_calV M_X8_put 4 := ⟨⟨sw_in 942 (by decide +kernel) rfl, sw_in 10 (by decide +kernel) rfl, by decide +kernel⟩, sw_in 940 (by decide +kernel) rfl, sw_in 941 (by decide +kernel) rfl⟩
theorem ml_L_133 : Cond.methodLink RL 133 yX8_put ∈ sw_tb := sw_in 939 (by decide +kernel) rfl
theorem cV_X7_get : sw_calV M_X7_get 3 := ⟨⟨sw_in 575 (by decide +kernel) rfl, sw_in 1 (by decide +kernel) rfl, by decide +kernel⟩, sw_in 573 (by decide +kernel) rfl, sw_in 574 (by decide +kernel) rfl⟩
theorem ml_L_134 : Cond.methodLink RL 134 yX7_get ∈ sw_tb := sw_in 572 (by decide +kernel) rfl
theorem cV_X8_get : sw_calV M_X8_get 3 := ⟨⟨sw_in 954 (by decide +kernel) rfl, sw_in 10 (by decide +kernel) rfl, by decide +kernel⟩, sw_in 952 (by decide +kernel) rfl, sw_in 953 (by decide +kernel) rfl⟩
theorem ml_L_137 : Cond.methodLink RL 137 yX8_get ∈ sw_tb := sw_in 951 (by decide +kernel) rfl
theorem cV_X7_copy : sw_calV M_X7_copy 5 := ⟨⟨sw_in 580 (by decide +kernel) rfl, sw_in 1 (by decide +kernel) rfl, by decide +kernel⟩, sw_in 578 (by decide +kernel) rfl, sw_in 579 (by decide +kernel) rfl⟩
theorem ml_L_138 : Cond.methodLink RL 138 yX7_copy ∈ sw_tb := sw_in 577 (by decide +kernel) rfl
theorem cV_X8_copy : sw_calV M_X8_copy 5 := ⟨⟨sw_in 959 (by decide +kernel) rfl, sw_in 10 (by decide +kernel) rfl, by decide +kernel⟩, sw_in 957 (by decide +kernel) rfl, sw_in 958 (by decide +kernel) rfl⟩
theorem ml_L_142 : Cond.methodLink RL 142 yX8_copy ∈ sw_tb := sw_in 956 (by decide +kernel) rfl
theorem cV_X7_read : sw_calV M_X7_read 1 := ⟨⟨sw_in 587 (by decide +kernel) rfl, sw_in 1 (by decide +kernel) rfl, by decide +kernel⟩, sw_in 585 (by decide +kernel) rfl, sw_in 586 (by decide +kernel) rfl⟩
theorem ml_L_143 : Cond.methodLink RL 143 yX7_read ∈ sw_tb := sw_in 584 (by decide +kernel) rfl
theorem cV_X8_read : sw_calV M_X8_read 1 := ⟨⟨sw_in 963 (by decide +kernel) rfl, sw_in 10 (by decide +kernel) rfl, by decide +kernel⟩, sw_in 961 (by decide +kernel) rfl, sw_in 962 (by decide +kernel) rfl⟩
theorem ml_L_146 : Cond.methodLink RL 146 yX8_read ∈ sw_tb := sw_in 960 (by decide +kernel) rfl
theorem cV_X7_write : sw_calV M_X7_write 2 := ⟨⟨sw_in 595 (by decide +kernel) rfl, sw_in 1 (by decide +kernel) rfl, by decide +kernel⟩, sw_in 593 (by decide +kernel) rfl, sw_in 594 (by decide +kernel) rfl⟩
theorem ml_L_147 : Cond.methodLink RL 147 yX7_write ∈ sw_tb := sw_in 592 (by decide +kernel) rfl
theorem cV_X8_write : sw_calV M_X8_write 2 := ⟨⟨sw_in 967 (by decide +kernel) rfl, sw_in 10 (by decide +kernel) rfl, by decide +kernel⟩, sw_in 965 (by decide +kernel) rfl, sw_in 966 (by decide +kernel) rfl⟩
theorem ml_L_150 : Cond.methodLink RL 150 yX8_write ∈ sw_tb := sw_in 964 (by decide +kernel) rfl
theorem cV_X7_plan : sw_calV M_X7_plan 2 := ⟨⟨sw_in 600 (by decide +kernel) rfl, sw_in 1 (by decide +kernel) rfl, by decide +kernel⟩, sw_in 598 (by decide +kernel) rfl, sw_in 599 (by decide +kernel) rfl⟩
theorem ml_L_151 : Cond.methodLink RL 151 yX7_plan ∈ sw_tb := sw_in 597 (by decide +kernel) rfl
theorem cV_X8_plan : sw_calV M_X8_plan 2 := ⟨⟨sw_in 971 (by decide +kernel) rfl, sw_in 10 (by decide +kernel) rfl, by decide +kernel⟩, sw_in 969 (by decide +kernel) rfl, sw_in 970 (by decide +kernel) rfl⟩
theorem ml_L_154 : Cond.methodLink RL 154 yX8_plan ∈ sw_tb := sw_in 968 (by decide +kernel) rfl
theorem cV_X7_check : sw_calV M_X7_check 1 := ⟨⟨sw_in 604 (by decide +kernel) rfl, sw_in 1 (by decide +kernel) rfl, by decide +kernel⟩, sw_in 602 (by decide +kernel) rfl, sw_in 603 (by decide +kernel) rfl⟩
theorem ml_L_155 : Cond.methodLink RL 155 yX7_check ∈ sw_tb := sw_in 601 (by decide +kernel) rfl
theorem cV_X8_check : sw_calV M_X8_check 1 := ⟨⟨sw_in 975 (by decide +kernel) rfl, sw_in 10 (by decide +kernel) rfl, by decide +kernel⟩, sw_in 973 (by decide +kernel) rfl, sw_in 974 (by decide +kernel) rfl⟩
theorem ml_L_158 : Cond.methodLink RL 158 yX8_check ∈ sw_tb := sw_in 972 (by decide +kernel) rfl
theorem cV_X7_digest : sw_calV M_X7_digest 0 := ⟨⟨sw_in 619 (by decide +kernel) rfl, sw_in 1 (by decide +kernel) rfl, by decide +kernel⟩, sw_in 617 (by decide +kernel) rfl, sw_in 618 (by decide +kernel) rfl⟩
theorem ml_L_159 : Cond.methodLink RL 159 yX7_digest ∈ sw_tb := sw_in 616 (by decide +kernel) rfl
theorem cV_X8_digest : sw_calV M_X8_digest 0 := ⟨⟨sw_in 983 (by decide +kernel) rfl, sw_in 10 (by decide +kernel) rfl, by decide +kernel⟩, sw_in 981 (by decide +kernel) rfl, sw_in 982 (by decide +kernel) rfl⟩
theorem ml_L_163 : Cond.methodLink RL 163 yX8_digest ∈ sw_tb := sw_in 980 (by decide +kernel) rfl
end
section
theorem sw_conF {ly : sw_Ly} {ρ : sw_Rf} {M : sw_M} {args : List sw_Vl} {σ : sw_S} {Q : Option sw_Vl → sw_S → Prop} (hy : plainFor M.1 = true) (hw : sw_wd args ≤ M.2.2.1) (hE : sw_E ly ρ M 0 (sw_L0 0 args) [] σ Q) : sw_Con ly ρ M args σ Q := by
  intro l D c3 ad sz hj
  refine MetFree.of_bodySF (code := M.2.1) (maxLocals := M.2.2.1) (ret := M.2.2.2.1) hy ?_ ?_
  · intro args s m h hn
    obtain ⟨meth, c, h1, h2, h3, h4, h5, h6, -, -⟩ := Cond.code_spec hn (atoms_spec (ws := sw_ws M) h _ List.mem_cons_self)
    exact ⟨meth, c, h1, h2, h3, h4, h5, h6⟩
  · intro p e s m args' below meth c s₁ B hml hv _
    have hh0 : s₁.heap = s.heap := by rw [B.state]; rfl
    obtain ⟨rfl, hsz, hP, hK⟩ := hv
    subst hsz
    have hts := atoms_spec (ws := sw_ws M) B.pre
    have hl := lv_entry (args.map (sw_tv ad)) (n := M.2.2.1) (by rw [sw_wd_sl]; exact hw)
    rw [sw_L0_tl] at hl
    have hb := hE l D c3 ad p e s m _ below meth c s.heap [] _ ⟨B.exec, B.bytes, B.returns, hml, findClass_of_methodNamed B.named, fun w hw => hts w (List.mem_cons_of_mem _ hw), B.notSynchronized, hK, hj⟩ hP va_S.rf hl
    rw [lg_entry_eq]
    obtain ⟨t, a1, o, b1, b2, b3⟩ := hb s₁ hh0 (Stand.of_body B)
    exact ⟨t, o, a1, b1, b2, ⟨b3.1, b3.2⟩⟩
def sw_ly : sw_Ly := [(7, 0), (3, 0), (100, 401), (1, 0), (100, 8421), (6, 0), (5, 0), (100, 120), (101, 8), (100, 3), (100, 400), (2, 0), (0, 0), (100, 60), (102, 4), (4, 0), (100, 60), (4, 0), (100, 60), (4, 0), (100, 60), (4, 0), (100, 60), (100, 6), (100, 6), (100, 400), (8, 0), (100, 6), (100, 6), (100, 6), (100, 6), (100, 6), (101, 8), (100, 3), (100, 600), (100, 401), (100, 16441), (100, 16441), (100, 600), (100, 120), (100, 60), (101, 4), (100, 4), (100, 4), (100, 240), (100, 60)]
def sw_rl : List (List (Option Nat)) := [[some 1, some 3, some 5, some 11, some 12, some 14, some 23, some 24, none, none, some 25], [none, none, none, none, some 2], [], [some 1, some 4], [], [some 1, some 6, some 8, some 9, some 10], [some 7], [], [], [], [], [some 1], [some 13], [], [some 15, some 17, some 19, some 21], [some 16], [], [some 18], [], [some 20], [], [some 22], [], [], [], [], [none, none, none, none, some 27, some 28, some 29, none, some 30, some 31, none, none, none, none, some 32, some 33, none, none, none, none, none, some 34, none, none, some 35, some 36, some 37, some 38, some 39, none, none, none, none, some 40, some 41, some 42, some 43, some 44, some 45], [], [], [], [], [], [], [], [], [], [], [], [], [], [], [], [], [], [], []]
def sw_rho : sw_Rf := fun i j => (sw_rl.getD i []).getD j none
theorem sp_min {ly : sw_Ly} {ρ : sw_Rf} (σ : sw_S) (x y : Int) (gx : sw_g x) (gy : sw_g y) : sw_Con ly ρ M_J9_min_7cf53 [.inl x, .inl y] σ (fun r σ' => σ = σ' ∧ r = some (.inl (min x y))) := by
  refine sw_conF (by decide +kernel) (Nat.le_of_ble_eq_true rfl) ?_
  refine sw_blk k_J9_min_7cf53 2 2 [(0, .inl x), (1, .inl y)] [.inl y, .inl x] σ rfl ?_
  refine sw_icmp_gt k_J9_min_7cf53 rfl (by omega) (by omega) 9 5 (by decide) rfl (fun c1 => ?_) (fun c1 => ?_)
  · refine sw_blk k_J9_min_7cf53 1 10 [(0, .inl x), (1, .inl y)] [.inl y] σ rfl ?_
    refine sw_ireturn k_J9_min_7cf53 rfl rfl ?_
    exact ⟨rfl, by rw [show min x y = y from by omega]⟩
  · refine sw_blk k_J9_min_7cf53 2 10 [(0, .inl x), (1, .inl y)] [.inl x] σ rfl ?_
    refine sw_ireturn k_J9_min_7cf53 rfl rfl ?_
    exact ⟨rfl, by rw [show min x y = x from by omega]⟩
theorem sp_max {ly : sw_Ly} {ρ : sw_Rf} (σ : sw_S) (x y : Int) (gx : sw_g x) (gy : sw_g y) : sw_Con ly ρ M_J9_max_7cf53 [.inl x, .inl y] σ (fun r σ' => σ = σ' ∧ r = some (.inl (max x y))) := by
  refine sw_conF (by decide +kernel) (Nat.le_of_ble_eq_true rfl) ?_
  refine sw_blk k_J9_max_7cf53 2 2 [(0, .inl x), (1, .inl y)] [.inl y, .inl x] σ rfl ?_
  refine sw_icmp_lt k_J9_max_7cf53 rfl (by omega) (by omega) 9 5 (by decide) rfl (fun c1 => ?_) (fun c1 => ?_)
  · refine sw_blk k_J9_max_7cf53 1 10 [(0, .inl x), (1, .inl y)] [.inl y] σ rfl ?_
    refine sw_ireturn k_J9_max_7cf53 rfl rfl ?_
    exact ⟨rfl, by rw [show max x y = y from by omega]⟩
  · refine sw_blk k_J9_max_7cf53 2 10 [(0, .inl x), (1, .inl y)] [.inl x] σ rfl ?_
    refine sw_ireturn k_J9_max_7cf53 rfl rfl ?_
    exact ⟨rfl, by rw [show max x y = x from by omega]⟩
def sw_abs (x : Int) : Int := if x < 0 then -x else x
theorem sp_abs {ly : sw_Ly} {ρ : sw_Rf} (σ : sw_S) (x : Int) (gx : sw_g x) : sw_Con ly ρ M_J9_abs_0f7a4 [.inl x] σ (fun r σ' => σ = σ' ∧ r = some (.inl (sw_abs x))) := by
  refine sw_conF (by decide +kernel) (Nat.le_of_ble_eq_true rfl) ?_
  refine sw_blk k_J9_abs_0f7a4 1 1 [(0, .inl x)] [.inl x] σ rfl ?_
  refine sw_if_ge k_J9_abs_0f7a4 rfl (by omega) 9 4 (by decide) rfl (fun c1 => ?_) (fun c1 => ?_)
  · refine sw_blk k_J9_abs_0f7a4 1 10 [(0, .inl x)] [.inl x] σ rfl ?_
    refine sw_ireturn k_J9_abs_0f7a4 rfl rfl ?_
    exact ⟨rfl, by rw [show sw_abs x = x from by unfold sw_abs; omega]⟩
  · refine sw_blk k_J9_abs_0f7a4 3 10 [(0, .inl x)] [.inl (-x)] σ rfl ?_
    refine sw_ireturn k_J9_abs_0f7a4 rfl rfl ?_
    exact ⟨rfl, by rw [show sw_abs x = (-x) from by unfold sw_abs; omega]⟩
theorem sp_floorMod {ly : sw_Ly} {ρ : sw_Rf} (σ : sw_S) (x y : Int) (gx : sw_g x) (gy : sw_g y) (h0 : 0 ≤ x) (hy : 0 < y) : sw_Con ly ρ M_J9_floorMod_7cf53 [.inl x, .inl y] σ (fun r σ' => σ = σ' ∧ r = some (.inl (x % y))) := by
  refine sw_conF (by decide +kernel) (Nat.le_of_ble_eq_true rfl) ?_
  refine sw_blk k_J9_floorMod_7cf53 2 2 [(0, .inl x), (1, .inl y)] [.inl y, .inl x] σ rfl ?_
  refine sw_irem k_J9_floorMod_7cf53 rfl (by omega) (by omega) (by omega) (by omega) 3 rfl ?_
  refine sw_blk k_J9_floorMod_7cf53 3 6 [(2, .inl (x % y)), (0, .inl x), (1, .inl y)] [.inl y, .inl x] σ rfl ?_
  refine sw_ixor k_J9_floorMod_7cf53 rfl (by omega) (by omega) (by omega) (by omega) 7 rfl (fun w1 h2 g3 => ?_)
  refine sw_if_ge k_J9_floorMod_7cf53 rfl (by omega) 18 10 (by decide) rfl (fun c4 => ?_) (fun c4 => ?_)
  · refine sw_blk k_J9_floorMod_7cf53 1 19 [(2, .inl (x % y)), (0, .inl x), (1, .inl y)] [.inl (x % y)] σ rfl ?_
    refine sw_ireturn k_J9_floorMod_7cf53 rfl rfl ?_
    exact ⟨rfl, rfl⟩
  · omega
theorem sp_within {ly : sw_Ly} {ρ : sw_Rf} (σ : sw_S) (n a b : Int) (gn : sw_g n) (ga : sw_g a) (gb : sw_g b) : sw_Con ly ρ M_X7_within [.inl n, .inl a, .inl b] σ (fun r σ' => σ = σ' ∧ ((a ≤ n ∧ n ≤ b) ∧ r = some (.inl 1) ∨ ¬ (a ≤ n ∧ n ≤ b) ∧ r = some (.inl 0))) := by
  refine sw_con (by decide) (Nat.le_of_ble_eq_true rfl) ?_
  refine sw_blk k_X7_within 2 2 [(0, .inl n), (1, .inl a), (2, .inl b)] [.inl a, .inl n] σ rfl ?_
  refine sw_icmp_lt k_X7_within rfl (by omega) (by omega) 14 5 (by decide) rfl (fun c1 => ?_) (fun c1 => ?_)
  · refine sw_blk k_X7_within 1 15 [(0, .inl n), (1, .inl a), (2, .inl b)] [.inl 0] σ rfl ?_
    refine sw_zreturn k_X7_within rfl rfl (by decide) ?_
    exact ⟨rfl, Or.inr ⟨by omega, rfl⟩⟩
  · refine sw_blk k_X7_within 2 7 [(0, .inl n), (1, .inl a), (2, .inl b)] [.inl b, .inl n] σ rfl ?_
    refine sw_icmp_gt k_X7_within rfl (by omega) (by omega) 14 10 (by decide) rfl (fun c2 => ?_) (fun c2 => ?_)
    · refine sw_blk k_X7_within 1 15 [(0, .inl n), (1, .inl a), (2, .inl b)] [.inl 0] σ rfl ?_
      refine sw_zreturn k_X7_within rfl rfl (by decide) ?_
      exact ⟨rfl, Or.inr ⟨by omega, rfl⟩⟩
    · refine sw_blk k_X7_within 2 15 [(0, .inl n), (1, .inl a), (2, .inl b)] [.inl 1] σ rfl ?_
      refine sw_zreturn k_X7_within rfl rfl (by decide) ?_
      exact ⟨rfl, Or.inl ⟨by omega, rfl⟩⟩
theorem sp_in {ly : sw_Ly} {ρ : sw_Rf} (σ : sw_S) (n a b : Int) (gn : sw_g n) (ga : sw_g a) (gb : sw_g b) : sw_Con ly ρ M_X8_in [.inl n, .inl a, .inl b] σ (fun r σ' => σ = σ' ∧ ((a ≤ n ∧ n ≤ b) ∧ r = some (.inl 1) ∨ ¬ (a ≤ n ∧ n ≤ b) ∧ r = some (.inl 0))) := by
  refine sw_con (by decide) (Nat.le_of_ble_eq_true rfl) ?_
  refine sw_blk k_X8_in 2 2 [(0, .inl n), (1, .inl a), (2, .inl b)] [.inl a, .inl n] σ rfl ?_
  refine sw_icmp_lt k_X8_in rfl (by omega) (by omega) 14 5 (by decide) rfl (fun c1 => ?_) (fun c1 => ?_)
  · refine sw_blk k_X8_in 1 15 [(0, .inl n), (1, .inl a), (2, .inl b)] [.inl 0] σ rfl ?_
    refine sw_zreturn k_X8_in rfl rfl (by decide) ?_
    exact ⟨rfl, Or.inr ⟨by omega, rfl⟩⟩
  · refine sw_blk k_X8_in 2 7 [(0, .inl n), (1, .inl a), (2, .inl b)] [.inl b, .inl n] σ rfl ?_
    refine sw_icmp_gt k_X8_in rfl (by omega) (by omega) 14 10 (by decide) rfl (fun c2 => ?_) (fun c2 => ?_)
    · refine sw_blk k_X8_in 1 15 [(0, .inl n), (1, .inl a), (2, .inl b)] [.inl 0] σ rfl ?_
      refine sw_zreturn k_X8_in rfl rfl (by decide) ?_
      exact ⟨rfl, Or.inr ⟨by omega, rfl⟩⟩
    · refine sw_blk k_X8_in 2 15 [(0, .inl n), (1, .inl a), (2, .inl b)] [.inl 1] σ rfl ?_
      refine sw_zreturn k_X8_in rfl rfl (by decide) ?_
      exact ⟨rfl, Or.inl ⟨by omega, rfl⟩⟩
theorem sp_isSheet {ly : sw_Ly} {ρ : sw_Rf} (σ : sw_S) (n : Int) (gn : sw_g n) : sw_Con ly ρ M_X7_isSheet [.inl n] σ (fun r σ' => σ = σ' ∧ ((0 ≤ n ∧ n ≤ 3) ∧ r = some (.inl 1) ∨ ¬ (0 ≤ n ∧ n ≤ 3) ∧ r = some (.inl 0))) := by
  refine sw_con (by decide) (Nat.le_of_ble_eq_true rfl) ?_
  refine sw_blk k_X7_isSheet 3 3 [(0, .inl n)] [.inl 3, .inl 0, .inl n] σ rfl ?_
  refine sw_callS k_X7_isSheet rfl cS_X7_within ml_X7_63 ⟨by decide, by decide⟩ [.inl n, .inl 0, .inl 3] [] rfl rfl (by decide) 6 rfl (sp_within σ n 0 3 (by omega) (by decide) (by decide)) (fun r2 σ3 hq4 => ?_)
  obtain ⟨rfl, ⟨p1, rfl⟩ | ⟨p1, rfl⟩⟩ := hq4
  · refine sw_blk k_X7_isSheet 0 6 [(0, .inl n)] [.inl 1] σ rfl ?_
    refine sw_zreturn k_X7_isSheet rfl rfl (by decide) ?_
    exact ⟨rfl, Or.inl ⟨by omega, rfl⟩⟩
  · refine sw_blk k_X7_isSheet 0 6 [(0, .inl n)] [.inl 0] σ rfl ?_
    refine sw_zreturn k_X7_isSheet rfl rfl (by decide) ?_
    exact ⟨rfl, Or.inr ⟨by omega, rfl⟩⟩
theorem sp_isForm {ly : sw_Ly} {ρ : sw_Rf} (σ : sw_S) (n : Int) (gn : sw_g n) : sw_Con ly ρ M_X7_isForm [.inl n] σ (fun r σ' => σ = σ' ∧ ((0 ≤ n ∧ n ≤ 2) ∧ r = some (.inl 1) ∨ ¬ (0 ≤ n ∧ n ≤ 2) ∧ r = some (.inl 0))) := by
  refine sw_con (by decide) (Nat.le_of_ble_eq_true rfl) ?_
  refine sw_blk k_X7_isForm 3 3 [(0, .inl n)] [.inl 2, .inl 0, .inl n] σ rfl ?_
  refine sw_callS k_X7_isForm rfl cS_X7_within ml_X7_63 ⟨by decide, by decide⟩ [.inl n, .inl 0, .inl 2] [] rfl rfl (by decide) 6 rfl (sp_within σ n 0 2 (by omega) (by decide) (by decide)) (fun r2 σ3 hq4 => ?_)
  obtain ⟨rfl, ⟨p1, rfl⟩ | ⟨p1, rfl⟩⟩ := hq4
  · refine sw_blk k_X7_isForm 0 6 [(0, .inl n)] [.inl 1] σ rfl ?_
    refine sw_zreturn k_X7_isForm rfl rfl (by decide) ?_
    exact ⟨rfl, Or.inl ⟨by omega, rfl⟩⟩
  · refine sw_blk k_X7_isForm 0 6 [(0, .inl n)] [.inl 0] σ rfl ?_
    refine sw_zreturn k_X7_isForm rfl rfl (by decide) ?_
    exact ⟨rfl, Or.inr ⟨by omega, rfl⟩⟩
theorem sp_mSheet {ly : sw_Ly} {ρ : sw_Rf} (σ : sw_S) (n : Int) (gn : sw_g n) : sw_Con ly ρ M_X8_isSheet [.inl n] σ (fun r σ' => σ = σ' ∧ ((0 ≤ n ∧ n ≤ 3) ∧ r = some (.inl 1) ∨ ¬ (0 ≤ n ∧ n ≤ 3) ∧ r = some (.inl 0))) := by
  refine sw_con (by decide) (Nat.le_of_ble_eq_true rfl) ?_
  refine sw_blk k_X8_isSheet 3 3 [(0, .inl n)] [.inl 3, .inl 0, .inl n] σ rfl ?_
  refine sw_callS k_X8_isSheet rfl cS_X8_in ml_X8_87 ⟨by decide, by decide⟩ [.inl n, .inl 0, .inl 3] [] rfl rfl (by decide) 6 rfl (sp_in σ n 0 3 (by omega) (by decide) (by decide)) (fun r2 σ3 hq4 => ?_)
  obtain ⟨rfl, ⟨p1, rfl⟩ | ⟨p1, rfl⟩⟩ := hq4
  · refine sw_blk k_X8_isSheet 0 6 [(0, .inl n)] [.inl 1] σ rfl ?_
    refine sw_zreturn k_X8_isSheet rfl rfl (by decide) ?_
    exact ⟨rfl, Or.inl ⟨by omega, rfl⟩⟩
  · refine sw_blk k_X8_isSheet 0 6 [(0, .inl n)] [.inl 0] σ rfl ?_
    refine sw_zreturn k_X8_isSheet rfl rfl (by decide) ?_
    exact ⟨rfl, Or.inr ⟨by omega, rfl⟩⟩
theorem sp_areMen {ly : sw_Ly} {ρ : sw_Rf} (σ : sw_S) (n c b : Int) (gn : sw_g n) (gc : sw_g c) (gb : sw_g b) : sw_Con ly ρ M_X7_areMen [.inl n, .inl c, .inl b] σ (fun r σ' => σ = σ' ∧ (((1 ≤ n ∧ n ≤ 500) ∧ (1 ≤ c ∧ c ≤ 50) ∧ (0 ≤ b ∧ b ≤ 100)) ∧ r = some (.inl 1) ∨ ¬ ((1 ≤ n ∧ n ≤ 500) ∧ (1 ≤ c ∧ c ≤ 50) ∧ (0 ≤ b ∧ b ≤ 100)) ∧ r = some (.inl 0))) := by
  refine sw_con (by decide) (Nat.le_of_ble_eq_true rfl) ?_
  refine sw_blk k_X7_areMen 3 5 [(0, .inl n), (1, .inl c), (2, .inl b)] [.inl 500, .inl 1, .inl n] σ rfl ?_
  refine sw_callS k_X7_areMen rfl cS_X7_within ml_X7_63 ⟨by decide, by decide⟩ [.inl n, .inl 1, .inl 500] [] rfl rfl (by decide) 8 rfl (sp_within σ n 1 500 (by omega) (by decide) (by decide)) (fun r2 σ3 hq4 => ?_)
  obtain ⟨rfl, ⟨p1, rfl⟩ | ⟨p1, rfl⟩⟩ := hq4
  · refine sw_blk k_X7_areMen 0 8 [(0, .inl n), (1, .inl c), (2, .inl b)] [.inl 1] σ rfl ?_
    refine sw_if_eq k_X7_areMen rfl (by decide) 35 11 (by decide) rfl (fun c => absurd c (by decide)) (fun _ => ?_)
    refine sw_blk k_X7_areMen 3 15 [(0, .inl n), (1, .inl c), (2, .inl b)] [.inl 50, .inl 1, .inl c] σ rfl ?_
    refine sw_callS k_X7_areMen rfl cS_X7_within ml_X7_63 ⟨by decide, by decide⟩ [.inl c, .inl 1, .inl 50] [] rfl rfl (by decide) 18 rfl (sp_within σ c 1 50 (by omega) (by decide) (by decide)) (fun r6 σ7 hq8 => ?_)
    obtain ⟨rfl, ⟨p5, rfl⟩ | ⟨p5, rfl⟩⟩ := hq8
    · refine sw_blk k_X7_areMen 0 18 [(0, .inl n), (1, .inl c), (2, .inl b)] [.inl 1] σ rfl ?_
      refine sw_if_eq k_X7_areMen rfl (by decide) 35 21 (by decide) rfl (fun c => absurd c (by decide)) (fun _ => ?_)
      refine sw_blk k_X7_areMen 3 25 [(0, .inl n), (1, .inl c), (2, .inl b)] [.inl 100, .inl 0, .inl b] σ rfl ?_
      refine sw_callS k_X7_areMen rfl cS_X7_within ml_X7_63 ⟨by decide, by decide⟩ [.inl b, .inl 0, .inl 100] [] rfl rfl (by decide) 28 rfl (sp_within σ b 0 100 (by omega) (by decide) (by decide)) (fun r10 σ11 hq12 => ?_)
      obtain ⟨rfl, ⟨p9, rfl⟩ | ⟨p9, rfl⟩⟩ := hq12
      · refine sw_blk k_X7_areMen 0 28 [(0, .inl n), (1, .inl c), (2, .inl b)] [.inl 1] σ rfl ?_
        refine sw_if_eq k_X7_areMen rfl (by decide) 35 31 (by decide) rfl (fun c => absurd c (by decide)) (fun _ => ?_)
        refine sw_blk k_X7_areMen 2 36 [(0, .inl n), (1, .inl c), (2, .inl b)] [.inl 1] σ rfl ?_
        refine sw_zreturn k_X7_areMen rfl rfl (by decide) ?_
        exact ⟨rfl, Or.inl ⟨by omega, rfl⟩⟩
      · refine sw_blk k_X7_areMen 0 28 [(0, .inl n), (1, .inl c), (2, .inl b)] [.inl 0] σ rfl ?_
        refine sw_if_eq k_X7_areMen rfl (by decide) 35 31 (by decide) rfl (fun _ => ?_) (fun c => absurd (by decide) c)
        refine sw_blk k_X7_areMen 1 36 [(0, .inl n), (1, .inl c), (2, .inl b)] [.inl 0] σ rfl ?_
        refine sw_zreturn k_X7_areMen rfl rfl (by decide) ?_
        exact ⟨rfl, Or.inr ⟨by omega, rfl⟩⟩
    · refine sw_blk k_X7_areMen 0 18 [(0, .inl n), (1, .inl c), (2, .inl b)] [.inl 0] σ rfl ?_
      refine sw_if_eq k_X7_areMen rfl (by decide) 35 21 (by decide) rfl (fun _ => ?_) (fun c => absurd (by decide) c)
      refine sw_blk k_X7_areMen 1 36 [(0, .inl n), (1, .inl c), (2, .inl b)] [.inl 0] σ rfl ?_
      refine sw_zreturn k_X7_areMen rfl rfl (by decide) ?_
      exact ⟨rfl, Or.inr ⟨by omega, rfl⟩⟩
  · refine sw_blk k_X7_areMen 0 8 [(0, .inl n), (1, .inl c), (2, .inl b)] [.inl 0] σ rfl ?_
    refine sw_if_eq k_X7_areMen rfl (by decide) 35 11 (by decide) rfl (fun _ => ?_) (fun c => absurd (by decide) c)
    refine sw_blk k_X7_areMen 1 36 [(0, .inl n), (1, .inl c), (2, .inl b)] [.inl 0] σ rfl ?_
    refine sw_zreturn k_X7_areMen rfl rfl (by decide) ?_
    exact ⟨rfl, Or.inr ⟨by omega, rfl⟩⟩
theorem sp_mMen {ly : sw_Ly} {ρ : sw_Rf} (σ : sw_S) (n c b : Int) (gn : sw_g n) (gc : sw_g c) (gb : sw_g b) : sw_Con ly ρ M_X8_areMen [.inl n, .inl c, .inl b] σ (fun r σ' => σ = σ' ∧ (((1 ≤ n ∧ n ≤ 500) ∧ (1 ≤ c ∧ c ≤ 50) ∧ (0 ≤ b ∧ b ≤ 100)) ∧ r = some (.inl 1) ∨ ¬ ((1 ≤ n ∧ n ≤ 500) ∧ (1 ≤ c ∧ c ≤ 50) ∧ (0 ≤ b ∧ b ≤ 100)) ∧ r = some (.inl 0))) := by
  refine sw_con (by decide) (Nat.le_of_ble_eq_true rfl) ?_
  refine sw_blk k_X8_areMen 3 5 [(0, .inl n), (1, .inl c), (2, .inl b)] [.inl 500, .inl 1, .inl n] σ rfl ?_
  refine sw_callS k_X8_areMen rfl cS_X8_in ml_X8_87 ⟨by decide, by decide⟩ [.inl n, .inl 1, .inl 500] [] rfl rfl (by decide) 8 rfl (sp_in σ n 1 500 (by omega) (by decide) (by decide)) (fun r2 σ3 hq4 => ?_)
  obtain ⟨rfl, ⟨p1, rfl⟩ | ⟨p1, rfl⟩⟩ := hq4
  · refine sw_blk k_X8_areMen 0 8 [(0, .inl n), (1, .inl c), (2, .inl b)] [.inl 1] σ rfl ?_
    refine sw_if_eq k_X8_areMen rfl (by decide) 35 11 (by decide) rfl (fun c => absurd c (by decide)) (fun _ => ?_)
    refine sw_blk k_X8_areMen 3 15 [(0, .inl n), (1, .inl c), (2, .inl b)] [.inl 50, .inl 1, .inl c] σ rfl ?_
    refine sw_callS k_X8_areMen rfl cS_X8_in ml_X8_87 ⟨by decide, by decide⟩ [.inl c, .inl 1, .inl 50] [] rfl rfl (by decide) 18 rfl (sp_in σ c 1 50 (by omega) (by decide) (by decide)) (fun r6 σ7 hq8 => ?_)
    obtain ⟨rfl, ⟨p5, rfl⟩ | ⟨p5, rfl⟩⟩ := hq8
    · refine sw_blk k_X8_areMen 0 18 [(0, .inl n), (1, .inl c), (2, .inl b)] [.inl 1] σ rfl ?_
      refine sw_if_eq k_X8_areMen rfl (by decide) 35 21 (by decide) rfl (fun c => absurd c (by decide)) (fun _ => ?_)
      refine sw_blk k_X8_areMen 3 25 [(0, .inl n), (1, .inl c), (2, .inl b)] [.inl 100, .inl 0, .inl b] σ rfl ?_
      refine sw_callS k_X8_areMen rfl cS_X8_in ml_X8_87 ⟨by decide, by decide⟩ [.inl b, .inl 0, .inl 100] [] rfl rfl (by decide) 28 rfl (sp_in σ b 0 100 (by omega) (by decide) (by decide)) (fun r10 σ11 hq12 => ?_)
      obtain ⟨rfl, ⟨p9, rfl⟩ | ⟨p9, rfl⟩⟩ := hq12
      · refine sw_blk k_X8_areMen 0 28 [(0, .inl n), (1, .inl c), (2, .inl b)] [.inl 1] σ rfl ?_
        refine sw_if_eq k_X8_areMen rfl (by decide) 35 31 (by decide) rfl (fun c => absurd c (by decide)) (fun _ => ?_)
        refine sw_blk k_X8_areMen 2 36 [(0, .inl n), (1, .inl c), (2, .inl b)] [.inl 1] σ rfl ?_
        refine sw_zreturn k_X8_areMen rfl rfl (by decide) ?_
        exact ⟨rfl, Or.inl ⟨by omega, rfl⟩⟩
      · refine sw_blk k_X8_areMen 0 28 [(0, .inl n), (1, .inl c), (2, .inl b)] [.inl 0] σ rfl ?_
        refine sw_if_eq k_X8_areMen rfl (by decide) 35 31 (by decide) rfl (fun _ => ?_) (fun c => absurd (by decide) c)
        refine sw_blk k_X8_areMen 1 36 [(0, .inl n), (1, .inl c), (2, .inl b)] [.inl 0] σ rfl ?_
        refine sw_zreturn k_X8_areMen rfl rfl (by decide) ?_
        exact ⟨rfl, Or.inr ⟨by omega, rfl⟩⟩
    · refine sw_blk k_X8_areMen 0 18 [(0, .inl n), (1, .inl c), (2, .inl b)] [.inl 0] σ rfl ?_
      refine sw_if_eq k_X8_areMen rfl (by decide) 35 21 (by decide) rfl (fun _ => ?_) (fun c => absurd (by decide) c)
      refine sw_blk k_X8_areMen 1 36 [(0, .inl n), (1, .inl c), (2, .inl b)] [.inl 0] σ rfl ?_
      refine sw_zreturn k_X8_areMen rfl rfl (by decide) ?_
      exact ⟨rfl, Or.inr ⟨by omega, rfl⟩⟩
  · refine sw_blk k_X8_areMen 0 8 [(0, .inl n), (1, .inl c), (2, .inl b)] [.inl 0] σ rfl ?_
    refine sw_if_eq k_X8_areMen rfl (by decide) 35 11 (by decide) rfl (fun _ => ?_) (fun c => absurd (by decide) c)
    refine sw_blk k_X8_areMen 1 36 [(0, .inl n), (1, .inl c), (2, .inl b)] [.inl 0] σ rfl ?_
    refine sw_zreturn k_X8_areMen rfl rfl (by decide) ?_
    exact ⟨rfl, Or.inr ⟨by omega, rfl⟩⟩
end
section
abbrev sw_gs (σ : sw_S) : Prop := ∀ i j, sw_g (σ i j)
theorem sw_gs_u {σ : sw_S} (h : sw_gs σ) (i j : Nat) {v : Int} (hv : sw_g v) : sw_gs (sw_u σ i j v) := by
  intro a b
  unfold sw_u
  split
  · exact hv
  · exact h a b
theorem sw_Lsub {ly : sw_Ly} {ρ : sw_Rf} {M : sw_M} {pc : Nat} {L : sw_L} {st : List sw_Vl} {σ : sw_S} {Q : Option sw_Vl → sw_S → Prop} (L' : sw_L) (ks : List Nat) (hl : ks.filterMap (fun k => L[k]?) = L') (k : sw_E ly ρ M pc L' st σ Q) : sw_E ly ρ M pc L st σ Q := by
  intro l D c3 ad p e s m args below meth c H locs ls C hP hS hls
  refine k l D c3 ad p e s m args below meth c H locs ls C hP hS ⟨hls.1, hls.2.1, fun q hq => hls.2.2 q ?_⟩
  obtain ⟨v, hv, rfl⟩ := List.mem_map.mp hq
  rw [← hl] at hv
  obtain ⟨i, -, hi⟩ := List.mem_filterMap.mp hv
  exact List.mem_map.mpr ⟨v, List.mem_of_getElem? hi, rfl⟩
def sw_cnt (f : Nat → Int) : Nat → Int
  | 0 => 0
  | n + 1 => sw_cnt f n + (if f n = 0 then 0 else 1)
theorem sp_has (σ : sw_S) (p : Int) (gp : sw_g p) (h1_0 : sw_g (σ 1 0)) : sw_Con sw_ly sw_rho M_X3_has [.inr (.inr 1), .inl p] σ (fun r σ' => σ = σ' ∧ ((0 ≤ p ∧ p ≤ σ 1 0) ∧ r = some (.inl 1) ∨ ¬ (0 ≤ p ∧ p ≤ σ 1 0) ∧ r = some (.inl 0))) := by
  refine sw_con (by decide) (Nat.le_of_ble_eq_true rfl) ?_
  refine sw_blk k_X3_has 1 1 [(0, .inr (.inr 1)), (1, .inl p)] [.inl p] σ rfl ?_
  refine sw_if_lt k_X3_has rfl (by omega) 16 4 (by decide) rfl (fun c1 => ?_) (fun c1 => ?_)
  · refine sw_blk k_X3_has 1 17 [(0, .inr (.inr 1)), (1, .inl p)] [.inl 0] σ rfl ?_
    refine sw_zreturn k_X3_has rfl rfl (by decide) ?_
    exact ⟨rfl, Or.inr ⟨by omega, rfl⟩⟩
  · refine sw_blk k_X3_has 3 9 [(0, .inr (.inr 1)), (1, .inl p)] [.inl (σ 1 0), .inl p] σ rfl ?_
    refine sw_icmp_gt k_X3_has rfl (by omega) h1_0 16 12 (by decide) rfl (fun c2 => ?_) (fun c2 => ?_)
    · refine sw_blk k_X3_has 1 17 [(0, .inr (.inr 1)), (1, .inl p)] [.inl 0] σ rfl ?_
      refine sw_zreturn k_X3_has rfl rfl (by decide) ?_
      exact ⟨rfl, Or.inr ⟨by omega, rfl⟩⟩
    · refine sw_blk k_X3_has 2 17 [(0, .inr (.inr 1)), (1, .inl p)] [.inl 1] σ rfl ?_
      refine sw_zreturn k_X3_has rfl rfl (by decide) ?_
      exact ⟨rfl, Or.inl ⟨by omega, rfl⟩⟩
theorem sp_rests (σ : sw_S) (h5_9 : sw_g (σ 5 9)) : sw_Con sw_ly sw_rho M_X6_rests [.inr (.inr 5)] σ (fun r σ' => σ = σ' ∧ ((σ 5 9 = 0) ∧ r = some (.inl 1) ∨ ¬ (σ 5 9 = 0) ∧ r = some (.inl 0))) := by
  refine sw_con (by decide) (Nat.le_of_ble_eq_true rfl) ?_
  refine sw_blk k_X6_rests 2 4 [(0, .inr (.inr 5))] [.inl (σ 5 9)] σ rfl ?_
  refine sw_if_ne k_X6_rests rfl h5_9 11 7 (by decide) rfl (fun c1 => ?_) (fun c1 => ?_)
  · refine sw_blk k_X6_rests 1 12 [(0, .inr (.inr 5))] [.inl 0] σ rfl ?_
    refine sw_zreturn k_X6_rests rfl rfl (by decide) ?_
    exact ⟨rfl, Or.inr ⟨by omega, rfl⟩⟩
  · refine sw_blk k_X6_rests 2 12 [(0, .inr (.inr 5))] [.inl 1] σ rfl ?_
    refine sw_zreturn k_X6_rests rfl rfl (by decide) ?_
    exact ⟨rfl, Or.inl ⟨by omega, rfl⟩⟩
theorem lp_openLinks (σ : sw_S) (hσ : ∀ j, sw_g (σ 8 j)) (Q : Option sw_Vl → sw_S → Prop) (hQ : Q (some (.inl (sw_cnt (σ 8) 8))) σ) : ∀ (n : Nat) (l : Nat) (o : Int), l ≤ 8 → o = sw_cnt (σ 8) l → 8 - l < n → sw_E sw_ly sw_rho M_X6_openLinks 4 [(2, .inl (l : Int)), (1, .inl o), (0, .inr (.inr 5))] [] σ Q := by
  intro n
  induction n with
  | zero =>
    intro l o hl ho hm
    omega
  | succ n ih =>
    intro l o hl ho hm
    refine sw_blk k_X6_openLinks 2 7 [(2, .inl (l : Int)), (1, .inl o), (0, .inr (.inr 5))] [.inl 8, .inl (l : Int)] σ rfl ?_
    refine sw_icmp_ge k_X6_openLinks rfl (by omega) (by decide) 28 10 (by decide) rfl (fun c1 => ?_) (fun c1 => ?_)
    · refine sw_blk k_X6_openLinks 1 29 [(2, .inl (l : Int)), (1, .inl o), (0, .inr (.inr 5))] [.inl o] σ rfl ?_
      refine sw_ireturn k_X6_openLinks rfl rfl ?_
      have e8 : l = 8 := by omega
      subst e8
      rw [ho]
      exact hQ
    · refine sw_blk k_X6_openLinks 3 15 [(2, .inl (l : Int)), (1, .inl o), (0, .inr (.inr 5))] [.inl (l : Int), .inr (.inr 8)] σ rfl ?_
      refine sw_zald k_X6_openLinks rfl (i := 8) (n := 8) rfl (by decide) (by omega) (by omega) 16 rfl ?_
      refine sw_blk k_X6_openLinks 0 16 [(2, .inl (l : Int)), (1, .inl o), (0, .inr (.inr 5))] [.inl (σ 8 ((l : Int).toNat))] σ rfl ?_
      refine sw_if_eq k_X6_openLinks rfl (hσ _) 22 19 (by decide) rfl (fun c2 => ?_) (fun c2 => ?_)
      · refine sw_blk k_X6_openLinks 2 4 [(2, .inl ((l : Int) + 1)), (1, .inl o), (0, .inr (.inr 5))] [] σ rfl ?_
        exact ih (l + 1) _ (by omega) (by rw [sw_cnt, ho]; simp only [show σ 8 l = 0 ↔ σ 8 ((l : Int).toNat) = 0 from Iff.rfl, *]; simp) (by omega)
      · refine sw_blk k_X6_openLinks 3 4 [(2, .inl ((l : Int) + 1)), (1, .inl (o + 1)), (0, .inr (.inr 5))] [] σ rfl ?_
        exact ih (l + 1) _ (by omega) (by rw [sw_cnt, ho]; simp only [show σ 8 l = 0 ↔ σ 8 ((l : Int).toNat) = 0 from Iff.rfl, *]; simp) (by omega)
theorem sp_openLinks (σ : sw_S) (hσ : ∀ j, sw_g (σ 8 j)) : sw_Con sw_ly sw_rho M_X6_openLinks [.inr (.inr 5)] σ (fun r σ' => σ = σ' ∧ r = some (.inl (sw_cnt (σ 8) 8))) := by
  refine sw_con (by decide) (Nat.le_of_ble_eq_true rfl) ?_
  refine sw_blk k_X6_openLinks 4 4 [(2, .inl 0), (1, .inl 0), (0, .inr (.inr 5))] [] σ rfl ?_
  exact lp_openLinks σ hσ _ ⟨rfl, rfl⟩ 9 0 0 (by omega) rfl (by omega)
theorem lp_opens (σ : sw_S) (hσ : ∀ j, sw_g (σ 32 j)) (Q : Option sw_Vl → sw_S → Prop) (hQ : Q (some (.inl (sw_cnt (σ 32) 8))) σ) : ∀ (n : Nat) (l : Nat) (o : Int), l ≤ 8 → o = sw_cnt (σ 32) l → 8 - l < n → sw_E sw_ly sw_rho M_X8_opens 4 [(2, .inl (l : Int)), (1, .inl o), (0, .inr (.inr 26))] [] σ Q := by
  intro n
  induction n with
  | zero =>
    intro l o hl ho hm
    omega
  | succ n ih =>
    intro l o hl ho hm
    refine sw_blk k_X8_opens 2 7 [(2, .inl (l : Int)), (1, .inl o), (0, .inr (.inr 26))] [.inl 8, .inl (l : Int)] σ rfl ?_
    refine sw_icmp_ge k_X8_opens rfl (by omega) (by decide) 33 10 (by decide) rfl (fun c1 => ?_) (fun c1 => ?_)
    · refine sw_blk k_X8_opens 1 34 [(2, .inl (l : Int)), (1, .inl o), (0, .inr (.inr 26))] [.inl o] σ rfl ?_
      refine sw_ireturn k_X8_opens rfl rfl ?_
      have e8 : l = 8 := by omega
      subst e8
      rw [ho]
      exact hQ
    · refine sw_blk k_X8_opens 4 16 [(2, .inl (l : Int)), (1, .inl o), (0, .inr (.inr 26))] [.inl (l : Int), .inr (.inr 32), .inl o] σ rfl ?_
      refine sw_zald k_X8_opens rfl (i := 32) (n := 8) rfl (by decide) (by omega) (by omega) 17 rfl ?_
      refine sw_blk k_X8_opens 0 17 [(2, .inl (l : Int)), (1, .inl o), (0, .inr (.inr 26))] [.inl (σ 32 ((l : Int).toNat)), .inl o] σ rfl ?_
      refine sw_if_eq k_X8_opens rfl (hσ _) 24 20 (by decide) rfl (fun c2 => ?_) (fun c2 => ?_)
      · refine sw_blk k_X8_opens 5 4 [(2, .inl ((l : Int) + 1)), (1, .inl (o + 0)), (0, .inr (.inr 26))] [] σ rfl ?_
        exact ih (l + 1) _ (by omega) (by rw [sw_cnt, ho]; simp only [show σ 32 l = 0 ↔ σ 32 ((l : Int).toNat) = 0 from Iff.rfl, *]; simp) (by omega)
      · refine sw_blk k_X8_opens 6 4 [(2, .inl ((l : Int) + 1)), (1, .inl (o + 1)), (0, .inr (.inr 26))] [] σ rfl ?_
        exact ih (l + 1) _ (by omega) (by rw [sw_cnt, ho]; simp only [show σ 32 l = 0 ↔ σ 32 ((l : Int).toNat) = 0 from Iff.rfl, *]; simp) (by omega)
theorem sp_opens (σ : sw_S) (hσ : ∀ j, sw_g (σ 32 j)) : sw_Con sw_ly sw_rho M_X8_opens [.inr (.inr 26)] σ (fun r σ' => σ = σ' ∧ r = some (.inl (sw_cnt (σ 32) 8))) := by
  refine sw_con (by decide) (Nat.le_of_ble_eq_true rfl) ?_
  refine sw_blk k_X8_opens 4 4 [(2, .inl 0), (1, .inl 0), (0, .inr (.inr 26))] [] σ rfl ?_
  exact lp_opens σ hσ _ ⟨rfl, rfl⟩ 9 0 0 (by omega) rfl (by omega)
theorem sp_told (σ : sw_S) (h9_0 : sw_g (σ 9 0)) (h9_1 : sw_g (σ 9 1)) (h9_2 : sw_g (σ 9 2)) : sw_Con sw_ly sw_rho M_X6_told [.inr (.inr 5)] σ (fun r σ' => σ = σ' ∧ r = some (.inl (σ 5 7 + σ 9 0 + σ 9 1 + σ 9 2 - min (σ 9 0) (min (σ 9 1) (σ 9 2)) - max (σ 9 0) (max (σ 9 1) (σ 9 2))))) := by
  refine sw_con (by decide) (Nat.le_of_ble_eq_true rfl) ?_
  refine sw_blk k_X6_told 3 5 [(0, .inr (.inr 5))] [.inl 0, .inr (.inr 9)] σ rfl ?_
  refine sw_iald k_X6_told rfl (i := 9) (n := 3) rfl (by decide) (by decide) (by decide) 6 rfl ?_
  refine sw_blk k_X6_told 3 11 [(0, .inr (.inr 5))] [.inl 1, .inr (.inr 9), .inl (σ 9 0)] σ rfl ?_
  refine sw_iald k_X6_told rfl (i := 9) (n := 3) rfl (by decide) (by decide) (by decide) 12 rfl ?_
  refine sw_blk k_X6_told 3 17 [(0, .inr (.inr 5))] [.inl 2, .inr (.inr 9), .inl (σ 9 1), .inl (σ 9 0)] σ rfl ?_
  refine sw_iald k_X6_told rfl (i := 9) (n := 3) rfl (by decide) (by decide) (by decide) 18 rfl ?_
  refine sw_blk k_X6_told 0 18 [(0, .inr (.inr 5))] [.inl (σ 9 2), .inl (σ 9 1), .inl (σ 9 0)] σ rfl ?_
  refine sw_callS k_X6_told rfl cS_J9_min_7cf53 ml_X6_43 ⟨by decide, by decide⟩ [.inl (σ 9 1), .inl (σ 9 2)] [.inl (σ 9 0)] rfl rfl (Nat.le_of_ble_eq_true rfl) 21 rfl (sp_min σ (σ 9 1) (σ 9 2) h9_1 h9_2) (fun r1 σ2 hq3 => ?_)
  obtain ⟨rfl, rfl⟩ := hq3
  refine sw_blk k_X6_told 0 21 [(0, .inr (.inr 5))] [.inl (min (σ 9 1) (σ 9 2)), .inl (σ 9 0)] σ rfl ?_
  refine sw_callS k_X6_told rfl cS_J9_min_7cf53 ml_X6_43 ⟨by decide, by decide⟩ [.inl (σ 9 0), .inl (min (σ 9 1) (σ 9 2))] [] rfl rfl (Nat.le_of_ble_eq_true rfl) 24 rfl (sp_min σ (σ 9 0) (min (σ 9 1) (σ 9 2)) h9_0 (by omega)) (fun r4 σ5 hq6 => ?_)
  obtain ⟨rfl, rfl⟩ := hq6
  refine sw_blk k_X6_told 4 30 [(1, .inl (min (σ 9 0) (min (σ 9 1) (σ 9 2)))), (0, .inr (.inr 5))] [.inl 0, .inr (.inr 9)] σ rfl ?_
  refine sw_iald k_X6_told rfl (i := 9) (n := 3) rfl (by decide) (by decide) (by decide) 31 rfl ?_
  refine sw_blk k_X6_told 3 36 [(1, .inl (min (σ 9 0) (min (σ 9 1) (σ 9 2)))), (0, .inr (.inr 5))] [.inl 1, .inr (.inr 9), .inl (σ 9 0)] σ rfl ?_
  refine sw_iald k_X6_told rfl (i := 9) (n := 3) rfl (by decide) (by decide) (by decide) 37 rfl ?_
  refine sw_blk k_X6_told 3 42 [(1, .inl (min (σ 9 0) (min (σ 9 1) (σ 9 2)))), (0, .inr (.inr 5))] [.inl 2, .inr (.inr 9), .inl (σ 9 1), .inl (σ 9 0)] σ rfl ?_
  refine sw_iald k_X6_told rfl (i := 9) (n := 3) rfl (by decide) (by decide) (by decide) 43 rfl ?_
  refine sw_blk k_X6_told 0 43 [(1, .inl (min (σ 9 0) (min (σ 9 1) (σ 9 2)))), (0, .inr (.inr 5))] [.inl (σ 9 2), .inl (σ 9 1), .inl (σ 9 0)] σ rfl ?_
  refine sw_callS k_X6_told rfl cS_J9_max_7cf53 ml_X6_49 ⟨by decide, by decide⟩ [.inl (σ 9 1), .inl (σ 9 2)] [.inl (σ 9 0)] rfl rfl (Nat.le_of_ble_eq_true rfl) 46 rfl (sp_max σ (σ 9 1) (σ 9 2) h9_1 h9_2) (fun r7 σ8 hq9 => ?_)
  obtain ⟨rfl, rfl⟩ := hq9
  refine sw_blk k_X6_told 0 46 [(1, .inl (min (σ 9 0) (min (σ 9 1) (σ 9 2)))), (0, .inr (.inr 5))] [.inl (max (σ 9 1) (σ 9 2)), .inl (σ 9 0)] σ rfl ?_
  refine sw_callS k_X6_told rfl cS_J9_max_7cf53 ml_X6_49 ⟨by decide, by decide⟩ [.inl (σ 9 0), .inl (max (σ 9 1) (σ 9 2))] [] rfl rfl (Nat.le_of_ble_eq_true rfl) 49 rfl (sp_max σ (σ 9 0) (max (σ 9 1) (σ 9 2)) h9_0 (by omega)) (fun r10 σ11 hq12 => ?_)
  obtain ⟨rfl, rfl⟩ := hq12
  refine sw_blk k_X6_told 6 59 [(2, .inl (max (σ 9 0) (max (σ 9 1) (σ 9 2)))), (1, .inl (min (σ 9 0) (min (σ 9 1) (σ 9 2)))), (0, .inr (.inr 5))] [.inl 0, .inr (.inr 9), .inl (σ 5 7)] σ rfl ?_
  refine sw_iald k_X6_told rfl (i := 9) (n := 3) rfl (by decide) (by decide) (by decide) 60 rfl ?_
  refine sw_blk k_X6_told 4 66 [(2, .inl (max (σ 9 0) (max (σ 9 1) (σ 9 2)))), (1, .inl (min (σ 9 0) (min (σ 9 1) (σ 9 2)))), (0, .inr (.inr 5))] [.inl 1, .inr (.inr 9), .inl ((σ 5 7) + (σ 9 0))] σ rfl ?_
  refine sw_iald k_X6_told rfl (i := 9) (n := 3) rfl (by decide) (by decide) (by decide) 67 rfl ?_
  refine sw_blk k_X6_told 4 73 [(2, .inl (max (σ 9 0) (max (σ 9 1) (σ 9 2)))), (1, .inl (min (σ 9 0) (min (σ 9 1) (σ 9 2)))), (0, .inr (.inr 5))] [.inl 2, .inr (.inr 9), .inl (((σ 5 7) + (σ 9 0)) + (σ 9 1))] σ rfl ?_
  refine sw_iald k_X6_told rfl (i := 9) (n := 3) rfl (by decide) (by decide) (by decide) 74 rfl ?_
  refine sw_blk k_X6_told 5 79 [(2, .inl (max (σ 9 0) (max (σ 9 1) (σ 9 2)))), (1, .inl (min (σ 9 0) (min (σ 9 1) (σ 9 2)))), (0, .inr (.inr 5))] [.inl ((((((σ 5 7) + (σ 9 0)) + (σ 9 1)) + (σ 9 2)) - (min (σ 9 0) (min (σ 9 1) (σ 9 2)))) - (max (σ 9 0) (max (σ 9 1) (σ 9 2))))] σ rfl ?_
  refine sw_ireturn k_X6_told rfl rfl ?_
  exact ⟨rfl, congrArg (fun q : Int => some (Sum.inl q)) (show (((((((σ 5 7) + (σ 9 0)) + (σ 9 1)) + (σ 9 2)) - (min (σ 9 0) (min (σ 9 1) (σ 9 2)))) - (max (σ 9 0) (max (σ 9 1) (σ 9 2)))) : Int) = σ 5 7 + σ 9 0 + σ 9 1 + σ 9 2 - min (σ 9 0) (min (σ 9 1) (σ 9 2)) - max (σ 9 0) (max (σ 9 1) (σ 9 2)) from by omega)⟩
theorem sp_mtold (σ : sw_S) (h33_0 : sw_g (σ 33 0)) (h33_1 : sw_g (σ 33 1)) (h33_2 : sw_g (σ 33 2)) : sw_Con sw_ly sw_rho M_X8_told [.inr (.inr 26)] σ (fun r σ' => σ = σ' ∧ r = some (.inl (σ 26 10 + (σ 33 0 + σ 33 1 + σ 33 2 - min (σ 33 0) (min (σ 33 1) (σ 33 2)) - max (σ 33 0) (max (σ 33 1) (σ 33 2)))))) := by
  refine sw_con (by decide) (Nat.le_of_ble_eq_true rfl) ?_
  refine sw_blk k_X8_told 3 5 [(0, .inr (.inr 26))] [.inl 0, .inr (.inr 33)] σ rfl ?_
  refine sw_iald k_X8_told rfl (i := 33) (n := 3) rfl (by decide) (by decide) (by decide) 6 rfl ?_
  refine sw_blk k_X8_told 4 12 [(1, .inl (σ 33 0)), (0, .inr (.inr 26))] [.inl 1, .inr (.inr 33)] σ rfl ?_
  refine sw_iald k_X8_told rfl (i := 33) (n := 3) rfl (by decide) (by decide) (by decide) 13 rfl ?_
  refine sw_blk k_X8_told 4 19 [(2, .inl (σ 33 1)), (1, .inl (σ 33 0)), (0, .inr (.inr 26))] [.inl 2, .inr (.inr 33)] σ rfl ?_
  refine sw_iald k_X8_told rfl (i := 33) (n := 3) rfl (by decide) (by decide) (by decide) 20 rfl ?_
  refine sw_blk k_X8_told 3 23 [(3, .inl (σ 33 2)), (2, .inl (σ 33 1)), (1, .inl (σ 33 0)), (0, .inr (.inr 26))] [.inl (σ 33 1), .inl (σ 33 0)] σ rfl ?_
  refine sw_icmp_ge k_X8_told rfl h33_0 h33_1 30 26 (by decide) rfl (fun c1 => ?_) (fun c1 => ?_)
  · refine sw_blk k_X8_told 4 35 [(4, .inl (σ 33 1)), (3, .inl (σ 33 2)), (2, .inl (σ 33 1)), (1, .inl (σ 33 0)), (0, .inr (.inr 26))] [.inl (σ 33 1), .inl (σ 33 0)] σ rfl ?_
    refine sw_icmp_ge k_X8_told rfl h33_0 h33_1 42 38 (by decide) rfl (fun c2 => ?_) (fun c2 => ?_)
    · refine sw_blk k_X8_told 6 52 [(5, .inl (σ 33 0)), (4, .inl (σ 33 1)), (3, .inl (σ 33 2)), (2, .inl (σ 33 1)), (1, .inl (σ 33 0)), (0, .inr (.inr 26))] [.inl (σ 33 1), .inl (σ 33 2), .inl (σ 26 10)] σ rfl ?_
      refine sw_icmp_ge k_X8_told rfl h33_2 h33_1 60 55 (by decide) rfl (fun c3 => ?_) (fun c3 => ?_)
      · refine sw_blk k_X8_told 2 63 [(5, .inl (σ 33 0)), (4, .inl (σ 33 1)), (3, .inl (σ 33 2)), (2, .inl (σ 33 1)), (1, .inl (σ 33 0)), (0, .inr (.inr 26))] [.inl (σ 33 0), .inl (σ 33 2), .inl (σ 26 10)] σ rfl ?_
        refine sw_icmp_le k_X8_told rfl h33_2 h33_0 71 66 (by decide) rfl (fun c4 => ?_) (fun c4 => ?_)
        · refine sw_blk k_X8_told 2 73 [(5, .inl (σ 33 0)), (4, .inl (σ 33 1)), (3, .inl (σ 33 2)), (2, .inl (σ 33 1)), (1, .inl (σ 33 0)), (0, .inr (.inr 26))] [.inl ((σ 26 10) + (σ 33 2))] σ rfl ?_
          refine sw_ireturn k_X8_told rfl rfl ?_
          exact ⟨rfl, congrArg (fun q : Int => some (Sum.inl q)) (show (((σ 26 10) + (σ 33 2)) : Int) = σ 26 10 + (σ 33 0 + σ 33 1 + σ 33 2 - min (σ 33 0) (min (σ 33 1) (σ 33 2)) - max (σ 33 0) (max (σ 33 1) (σ 33 2))) from by omega)⟩
        · refine sw_blk k_X8_told 3 73 [(5, .inl (σ 33 0)), (4, .inl (σ 33 1)), (3, .inl (σ 33 2)), (2, .inl (σ 33 1)), (1, .inl (σ 33 0)), (0, .inr (.inr 26))] [.inl ((σ 26 10) + (σ 33 0))] σ rfl ?_
          refine sw_ireturn k_X8_told rfl rfl ?_
          exact ⟨rfl, congrArg (fun q : Int => some (Sum.inl q)) (show (((σ 26 10) + (σ 33 0)) : Int) = σ 26 10 + (σ 33 0 + σ 33 1 + σ 33 2 - min (σ 33 0) (min (σ 33 1) (σ 33 2)) - max (σ 33 0) (max (σ 33 1) (σ 33 2))) from by omega)⟩
      · refine sw_blk k_X8_told 3 73 [(5, .inl (σ 33 0)), (4, .inl (σ 33 1)), (3, .inl (σ 33 2)), (2, .inl (σ 33 1)), (1, .inl (σ 33 0)), (0, .inr (.inr 26))] [.inl ((σ 26 10) + (σ 33 1))] σ rfl ?_
        refine sw_ireturn k_X8_told rfl rfl ?_
        exact ⟨rfl, congrArg (fun q : Int => some (Sum.inl q)) (show (((σ 26 10) + (σ 33 1)) : Int) = σ 26 10 + (σ 33 0 + σ 33 1 + σ 33 2 - min (σ 33 0) (min (σ 33 1) (σ 33 2)) - max (σ 33 0) (max (σ 33 1) (σ 33 2))) from by omega)⟩
    · refine sw_blk k_X8_told 7 52 [(5, .inl (σ 33 1)), (4, .inl (σ 33 1)), (3, .inl (σ 33 2)), (2, .inl (σ 33 1)), (1, .inl (σ 33 0)), (0, .inr (.inr 26))] [.inl (σ 33 1), .inl (σ 33 2), .inl (σ 26 10)] σ rfl ?_
      refine sw_icmp_ge k_X8_told rfl h33_2 h33_1 60 55 (by decide) rfl (fun c5 => ?_) (fun c5 => ?_)
      · refine sw_blk k_X8_told 2 63 [(5, .inl (σ 33 1)), (4, .inl (σ 33 1)), (3, .inl (σ 33 2)), (2, .inl (σ 33 1)), (1, .inl (σ 33 0)), (0, .inr (.inr 26))] [.inl (σ 33 1), .inl (σ 33 2), .inl (σ 26 10)] σ rfl ?_
        refine sw_icmp_le k_X8_told rfl h33_2 h33_1 71 66 (by decide) rfl (fun c6 => ?_) (fun c6 => ?_)
        · refine sw_blk k_X8_told 2 73 [(5, .inl (σ 33 1)), (4, .inl (σ 33 1)), (3, .inl (σ 33 2)), (2, .inl (σ 33 1)), (1, .inl (σ 33 0)), (0, .inr (.inr 26))] [.inl ((σ 26 10) + (σ 33 2))] σ rfl ?_
          refine sw_ireturn k_X8_told rfl rfl ?_
          exact ⟨rfl, congrArg (fun q : Int => some (Sum.inl q)) (show (((σ 26 10) + (σ 33 2)) : Int) = σ 26 10 + (σ 33 0 + σ 33 1 + σ 33 2 - min (σ 33 0) (min (σ 33 1) (σ 33 2)) - max (σ 33 0) (max (σ 33 1) (σ 33 2))) from by omega)⟩
        · refine sw_blk k_X8_told 3 73 [(5, .inl (σ 33 1)), (4, .inl (σ 33 1)), (3, .inl (σ 33 2)), (2, .inl (σ 33 1)), (1, .inl (σ 33 0)), (0, .inr (.inr 26))] [.inl ((σ 26 10) + (σ 33 1))] σ rfl ?_
          refine sw_ireturn k_X8_told rfl rfl ?_
          exact ⟨rfl, congrArg (fun q : Int => some (Sum.inl q)) (show (((σ 26 10) + (σ 33 1)) : Int) = σ 26 10 + (σ 33 0 + σ 33 1 + σ 33 2 - min (σ 33 0) (min (σ 33 1) (σ 33 2)) - max (σ 33 0) (max (σ 33 1) (σ 33 2))) from by omega)⟩
      · refine sw_blk k_X8_told 3 73 [(5, .inl (σ 33 1)), (4, .inl (σ 33 1)), (3, .inl (σ 33 2)), (2, .inl (σ 33 1)), (1, .inl (σ 33 0)), (0, .inr (.inr 26))] [.inl ((σ 26 10) + (σ 33 1))] σ rfl ?_
        refine sw_ireturn k_X8_told rfl rfl ?_
        exact ⟨rfl, congrArg (fun q : Int => some (Sum.inl q)) (show (((σ 26 10) + (σ 33 1)) : Int) = σ 26 10 + (σ 33 0 + σ 33 1 + σ 33 2 - min (σ 33 0) (min (σ 33 1) (σ 33 2)) - max (σ 33 0) (max (σ 33 1) (σ 33 2))) from by omega)⟩
  · refine sw_blk k_X8_told 5 35 [(4, .inl (σ 33 0)), (3, .inl (σ 33 2)), (2, .inl (σ 33 1)), (1, .inl (σ 33 0)), (0, .inr (.inr 26))] [.inl (σ 33 1), .inl (σ 33 0)] σ rfl ?_
    refine sw_icmp_ge k_X8_told rfl h33_0 h33_1 42 38 (by decide) rfl (fun c7 => ?_) (fun c7 => ?_)
    · refine sw_blk k_X8_told 6 52 [(5, .inl (σ 33 0)), (4, .inl (σ 33 0)), (3, .inl (σ 33 2)), (2, .inl (σ 33 1)), (1, .inl (σ 33 0)), (0, .inr (.inr 26))] [.inl (σ 33 0), .inl (σ 33 2), .inl (σ 26 10)] σ rfl ?_
      refine sw_icmp_ge k_X8_told rfl h33_2 h33_0 60 55 (by decide) rfl (fun c8 => ?_) (fun c8 => ?_)
      · refine sw_blk k_X8_told 2 63 [(5, .inl (σ 33 0)), (4, .inl (σ 33 0)), (3, .inl (σ 33 2)), (2, .inl (σ 33 1)), (1, .inl (σ 33 0)), (0, .inr (.inr 26))] [.inl (σ 33 0), .inl (σ 33 2), .inl (σ 26 10)] σ rfl ?_
        refine sw_icmp_le k_X8_told rfl h33_2 h33_0 71 66 (by decide) rfl (fun c9 => ?_) (fun c9 => ?_)
        · refine sw_blk k_X8_told 2 73 [(5, .inl (σ 33 0)), (4, .inl (σ 33 0)), (3, .inl (σ 33 2)), (2, .inl (σ 33 1)), (1, .inl (σ 33 0)), (0, .inr (.inr 26))] [.inl ((σ 26 10) + (σ 33 2))] σ rfl ?_
          refine sw_ireturn k_X8_told rfl rfl ?_
          exact ⟨rfl, congrArg (fun q : Int => some (Sum.inl q)) (show (((σ 26 10) + (σ 33 2)) : Int) = σ 26 10 + (σ 33 0 + σ 33 1 + σ 33 2 - min (σ 33 0) (min (σ 33 1) (σ 33 2)) - max (σ 33 0) (max (σ 33 1) (σ 33 2))) from by omega)⟩
        · refine sw_blk k_X8_told 3 73 [(5, .inl (σ 33 0)), (4, .inl (σ 33 0)), (3, .inl (σ 33 2)), (2, .inl (σ 33 1)), (1, .inl (σ 33 0)), (0, .inr (.inr 26))] [.inl ((σ 26 10) + (σ 33 0))] σ rfl ?_
          refine sw_ireturn k_X8_told rfl rfl ?_
          exact ⟨rfl, congrArg (fun q : Int => some (Sum.inl q)) (show (((σ 26 10) + (σ 33 0)) : Int) = σ 26 10 + (σ 33 0 + σ 33 1 + σ 33 2 - min (σ 33 0) (min (σ 33 1) (σ 33 2)) - max (σ 33 0) (max (σ 33 1) (σ 33 2))) from by omega)⟩
      · refine sw_blk k_X8_told 3 73 [(5, .inl (σ 33 0)), (4, .inl (σ 33 0)), (3, .inl (σ 33 2)), (2, .inl (σ 33 1)), (1, .inl (σ 33 0)), (0, .inr (.inr 26))] [.inl ((σ 26 10) + (σ 33 0))] σ rfl ?_
        refine sw_ireturn k_X8_told rfl rfl ?_
        exact ⟨rfl, congrArg (fun q : Int => some (Sum.inl q)) (show (((σ 26 10) + (σ 33 0)) : Int) = σ 26 10 + (σ 33 0 + σ 33 1 + σ 33 2 - min (σ 33 0) (min (σ 33 1) (σ 33 2)) - max (σ 33 0) (max (σ 33 1) (σ 33 2))) from by omega)⟩
    · refine sw_blk k_X8_told 7 52 [(5, .inl (σ 33 1)), (4, .inl (σ 33 0)), (3, .inl (σ 33 2)), (2, .inl (σ 33 1)), (1, .inl (σ 33 0)), (0, .inr (.inr 26))] [.inl (σ 33 0), .inl (σ 33 2), .inl (σ 26 10)] σ rfl ?_
      refine sw_icmp_ge k_X8_told rfl h33_2 h33_0 60 55 (by decide) rfl (fun c10 => ?_) (fun c10 => ?_)
      · refine sw_blk k_X8_told 2 63 [(5, .inl (σ 33 1)), (4, .inl (σ 33 0)), (3, .inl (σ 33 2)), (2, .inl (σ 33 1)), (1, .inl (σ 33 0)), (0, .inr (.inr 26))] [.inl (σ 33 1), .inl (σ 33 2), .inl (σ 26 10)] σ rfl ?_
        refine sw_icmp_le k_X8_told rfl h33_2 h33_1 71 66 (by decide) rfl (fun c11 => ?_) (fun c11 => ?_)
        · refine sw_blk k_X8_told 2 73 [(5, .inl (σ 33 1)), (4, .inl (σ 33 0)), (3, .inl (σ 33 2)), (2, .inl (σ 33 1)), (1, .inl (σ 33 0)), (0, .inr (.inr 26))] [.inl ((σ 26 10) + (σ 33 2))] σ rfl ?_
          refine sw_ireturn k_X8_told rfl rfl ?_
          exact ⟨rfl, congrArg (fun q : Int => some (Sum.inl q)) (show (((σ 26 10) + (σ 33 2)) : Int) = σ 26 10 + (σ 33 0 + σ 33 1 + σ 33 2 - min (σ 33 0) (min (σ 33 1) (σ 33 2)) - max (σ 33 0) (max (σ 33 1) (σ 33 2))) from by omega)⟩
        · refine sw_blk k_X8_told 3 73 [(5, .inl (σ 33 1)), (4, .inl (σ 33 0)), (3, .inl (σ 33 2)), (2, .inl (σ 33 1)), (1, .inl (σ 33 0)), (0, .inr (.inr 26))] [.inl ((σ 26 10) + (σ 33 1))] σ rfl ?_
          refine sw_ireturn k_X8_told rfl rfl ?_
          exact ⟨rfl, congrArg (fun q : Int => some (Sum.inl q)) (show (((σ 26 10) + (σ 33 1)) : Int) = σ 26 10 + (σ 33 0 + σ 33 1 + σ 33 2 - min (σ 33 0) (min (σ 33 1) (σ 33 2)) - max (σ 33 0) (max (σ 33 1) (σ 33 2))) from by omega)⟩
      · refine sw_blk k_X8_told 3 73 [(5, .inl (σ 33 1)), (4, .inl (σ 33 0)), (3, .inl (σ 33 2)), (2, .inl (σ 33 1)), (1, .inl (σ 33 0)), (0, .inr (.inr 26))] [.inl ((σ 26 10) + (σ 33 0))] σ rfl ?_
        refine sw_ireturn k_X8_told rfl rfl ?_
        exact ⟨rfl, congrArg (fun q : Int => some (Sum.inl q)) (show (((σ 26 10) + (σ 33 0)) : Int) = σ 26 10 + (σ 33 0 + σ 33 1 + σ 33 2 - min (σ 33 0) (min (σ 33 1) (σ 33 2)) - max (σ 33 0) (max (σ 33 1) (σ 33 2))) from by omega)⟩
theorem sp_ticksLeft (σ : sw_S) (h5_9 : sw_g (σ 5 9)) : sw_Con sw_ly sw_rho M_X6_ticksLeft [.inr (.inr 5)] σ (fun r σ' => σ = σ' ∧ r = some (.inl (if σ 5 9 = 1 then σ 5 5 - σ 5 6 else 0))) := by
  refine sw_con (by decide) (Nat.le_of_ble_eq_true rfl) ?_
  refine sw_blk k_X6_ticksLeft 3 5 [(0, .inr (.inr 5))] [.inl 1, .inl (σ 5 9)] σ rfl ?_
  refine sw_icmp_ne k_X6_ticksLeft rfl h5_9 (by decide) 20 8 (by decide) rfl (fun c1 => ?_) (fun c1 => ?_)
  · refine sw_blk k_X6_ticksLeft 1 21 [(0, .inr (.inr 5))] [.inl 0] σ rfl ?_
    refine sw_ireturn k_X6_ticksLeft rfl rfl ?_
    exact ⟨rfl, congrArg (fun q : Int => some (Sum.inl q)) (show (0 : Int) = (if σ 5 9 = 1 then σ 5 5 - σ 5 6 else 0) from by omega)⟩
  · refine sw_blk k_X6_ticksLeft 6 21 [(0, .inr (.inr 5))] [.inl ((σ 5 5) - (σ 5 6))] σ rfl ?_
    refine sw_ireturn k_X6_ticksLeft rfl rfl ?_
    exact ⟨rfl, congrArg (fun q : Int => some (Sum.inl q)) (show (((σ 5 5) - (σ 5 6)) : Int) = (if σ 5 9 = 1 then σ 5 5 - σ 5 6 else 0) from by omega)⟩
theorem sp_setOut (σ : sw_S) (t : Int) (gt : sw_g t) : sw_Con sw_ly sw_rho M_X6_setOut [.inr (.inr 5), .inl t] σ (fun r σ' => (sw_u (sw_u (sw_u (sw_u σ 5 10 0) 5 5 t) 5 6 0) 5 9 (if 0 < t then 1 else 0)) = σ' ∧ r = none) := by
  refine sw_con (by decide) (Nat.le_of_ble_eq_true rfl) ?_
  refine sw_blk k_X6_setOut 11 17 [(0, .inr (.inr 5)), (1, .inl t)] [.inl t, .inr (.inr 5)] (sw_u (sw_u (sw_u σ 5 10 0) 5 5 t) 5 6 0) rfl ?_
  refine sw_if_le k_X6_setOut rfl (by omega) 24 20 (by decide) rfl (fun c1 => ?_) (fun c1 => ?_)
  · refine sw_blk k_X6_setOut 2 28 [(0, .inr (.inr 5)), (1, .inl t)] [] (sw_u (sw_u (sw_u (sw_u σ 5 10 0) 5 5 t) 5 6 0) 5 9 0) rfl ?_
    refine sw_vreturn k_X6_setOut rfl rfl ?_
    exact ⟨congrArg (sw_u (sw_u (sw_u (sw_u σ 5 10 0) 5 5 t) 5 6 0) 5 9) (show (if 0 < t then 1 else 0) = (0 : Int) from by omega), rfl⟩
  · refine sw_blk k_X6_setOut 3 28 [(0, .inr (.inr 5)), (1, .inl t)] [] (sw_u (sw_u (sw_u (sw_u σ 5 10 0) 5 5 t) 5 6 0) 5 9 1) rfl ?_
    refine sw_vreturn k_X6_setOut rfl rfl ?_
    exact ⟨congrArg (sw_u (sw_u (sw_u (sw_u σ 5 10 0) 5 5 t) 5 6 0) 5 9) (show (if 0 < t then 1 else 0) = (1 : Int) from by omega), rfl⟩
theorem sp_nextSpeed (σ : sw_S) (h0 : 0 ≤ σ 5 6) (h1 : σ 5 6 < 400) : sw_Con sw_ly sw_rho M_X6_nextSpeed [.inr (.inr 5)] σ (fun r σ' => σ = σ' ∧ r = some (.inl (σ 10 (σ 5 6).toNat))) := by
  refine sw_con (by decide) (Nat.le_of_ble_eq_true rfl) ?_
  refine sw_blk k_X6_nextSpeed 5 9 [(0, .inr (.inr 5))] [.inl 400, .inl (σ 5 6)] σ rfl ?_
  refine sw_icmp_ge k_X6_nextSpeed rfl (by omega) (by decide) 24 12 (by decide) rfl (fun c1 => ?_) (fun c1 => ?_)
  · omega
  · refine sw_blk k_X6_nextSpeed 4 20 [(0, .inr (.inr 5))] [.inl (σ 5 6), .inr (.inr 10)] σ rfl ?_
    refine sw_iald k_X6_nextSpeed rfl (i := 10) (n := 400) rfl (by decide) (by omega) (by omega) 21 rfl ?_
    refine sw_blk k_X6_nextSpeed 1 25 [(0, .inr (.inr 5))] [.inl (σ 10 ((σ 5 6).toNat))] σ rfl ?_
    refine sw_ireturn k_X6_nextSpeed rfl rfl ?_
    exact ⟨rfl, rfl⟩
theorem sp_size (σ : sw_S) (h6_1 : sw_g (σ 6 1)) : sw_Con sw_ly sw_rho M_X5_size [.inr (.inr 6)] σ (fun r σ' => σ = σ' ∧ r = some (.inl (min (σ 6 1) 40))) := by
  refine sw_con (by decide) (Nat.le_of_ble_eq_true rfl) ?_
  refine sw_blk k_X5_size 3 6 [(0, .inr (.inr 6))] [.inl 40, .inl (σ 6 1)] σ rfl ?_
  refine sw_callS k_X5_size rfl cS_J9_min_7cf53 ml_X5_19 ⟨by decide, by decide⟩ [.inl (σ 6 1), .inl 40] [] rfl rfl (Nat.le_of_ble_eq_true rfl) 9 rfl (sp_min σ (σ 6 1) 40 h6_1 (by decide)) (fun r1 σ2 hq3 => ?_)
  obtain ⟨rfl, rfl⟩ := hq3
  refine sw_blk k_X5_size 0 9 [(0, .inr (.inr 6))] [.inl (min (σ 6 1) 40)] σ rfl ?_
  refine sw_ireturn k_X5_size rfl rfl ?_
  exact ⟨rfl, rfl⟩
theorem sp_forget (σ : sw_S)  : sw_Con sw_ly sw_rho M_X1_forget [.inr (.inr 3)] σ (fun r σ' => (sw_u σ 3 2 (-1)) = σ' ∧ r = none) := by
  refine sw_con (by decide) (Nat.le_of_ble_eq_true rfl) ?_
  refine sw_blk k_X1_forget 3 5 [(0, .inr (.inr 3))] [] (sw_u σ 3 2 (-1)) rfl ?_
  refine sw_vreturn k_X1_forget rfl rfl ?_
  exact ⟨rfl, rfl⟩
theorem sp_ticksAfter (σ : sw_S) (d v : Int) (h0 : 0 ≤ (d - v) * 21 + v) (h1 : (d - v) * 21 + v < 8421) : sw_Con sw_ly sw_rho M_X1_ticksAfter [.inr (.inr 3), .inl d, .inl v] σ (fun r σ' => σ = σ' ∧ r = some (.inl (σ 4 ((d - v) * 21 + v).toNat))) := by
  refine sw_con (by decide) (Nat.le_of_ble_eq_true rfl) ?_
  refine sw_blk k_X1_ticksAfter 9 12 [(0, .inr (.inr 3)), (1, .inl d), (2, .inl v)] [.inl (((d - v) * 21) + v), .inr (.inr 4)] σ rfl ?_
  refine sw_iald k_X1_ticksAfter rfl (i := 4) (n := 8421) rfl (by decide) (by omega) (by omega) 13 rfl ?_
  refine sw_blk k_X1_ticksAfter 0 13 [(0, .inr (.inr 3)), (1, .inl d), (2, .inl v)] [.inl (σ 4 ((((d - v) * 21) + v).toNat))] σ rfl ?_
  refine sw_ireturn k_X1_ticksAfter rfl rfl ?_
  exact ⟨rfl, rfl⟩
theorem sp_finding (σ : sw_S) (k : Int) : sw_Con sw_ly sw_rho M_X7_finding [.inr (.inr 0), .inl k] σ (fun r σ' => (sw_u σ 0 9 k) = σ' ∧ r = some (.inl (-10 - k))) := by
  refine sw_con (by decide) (Nat.le_of_ble_eq_true rfl) ?_
  refine sw_blk k_X7_finding 6 9 [(0, .inr (.inr 0)), (1, .inl k)] [.inl ((-10) - k)] (sw_u σ 0 9 k) rfl ?_
  refine sw_ireturn k_X7_finding rfl rfl ?_
  exact ⟨rfl, rfl⟩
theorem sp_hasItems0 (σ : sw_S) (i k : Int) (gi : sw_g i) (gk : sw_g k) (hs0 : 0 ≤ σ 15 3) (hs1 : σ 15 3 ≤ 60) : sw_Con sw_ly sw_rho M_X4_hasItems [.inr (.inr 15), .inl i, .inl k] σ (fun r σ' => σ = σ' ∧ ((0 ≤ i ∧ 0 ≤ k ∧ i ≤ σ 15 3 - k) ∧ r = some (.inl 1) ∨ ¬ (0 ≤ i ∧ 0 ≤ k ∧ i ≤ σ 15 3 - k) ∧ r = some (.inl 0))) := by
  refine sw_con (by decide) (Nat.le_of_ble_eq_true rfl) ?_
  refine sw_blk k_X4_hasItems 1 1 [(0, .inr (.inr 15)), (1, .inl i), (2, .inl k)] [.inl i] σ rfl ?_
  refine sw_if_lt k_X4_hasItems rfl (by omega) 22 4 (by decide) rfl (fun c1 => ?_) (fun c1 => ?_)
  · refine sw_blk k_X4_hasItems 1 23 [(0, .inr (.inr 15)), (1, .inl i), (2, .inl k)] [.inl 0] σ rfl ?_
    refine sw_zreturn k_X4_hasItems rfl rfl (by decide) ?_
    exact ⟨rfl, Or.inr ⟨by omega, rfl⟩⟩
  · refine sw_blk k_X4_hasItems 1 5 [(0, .inr (.inr 15)), (1, .inl i), (2, .inl k)] [.inl k] σ rfl ?_
    refine sw_if_lt k_X4_hasItems rfl (by omega) 22 8 (by decide) rfl (fun c2 => ?_) (fun c2 => ?_)
    · refine sw_blk k_X4_hasItems 1 23 [(0, .inr (.inr 15)), (1, .inl i), (2, .inl k)] [.inl 0] σ rfl ?_
      refine sw_zreturn k_X4_hasItems rfl rfl (by decide) ?_
      exact ⟨rfl, Or.inr ⟨by omega, rfl⟩⟩
    · refine sw_blk k_X4_hasItems 5 15 [(0, .inr (.inr 15)), (1, .inl i), (2, .inl k)] [.inl ((σ 15 3) - k), .inl i] σ rfl ?_
      refine sw_icmp_gt k_X4_hasItems rfl (by omega) (by omega) 22 18 (by decide) rfl (fun c3 => ?_) (fun c3 => ?_)
      · refine sw_blk k_X4_hasItems 1 23 [(0, .inr (.inr 15)), (1, .inl i), (2, .inl k)] [.inl 0] σ rfl ?_
        refine sw_zreturn k_X4_hasItems rfl rfl (by decide) ?_
        exact ⟨rfl, Or.inr ⟨by omega, rfl⟩⟩
      · refine sw_blk k_X4_hasItems 2 23 [(0, .inr (.inr 15)), (1, .inl i), (2, .inl k)] [.inl 1] σ rfl ?_
        refine sw_zreturn k_X4_hasItems rfl rfl (by decide) ?_
        exact ⟨rfl, Or.inl ⟨by omega, rfl⟩⟩
theorem sp_hasItems1 (σ : sw_S) (i k : Int) (gi : sw_g i) (gk : sw_g k) (hs0 : 0 ≤ σ 17 3) (hs1 : σ 17 3 ≤ 60) : sw_Con sw_ly sw_rho M_X4_hasItems [.inr (.inr 17), .inl i, .inl k] σ (fun r σ' => σ = σ' ∧ ((0 ≤ i ∧ 0 ≤ k ∧ i ≤ σ 17 3 - k) ∧ r = some (.inl 1) ∨ ¬ (0 ≤ i ∧ 0 ≤ k ∧ i ≤ σ 17 3 - k) ∧ r = some (.inl 0))) := by
  refine sw_con (by decide) (Nat.le_of_ble_eq_true rfl) ?_
  refine sw_blk k_X4_hasItems 1 1 [(0, .inr (.inr 17)), (1, .inl i), (2, .inl k)] [.inl i] σ rfl ?_
  refine sw_if_lt k_X4_hasItems rfl (by omega) 22 4 (by decide) rfl (fun c1 => ?_) (fun c1 => ?_)
  · refine sw_blk k_X4_hasItems 1 23 [(0, .inr (.inr 17)), (1, .inl i), (2, .inl k)] [.inl 0] σ rfl ?_
    refine sw_zreturn k_X4_hasItems rfl rfl (by decide) ?_
    exact ⟨rfl, Or.inr ⟨by omega, rfl⟩⟩
  · refine sw_blk k_X4_hasItems 1 5 [(0, .inr (.inr 17)), (1, .inl i), (2, .inl k)] [.inl k] σ rfl ?_
    refine sw_if_lt k_X4_hasItems rfl (by omega) 22 8 (by decide) rfl (fun c2 => ?_) (fun c2 => ?_)
    · refine sw_blk k_X4_hasItems 1 23 [(0, .inr (.inr 17)), (1, .inl i), (2, .inl k)] [.inl 0] σ rfl ?_
      refine sw_zreturn k_X4_hasItems rfl rfl (by decide) ?_
      exact ⟨rfl, Or.inr ⟨by omega, rfl⟩⟩
    · refine sw_blk k_X4_hasItems 5 15 [(0, .inr (.inr 17)), (1, .inl i), (2, .inl k)] [.inl ((σ 17 3) - k), .inl i] σ rfl ?_
      refine sw_icmp_gt k_X4_hasItems rfl (by omega) (by omega) 22 18 (by decide) rfl (fun c3 => ?_) (fun c3 => ?_)
      · refine sw_blk k_X4_hasItems 1 23 [(0, .inr (.inr 17)), (1, .inl i), (2, .inl k)] [.inl 0] σ rfl ?_
        refine sw_zreturn k_X4_hasItems rfl rfl (by decide) ?_
        exact ⟨rfl, Or.inr ⟨by omega, rfl⟩⟩
      · refine sw_blk k_X4_hasItems 2 23 [(0, .inr (.inr 17)), (1, .inl i), (2, .inl k)] [.inl 1] σ rfl ?_
        refine sw_zreturn k_X4_hasItems rfl rfl (by decide) ?_
        exact ⟨rfl, Or.inl ⟨by omega, rfl⟩⟩
theorem sp_hasItems2 (σ : sw_S) (i k : Int) (gi : sw_g i) (gk : sw_g k) (hs0 : 0 ≤ σ 19 3) (hs1 : σ 19 3 ≤ 60) : sw_Con sw_ly sw_rho M_X4_hasItems [.inr (.inr 19), .inl i, .inl k] σ (fun r σ' => σ = σ' ∧ ((0 ≤ i ∧ 0 ≤ k ∧ i ≤ σ 19 3 - k) ∧ r = some (.inl 1) ∨ ¬ (0 ≤ i ∧ 0 ≤ k ∧ i ≤ σ 19 3 - k) ∧ r = some (.inl 0))) := by
  refine sw_con (by decide) (Nat.le_of_ble_eq_true rfl) ?_
  refine sw_blk k_X4_hasItems 1 1 [(0, .inr (.inr 19)), (1, .inl i), (2, .inl k)] [.inl i] σ rfl ?_
  refine sw_if_lt k_X4_hasItems rfl (by omega) 22 4 (by decide) rfl (fun c1 => ?_) (fun c1 => ?_)
  · refine sw_blk k_X4_hasItems 1 23 [(0, .inr (.inr 19)), (1, .inl i), (2, .inl k)] [.inl 0] σ rfl ?_
    refine sw_zreturn k_X4_hasItems rfl rfl (by decide) ?_
    exact ⟨rfl, Or.inr ⟨by omega, rfl⟩⟩
  · refine sw_blk k_X4_hasItems 1 5 [(0, .inr (.inr 19)), (1, .inl i), (2, .inl k)] [.inl k] σ rfl ?_
    refine sw_if_lt k_X4_hasItems rfl (by omega) 22 8 (by decide) rfl (fun c2 => ?_) (fun c2 => ?_)
    · refine sw_blk k_X4_hasItems 1 23 [(0, .inr (.inr 19)), (1, .inl i), (2, .inl k)] [.inl 0] σ rfl ?_
      refine sw_zreturn k_X4_hasItems rfl rfl (by decide) ?_
      exact ⟨rfl, Or.inr ⟨by omega, rfl⟩⟩
    · refine sw_blk k_X4_hasItems 5 15 [(0, .inr (.inr 19)), (1, .inl i), (2, .inl k)] [.inl ((σ 19 3) - k), .inl i] σ rfl ?_
      refine sw_icmp_gt k_X4_hasItems rfl (by omega) (by omega) 22 18 (by decide) rfl (fun c3 => ?_) (fun c3 => ?_)
      · refine sw_blk k_X4_hasItems 1 23 [(0, .inr (.inr 19)), (1, .inl i), (2, .inl k)] [.inl 0] σ rfl ?_
        refine sw_zreturn k_X4_hasItems rfl rfl (by decide) ?_
        exact ⟨rfl, Or.inr ⟨by omega, rfl⟩⟩
      · refine sw_blk k_X4_hasItems 2 23 [(0, .inr (.inr 19)), (1, .inl i), (2, .inl k)] [.inl 1] σ rfl ?_
        refine sw_zreturn k_X4_hasItems rfl rfl (by decide) ?_
        exact ⟨rfl, Or.inl ⟨by omega, rfl⟩⟩
theorem sp_hasItems3 (σ : sw_S) (i k : Int) (gi : sw_g i) (gk : sw_g k) (hs0 : 0 ≤ σ 21 3) (hs1 : σ 21 3 ≤ 60) : sw_Con sw_ly sw_rho M_X4_hasItems [.inr (.inr 21), .inl i, .inl k] σ (fun r σ' => σ = σ' ∧ ((0 ≤ i ∧ 0 ≤ k ∧ i ≤ σ 21 3 - k) ∧ r = some (.inl 1) ∨ ¬ (0 ≤ i ∧ 0 ≤ k ∧ i ≤ σ 21 3 - k) ∧ r = some (.inl 0))) := by
  refine sw_con (by decide) (Nat.le_of_ble_eq_true rfl) ?_
  refine sw_blk k_X4_hasItems 1 1 [(0, .inr (.inr 21)), (1, .inl i), (2, .inl k)] [.inl i] σ rfl ?_
  refine sw_if_lt k_X4_hasItems rfl (by omega) 22 4 (by decide) rfl (fun c1 => ?_) (fun c1 => ?_)
  · refine sw_blk k_X4_hasItems 1 23 [(0, .inr (.inr 21)), (1, .inl i), (2, .inl k)] [.inl 0] σ rfl ?_
    refine sw_zreturn k_X4_hasItems rfl rfl (by decide) ?_
    exact ⟨rfl, Or.inr ⟨by omega, rfl⟩⟩
  · refine sw_blk k_X4_hasItems 1 5 [(0, .inr (.inr 21)), (1, .inl i), (2, .inl k)] [.inl k] σ rfl ?_
    refine sw_if_lt k_X4_hasItems rfl (by omega) 22 8 (by decide) rfl (fun c2 => ?_) (fun c2 => ?_)
    · refine sw_blk k_X4_hasItems 1 23 [(0, .inr (.inr 21)), (1, .inl i), (2, .inl k)] [.inl 0] σ rfl ?_
      refine sw_zreturn k_X4_hasItems rfl rfl (by decide) ?_
      exact ⟨rfl, Or.inr ⟨by omega, rfl⟩⟩
    · refine sw_blk k_X4_hasItems 5 15 [(0, .inr (.inr 21)), (1, .inl i), (2, .inl k)] [.inl ((σ 21 3) - k), .inl i] σ rfl ?_
      refine sw_icmp_gt k_X4_hasItems rfl (by omega) (by omega) 22 18 (by decide) rfl (fun c3 => ?_) (fun c3 => ?_)
      · refine sw_blk k_X4_hasItems 1 23 [(0, .inr (.inr 21)), (1, .inl i), (2, .inl k)] [.inl 0] σ rfl ?_
        refine sw_zreturn k_X4_hasItems rfl rfl (by decide) ?_
        exact ⟨rfl, Or.inr ⟨by omega, rfl⟩⟩
      · refine sw_blk k_X4_hasItems 2 23 [(0, .inr (.inr 21)), (1, .inl i), (2, .inl k)] [.inl 1] σ rfl ?_
        refine sw_zreturn k_X4_hasItems rfl rfl (by decide) ?_
        exact ⟨rfl, Or.inl ⟨by omega, rfl⟩⟩
theorem sp_note (σ : sw_S) (p v h : Int) (h0 : 0 ≤ σ 6 1) (h1 : σ 6 1 < 1000000) : sw_Con sw_ly sw_rho M_X5_note [.inr (.inr 6), .inl p, .inl v, .inl h] σ (fun r σ' => (sw_u (sw_u (sw_u (sw_u σ 7 (σ 6 1 % 40 * 3).toNat p) 7 (σ 6 1 % 40 * 3 + 1).toNat v) 7 (σ 6 1 % 40 * 3 + 2).toNat h) 6 1 (σ 6 1 + 1)) = σ' ∧ r = none) := by
  refine sw_con (by decide) (Nat.le_of_ble_eq_true rfl) ?_
  refine sw_blk k_X5_note 3 6 [(0, .inr (.inr 6)), (1, .inl p), (2, .inl v), (3, .inl h)] [.inl 40, .inl (σ 6 1)] σ rfl ?_
  refine sw_callS k_X5_note rfl cS_J9_floorMod_7cf53 ml_X5_25 ⟨by decide, by decide⟩ [.inl (σ 6 1), .inl 40] [] rfl rfl (Nat.le_of_ble_eq_true rfl) 9 rfl (sp_floorMod σ (σ 6 1) 40 (by omega) (by decide) (by omega) (by decide)) (fun r1 σ2 hq3 => ?_)
  obtain ⟨rfl, rfl⟩ := hq3
  refine sw_blk k_X5_note 7 20 [(4, .inl (((σ 6 1) % 40) * 3)), (0, .inr (.inr 6)), (1, .inl p), (2, .inl v), (3, .inl h)] [.inl p, .inl (((σ 6 1) % 40) * 3), .inr (.inr 7)] σ rfl ?_
  refine sw_iast k_X5_note rfl (i := 7) (n := 120) rfl (by decide) (by omega) (by omega) 21 rfl ?_
  refine sw_blk k_X5_note 6 30 [(4, .inl (((σ 6 1) % 40) * 3)), (0, .inr (.inr 6)), (1, .inl p), (2, .inl v), (3, .inl h)] [.inl v, .inl ((((σ 6 1) % 40) * 3) + 1), .inr (.inr 7)] (sw_u σ 7 ((((σ 6 1) % 40) * 3).toNat) p) rfl ?_
  refine sw_iast k_X5_note rfl (i := 7) (n := 120) rfl (by decide) (by omega) (by omega) 31 rfl ?_
  refine sw_blk k_X5_note 6 40 [(4, .inl (((σ 6 1) % 40) * 3)), (0, .inr (.inr 6)), (1, .inl p), (2, .inl v), (3, .inl h)] [.inl h, .inl ((((σ 6 1) % 40) * 3) + 2), .inr (.inr 7)] (sw_u (sw_u σ 7 ((((σ 6 1) % 40) * 3).toNat) p) 7 (((((σ 6 1) % 40) * 3) + 1).toNat) v) rfl ?_
  refine sw_iast k_X5_note rfl (i := 7) (n := 120) rfl (by decide) (by omega) (by omega) 41 rfl ?_
  refine sw_blk k_X5_note 6 51 [(4, .inl (((σ 6 1) % 40) * 3)), (0, .inr (.inr 6)), (1, .inl p), (2, .inl v), (3, .inl h)] [] (sw_u (sw_u (sw_u (sw_u σ 7 ((((σ 6 1) % 40) * 3).toNat) p) 7 (((((σ 6 1) % 40) * 3) + 1).toNat) v) 7 (((((σ 6 1) % 40) * 3) + 2).toNat) h) 6 1 ((σ 6 1) + 1)) rfl ?_
  refine sw_vreturn k_X5_note rfl rfl ?_
  exact ⟨rfl, rfl⟩
theorem sp_latest (σ : sw_S) (i w : Int) (gi : 0 ≤ i ∧ i < 40) (gw : 0 ≤ w ∧ w ≤ 2) (h0 : i < σ 6 1) (h1 : σ 6 1 < 1000000) : sw_Con sw_ly sw_rho M_X5_latest [.inr (.inr 6), .inl i, .inl w] σ (fun r σ' => σ = σ' ∧ r = some (.inl (σ 7 ((σ 6 1 - 1 - i) % 40 * 3 + w).toNat))) := by
  refine sw_con (by decide) (Nat.le_of_ble_eq_true rfl) ?_
  refine sw_blk k_X5_latest 9 14 [(0, .inr (.inr 6)), (1, .inl i), (2, .inl w)] [.inl 40, .inl (((σ 6 1) - 1) - i), .inr (.inr 7)] σ rfl ?_
  refine sw_callS k_X5_latest rfl cS_J9_floorMod_7cf53 ml_X5_25 ⟨by decide, by decide⟩ [.inl (((σ 6 1) - 1) - i), .inl 40] [.inr (.inr 7)] rfl rfl (Nat.le_of_ble_eq_true rfl) 17 rfl (sp_floorMod σ (((σ 6 1) - 1) - i) 40 (by omega) (by decide) (by omega) (by decide)) (fun r1 σ2 hq3 => ?_)
  obtain ⟨rfl, rfl⟩ := hq3
  refine sw_blk k_X5_latest 4 21 [(0, .inr (.inr 6)), (1, .inl i), (2, .inl w)] [.inl ((((((σ 6 1) - 1) - i) % 40) * 3) + w), .inr (.inr 7)] σ rfl ?_
  refine sw_iald k_X5_latest rfl (i := 7) (n := 120) rfl (by decide) (by omega) (by omega) 22 rfl ?_
  refine sw_blk k_X5_latest 0 22 [(0, .inr (.inr 6)), (1, .inl i), (2, .inl w)] [.inl (σ 7 (((((((σ 6 1) - 1) - i) % 40) * 3) + w).toNat))] σ rfl ?_
  refine sw_ireturn k_X5_latest rfl rfl ?_
  exact ⟨rfl, rfl⟩
end
section
/-- all places between two allow a speed -/
def sw_rn (lim : Nat → Int) (p q t : Int) : Prop := ∀ x : Int, (p ≤ x ∧ x ≤ q ∨ q ≤ x ∧ x ≤ p) → t ≤ lim x.toNat
/-- a tick by v from p is within the laws -/
def sw_tk (lim : Nat → Int) (D V p v : Int) : Prop := sw_abs v ≤ V ∧ 0 ≤ p + v ∧ p + v ≤ D ∧ sw_rn lim p (p + v) (sw_abs v)
theorem sw_rn_step {lim : Nat → Int} {p s w t : Int} (hw : w = 1 ∨ w = -1) (hs : 1 ≤ s) : (t ≤ lim (p + w * s).toNat ∧ sw_rn lim p (p + w * (s - 1)) t) ↔ sw_rn lim p (p + w * s) t := by
  constructor
  · rintro ⟨h1, h2⟩ x hx
    by_cases e : x = p + w * s
    · rw [e]; exact h1
    · refine h2 x ?_
      rcases hw with rfl | rfl <;> omega
  · intro h
    refine ⟨h _ ?_, fun x hx => h x ?_⟩
    · rcases hw with rfl | rfl <;> omega
    · rcases hw with rfl | rfl <;> omega
theorem sw_gsp {lim : Nat → Int} {D V p s w : Int} (hw : w = 1 ∨ w = -1) (hp : 0 ≤ p ∧ p ≤ D) (hs : 1 ≤ s) (hsV : s ≤ V + 1) (h1 : 0 ≤ p + w * (s - 1) ∧ p + w * (s - 1) ≤ D) (h2 : sw_rn lim p (p + w * (s - 1)) (s - 1)) (h3 : s = V + 1 ∨ ¬ (0 ≤ p + w * s ∧ p + w * s ≤ D) ∨ ¬ sw_rn lim p (p + w * s) s) : ∀ t, 0 ≤ t → (sw_tk lim D V p (w * t) ↔ t ≤ s - 1) := by
  intro t ht
  have ha : sw_abs (w * t) = t := by unfold sw_abs; rcases hw with rfl | rfl <;> split <;> omega
  unfold sw_tk
  rw [ha]
  constructor
  · rintro ⟨a1, a2, a3, a4⟩
    rcases Int.lt_or_le (s - 1) t with q | q
    · exfalso
      rcases h3 with h3 | h3 | h3
      · omega
      · rcases hw with rfl | rfl <;> omega
      · refine h3 (fun x hx => ?_)
        have := a4 x (by rcases hw with rfl | rfl <;> omega)
        omega
    · exact q
  · intro q
    refine ⟨by omega, by rcases hw with rfl | rfl <;> omega, by rcases hw with rfl | rfl <;> omega, fun x hx => ?_⟩
    have := h2 x (by rcases hw with rfl | rfl <;> omega)
    omega
def sw_fl (σ : sw_S) (a n : Nat) (v : Int) : sw_S := fun i j => if i = a ∧ j < n then v else σ i j
theorem sw_fl_0 (σ : sw_S) (a : Nat) (v : Int) : sw_fl σ a 0 v = σ := by funext i j; simp [sw_fl]
theorem sw_fl_s (σ : sw_S) (a n : Nat) (v : Int) : sw_u (sw_fl σ a n v) a n v = sw_fl σ a (n + 1) v := by
  funext i j
  unfold sw_u sw_fl
  by_cases hi : i = a
  · subst hi
    by_cases hj : j = n
    · subst hj; simp
    · simp only [true_and]
      rw [if_neg hj]
      by_cases h : j < n
      · rw [if_pos h, if_pos (by omega)]
      · rw [if_neg h, if_neg (by omega)]
  · simp [hi]
theorem sw_fl_row (σ : sw_S) {a n i j : Nat} (v : Int) (h : i ≠ a) : sw_fl σ a n v i j = σ i j := by simp [sw_fl, h]
theorem sw_fl_in (σ : sw_S) {a n j : Nat} (v : Int) (h : j < n) : sw_fl σ a n v a j = v := by simp [sw_fl, h]
theorem sw_alenr {ly : sw_Ly} {ρ : sw_Rf} {M : sw_M} {I : List (Option sw_I)} {pc : Nat} {L : sw_L} {st : List sw_Vl} {σ : sw_S} {Q : Option sw_Vl → sw_S → Prop} (hI : sw_Ok M I) {a b : Nat} {z : Int} (h : I[pc]? = some (some (.arraylength, a, b, z))) {i n : Nat} (hk : ly[i]? = some (100, n)) (nx : Nat) (hn : pc + 1 = nx) (k : sw_E ly ρ M nx L (.inl (n : Int) :: st) σ Q) : sw_E ly ρ M pc L (.inr (.inr i) :: st) σ Q := by
  subst hn
  exact sw_step (g := (pc + 1, L, .inl (n : Int) :: st, σ)) hI h (by simp [sw_st, sw_pR, hk]) k
theorem lp_fill {ly : sw_Ly} {ρ : sw_Rf} (σ : sw_S) (a N : Nat) (v : Int) (hk : ly[a]? = some (100, N)) (hN : N ≤ 100000) (Q : Option sw_Vl → sw_S → Prop) (hQ : Q none (sw_fl σ a N v)) : ∀ (n j : Nat), j ≤ N → N - j < n → sw_E ly ρ M_J7_fill_53178 5 [(3, .inl (N : Int)), (2, .inl (j : Int)), (0, .inr (.inr a)), (1, .inl v)] [] (sw_fl σ a j v) Q := by
  intro n
  induction n with
  | zero => intro j h1 h2; omega
  | succ n ih =>
    intro j h1 h2
    refine sw_blk k_J7_fill_53178 2 7 [(3, .inl (N : Int)), (2, .inl (j : Int)), (0, .inr (.inr a)), (1, .inl v)] [.inl (N : Int), .inl (j : Int)] (sw_fl σ a j v) rfl ?_
    refine sw_icmp_ge k_J7_fill_53178 rfl (by omega) (by omega) 20 10 (by decide) rfl (fun c1 => ?_) (fun c1 => ?_)
    · have e : j = N := by omega
      subst e
      exact sw_vreturn k_J7_fill_53178 rfl rfl hQ
    · refine sw_blk k_J7_fill_53178 3 13 [(3, .inl (N : Int)), (2, .inl (j : Int)), (0, .inr (.inr a)), (1, .inl v)] [.inl v, .inl (j : Int), .inr (.inr a)] (sw_fl σ a j v) rfl ?_
      refine sw_iast k_J7_fill_53178 rfl hk (by omega) (by omega) (by omega) 14 rfl ?_
      refine sw_blk k_J7_fill_53178 2 5 [(2, .inl ((j : Int) + 1)), (3, .inl (N : Int)), (0, .inr (.inr a)), (1, .inl v)] [] (sw_u (sw_fl σ a j v) a j v) rfl ?_
      refine sw_Lsub [(3, .inl (N : Int)), (2, .inl ((j : Int) + 1)), (0, .inr (.inr a)), (1, .inl v)] [1, 0, 2, 3] rfl ?_
      rw [sw_fl_s]
      exact ih (j + 1) (by omega) (by omega)
theorem sp_fill {ly : sw_Ly} {ρ : sw_Rf} (σ : sw_S) (a N : Nat) (v : Int) (hk : ly[a]? = some (100, N)) (hN : N ≤ 100000) : sw_Con ly ρ M_J7_fill_53178 [.inr (.inr a), .inl v] σ (fun r σ' => sw_fl σ a N v = σ' ∧ r = none) := by
  refine sw_con (by decide) (Nat.le_of_ble_eq_true rfl) ?_
  refine sw_blk k_J7_fill_53178 3 3 [(2, .inl 0), (0, .inr (.inr a)), (1, .inl v)] [.inr (.inr a)] σ rfl ?_
  refine sw_alenr k_J7_fill_53178 rfl hk 4 rfl ?_
  refine sw_blk k_J7_fill_53178 1 5 [(3, .inl (N : Int)), (2, .inl 0), (0, .inr (.inr a)), (1, .inl v)] [] σ rfl ?_
  have h := lp_fill (ρ := ρ) σ a N v hk hN (fun r σ' => sw_fl σ a N v = σ' ∧ r = none) ⟨rfl, rfl⟩ (N + 1) 0 (by omega) (by omega)
  rw [sw_fl_0] at h
  exact h
theorem sp_renew (σ : sw_S) (d v a : Int) : sw_Con sw_ly sw_rho M_X3_renew [.inr (.inr 1), .inl d, .inl v, .inl a] σ (fun r σ' => (sw_fl (sw_u (sw_u (sw_u (sw_u σ 1 0 d) 1 1 v) 1 2 a) 1 3 0) 2 401 v) = σ' ∧ r = none) := by
  refine sw_con (by decide) (Nat.le_of_ble_eq_true rfl) ?_
  refine sw_blk k_X3_renew 15 25 [(0, .inr (.inr 1)), (1, .inl d), (2, .inl v), (3, .inl a)] [.inl v, .inr (.inr 2)] (sw_u (sw_u (sw_u (sw_u σ 1 0 d) 1 1 v) 1 2 a) 1 3 0) rfl ?_
  refine sw_callS k_X3_renew rfl cS_J7_fill_53178 ml_X3_32 ⟨by decide, by decide⟩ [.inr (.inr 2), .inl v] [] rfl rfl (Nat.le_of_ble_eq_true rfl) 28 rfl (sp_fill (sw_u (sw_u (sw_u (sw_u σ 1 0 d) 1 1 v) 1 2 a) 1 3 0) 2 401 v rfl (by decide)) (fun r1 σ2 hq3 => ?_)
  obtain ⟨rfl, rfl⟩ := hq3
  refine sw_blk k_X3_renew 0 28 [(0, .inr (.inr 1)), (1, .inl d), (2, .inl v), (3, .inl a)] [] (sw_fl (sw_u (sw_u (sw_u (sw_u σ 1 0 d) 1 1 v) 1 2 a) 1 3 0) 2 401 v) rfl ?_
  refine sw_vreturn k_X3_renew rfl rfl ?_
  exact ⟨rfl, rfl⟩
theorem sp_limitAt (σ : sw_S) (x : Int) (gx : sw_g x) (hd : 0 ≤ σ 1 0 ∧ σ 1 0 ≤ 400) : sw_Con sw_ly sw_rho M_X3_limitAt [.inr (.inr 1), .inl x] σ (fun r σ' => σ = σ' ∧ r = some (.inl (if 0 ≤ x ∧ x ≤ σ 1 0 then σ 2 x.toNat else σ 1 1))) := by
  refine sw_con (by decide) (Nat.le_of_ble_eq_true rfl) ?_
  refine sw_blk k_X3_limitAt 2 2 [(0, .inr (.inr 1)), (1, .inl x)] [.inl x, .inr (.inr 1)] σ rfl ?_
  refine sw_callV k_X3_limitAt rfl cV_X3_has ml_X3_47 ⟨by decide, by decide⟩ 1 rfl rfl [.inl x] [] rfl rfl (Nat.le_of_ble_eq_true rfl) 5 rfl (sp_has σ x (by omega) (by omega)) (fun r2 σ3 hq4 => ?_)
  obtain ⟨rfl, ⟨p1, rfl⟩ | ⟨p1, rfl⟩⟩ := hq4
  · refine sw_blk k_X3_limitAt 0 5 [(0, .inr (.inr 1)), (1, .inl x)] [.inl 1] σ rfl ?_
    refine sw_if_eq k_X3_limitAt rfl (by decide) 17 8 (by decide) rfl (fun c => absurd c (by decide)) (fun _ => ?_)
    refine sw_blk k_X3_limitAt 3 13 [(0, .inr (.inr 1)), (1, .inl x)] [.inl x, .inr (.inr 2)] σ rfl ?_
    refine sw_iald k_X3_limitAt rfl (i := 2) (n := 401) rfl (by decide) (by omega) (by omega) 14 rfl ?_
    refine sw_blk k_X3_limitAt 1 21 [(0, .inr (.inr 1)), (1, .inl x)] [.inl (σ 2 x.toNat)] σ rfl ?_
    refine sw_ireturn k_X3_limitAt rfl rfl ?_
    exact ⟨rfl, congrArg (fun q : Int => some (Sum.inl q)) (show ((σ 2 x.toNat) : Int) = (if 0 ≤ x ∧ x ≤ σ 1 0 then σ 2 x.toNat else σ 1 1) from by simp only [*]; try rfl)⟩
  · refine sw_blk k_X3_limitAt 0 5 [(0, .inr (.inr 1)), (1, .inl x)] [.inl 0] σ rfl ?_
    refine sw_if_eq k_X3_limitAt rfl (by decide) 17 8 (by decide) rfl (fun _ => ?_) (fun c => absurd (by decide) c)
    refine sw_blk k_X3_limitAt 2 21 [(0, .inr (.inr 1)), (1, .inl x)] [.inl (σ 1 1)] σ rfl ?_
    refine sw_ireturn k_X3_limitAt rfl rfl ?_
    exact ⟨rfl, congrArg (fun q : Int => some (Sum.inl q)) (show ((σ 1 1) : Int) = (if 0 ≤ x ∧ x ≤ σ 1 0 then σ 2 x.toNat else σ 1 1) from by simp only [*]; try rfl)⟩
theorem lp_gspd (σ : sw_S) (hσ : sw_gs σ) (p : Int) (hp : 0 ≤ p ∧ p ≤ σ 1 0) (hD : σ 1 0 ≤ 400) (hV : 1 ≤ σ 1 1 ∧ σ 1 1 ≤ 20) (Q : Option sw_Vl → sw_S → Prop) (hQ : ∀ g : Int, 0 ≤ g → g ≤ σ 1 1 → (∀ t, 0 ≤ t → (sw_tk (σ 2) (σ 1 0) (σ 1 1) p (1 * t) ↔ t ≤ g)) → Q (some (.inl g)) σ) : ∀ (n : Nat) (s lm : Int), 1 ≤ s → s ≤ σ 1 1 + 1 → 0 ≤ p + 1 * (s - 1) ∧ p + 1 * (s - 1) ≤ σ 1 0 → sw_rn (σ 2) p (p + 1 * (s - 1)) (s - 1) → (∀ t, t ≤ lm ↔ sw_rn (σ 2) p (p + 1 * (s - 1)) t) → sw_g lm → (22 - s).toNat < n → sw_E sw_ly sw_rho M_X3_greatestSpeed 20 [(4, .inl s), (3, .inl lm), (0, .inr (.inr 1)), (1, .inl p), (2, .inl 1)] [] σ Q := by
  intro n
  induction n with
  | zero =>
    intro s lm hs hsV h1 h2 hm gm hn
    omega
  | succ n ih =>
    intro s lm hs hsV h1 h2 hm gm hn
    refine sw_blk k_X3_greatestSpeed 3 26 [(4, .inl s), (3, .inl lm), (0, .inr (.inr 1)), (1, .inl p), (2, .inl 1)] [.inl (σ 1 1), .inl s] σ rfl ?_
    refine sw_icmp_gt k_X3_greatestSpeed rfl (by omega) (hσ 1 _) 80 29 (by decide) rfl (fun c1 => ?_) (fun c1 => ?_)
    · refine sw_blk k_X3_greatestSpeed 2 84 [(4, .inl s), (3, .inl lm), (0, .inr (.inr 1)), (1, .inl p), (2, .inl 1)] [.inl (σ 1 1)] σ rfl ?_
      refine sw_ireturn k_X3_greatestSpeed rfl rfl ?_
      have es : s = σ 1 1 + 1 := by omega
      refine hQ _ (by omega) (by omega) (fun t ht => ?_)
      have := sw_gsp (Or.inl rfl) hp hs hsV h1 h2 (Or.inl es) t ht
      rw [this]; omega
    · refine sw_blk k_X3_greatestSpeed 8 40 [(5, .inl (p + (1 * s))), (4, .inl s), (3, .inl lm), (0, .inr (.inr 1)), (1, .inl p), (2, .inl 1)] [.inl (p + (1 * s)), .inr (.inr 1)] σ rfl ?_
      refine sw_callV k_X3_greatestSpeed rfl cV_X3_has ml_X3_47 ⟨by decide, by decide⟩ 1 rfl rfl [.inl (p + (1 * s))] [] rfl rfl (Nat.le_of_ble_eq_true rfl) 43 rfl (sp_has σ (p + (1 * s)) (by omega) (hσ 1 _)) (fun r3 σ4 hq5 => ?_)
      obtain ⟨rfl, ⟨p2, rfl⟩ | ⟨p2, rfl⟩⟩ := hq5
      · refine sw_blk k_X3_greatestSpeed 0 43 [(5, .inl (p + (1 * s))), (4, .inl s), (3, .inl lm), (0, .inr (.inr 1)), (1, .inl p), (2, .inl 1)] [.inl 1] σ rfl ?_
        refine sw_if_ne k_X3_greatestSpeed rfl (by decide) 51 46 (by decide) rfl (fun _ => ?_) (fun c => absurd c (by decide))
        refine sw_blk k_X3_greatestSpeed 4 58 [(5, .inl (p + (1 * s))), (4, .inl s), (3, .inl lm), (0, .inr (.inr 1)), (1, .inl p), (2, .inl 1)] [.inl (p + (1 * s)), .inr (.inr 2), .inl lm] σ rfl ?_
        refine sw_iald k_X3_greatestSpeed rfl (i := 2) (n := 401) rfl (by decide) (by omega) (by omega) 59 rfl ?_
        refine sw_blk k_X3_greatestSpeed 0 59 [(5, .inl (p + (1 * s))), (4, .inl s), (3, .inl lm), (0, .inr (.inr 1)), (1, .inl p), (2, .inl 1)] [.inl (σ 2 ((p + (1 * s)).toNat)), .inl lm] σ rfl ?_
        refine sw_callS k_X3_greatestSpeed rfl cS_J9_min_7cf53 ml_X3_44 ⟨by decide, by decide⟩ [.inl lm, .inl (σ 2 ((p + (1 * s)).toNat))] [] rfl rfl (Nat.le_of_ble_eq_true rfl) 62 rfl (sp_min σ lm (σ 2 (p + (1 * s)).toNat) (by omega) (hσ 2 _)) (fun r6 σ7 hq8 => ?_)
        obtain ⟨rfl, rfl⟩ := hq8
        have gl := hσ 2 (p + (1 * s)).toNat
        have hm2 : ∀ t, t ≤ min lm (σ 2 (p + (1 * s)).toNat) ↔ sw_rn (σ 2) p (p + 1 * s) t := fun t => by rw [← sw_rn_step (Or.inl rfl) hs, ← hm t]; omega
        refine sw_blk k_X3_greatestSpeed 3 66 [(3, .inl (min lm (σ 2 (p + (1 * s)).toNat))), (5, .inl (p + (1 * s))), (4, .inl s), (0, .inr (.inr 1)), (1, .inl p), (2, .inl 1)] [.inl (min lm (σ 2 (p + (1 * s)).toNat)), .inl s] σ rfl ?_
        refine sw_icmp_le k_X3_greatestSpeed rfl (by omega) (by omega) 74 69 (by decide) rfl (fun c9 => ?_) (fun c9 => ?_)
        · refine sw_blk k_X3_greatestSpeed 2 20 [(4, .inl (s + 1)), (3, .inl (min lm (σ 2 (p + (1 * s)).toNat))), (5, .inl (p + (1 * s))), (0, .inr (.inr 1)), (1, .inl p), (2, .inl 1)] [] σ rfl ?_
          refine sw_Lsub [(4, .inl (s + 1)), (3, .inl (min lm (σ 2 (p + (1 * s)).toNat))), (0, .inr (.inr 1)), (1, .inl p), (2, .inl 1)] [0, 1, 3, 4, 5] rfl ?_
          exact ih (s + 1) _ (by omega) (by omega) (by rw [show s + 1 - 1 = s by omega]; omega) (by rw [show s + 1 - 1 = s by omega]; exact (hm2 s).mp (by omega)) (by rw [show s + 1 - 1 = s by omega]; exact hm2) (by omega) (by omega)
        · refine sw_blk k_X3_greatestSpeed 3 73 [(3, .inl (min lm (σ 2 (p + (1 * s)).toNat))), (5, .inl (p + (1 * s))), (4, .inl s), (0, .inr (.inr 1)), (1, .inl p), (2, .inl 1)] [.inl (s - 1)] σ rfl ?_
          refine sw_ireturn k_X3_greatestSpeed rfl rfl ?_
          exact hQ _ (by omega) (by omega) (sw_gsp (Or.inl rfl) hp hs hsV h1 h2 (Or.inr (Or.inr (fun q => absurd ((hm2 s).mpr q) (by omega)))))
      · refine sw_blk k_X3_greatestSpeed 0 43 [(5, .inl (p + (1 * s))), (4, .inl s), (3, .inl lm), (0, .inr (.inr 1)), (1, .inl p), (2, .inl 1)] [.inl 0] σ rfl ?_
        refine sw_if_ne k_X3_greatestSpeed rfl (by decide) 51 46 (by decide) rfl (fun c => absurd (by decide) c) (fun _ => ?_)
        refine sw_blk k_X3_greatestSpeed 3 50 [(5, .inl (p + (1 * s))), (4, .inl s), (3, .inl lm), (0, .inr (.inr 1)), (1, .inl p), (2, .inl 1)] [.inl (s - 1)] σ rfl ?_
        refine sw_ireturn k_X3_greatestSpeed rfl rfl ?_
        exact hQ _ (by omega) (by omega) (sw_gsp (Or.inl rfl) hp hs hsV h1 h2 (Or.inr (Or.inl (by omega))))
theorem sp_gspd (σ : sw_S) (hσ : sw_gs σ) (p : Int) (hp : 0 ≤ p ∧ p ≤ σ 1 0) (hD : σ 1 0 ≤ 400) (hV : 1 ≤ σ 1 1 ∧ σ 1 1 ≤ 20) (h0 : ∀ x : Int, 0 ≤ x → x ≤ σ 1 0 → 0 ≤ σ 2 x.toNat) : sw_Con sw_ly sw_rho M_X3_greatestSpeed [.inr (.inr 1), .inl p, .inl 1] σ (fun r σ' => σ = σ' ∧ ∃ g : Int, r = some (.inl g) ∧ 0 ≤ g ∧ g ≤ σ 1 1 ∧ ∀ t, 0 ≤ t → (sw_tk (σ 2) (σ 1 0) (σ 1 1) p (1 * t) ↔ t ≤ g)) := by
  refine sw_con (by decide) (Nat.le_of_ble_eq_true rfl) ?_
  refine sw_blk k_X3_greatestSpeed 2 2 [(0, .inr (.inr 1)), (1, .inl p), (2, .inl 1)] [.inl p, .inr (.inr 1)] σ rfl ?_
  refine sw_callV k_X3_greatestSpeed rfl cV_X3_has ml_X3_47 ⟨by decide, by decide⟩ 1 rfl rfl [.inl p] [] rfl rfl (Nat.le_of_ble_eq_true rfl) 5 rfl (sp_has σ p (by omega) (hσ 1 0)) (fun r1 σ1 hq => ?_)
  obtain ⟨rfl, ⟨p1, rfl⟩ | ⟨p1, rfl⟩⟩ := hq
  · refine sw_blk k_X3_greatestSpeed 0 5 [(0, .inr (.inr 1)), (1, .inl p), (2, .inl 1)] [.inl 1] σ rfl ?_
    refine sw_if_ne k_X3_greatestSpeed rfl (by decide) 10 8 (by decide) rfl (fun _ => ?_) (fun c => absurd c (by decide))
    refine sw_blk k_X3_greatestSpeed 3 15 [(0, .inr (.inr 1)), (1, .inl p), (2, .inl 1)] [.inl p, .inr (.inr 2)] σ rfl ?_
    refine sw_iald k_X3_greatestSpeed rfl (i := 2) (n := 401) rfl (by decide) (by omega) (by omega) 16 rfl ?_
    refine sw_blk k_X3_greatestSpeed 3 20 [(4, .inl 1), (3, .inl (σ 2 p.toNat)), (0, .inr (.inr 1)), (1, .inl p), (2, .inl 1)] [] σ rfl ?_
    have e0 : p + 1 * ((1 : Int) - 1) = p := by omega
    refine lp_gspd σ hσ p hp hD hV _ (fun g g1 g2 g3 => ⟨rfl, g, rfl, g1, g2, g3⟩) 22 1 _ (by omega) (by omega) (by omega) ?_ ?_ (hσ 2 _) (by omega)
    · rw [e0]
      intro x hx
      have : x = p := by omega
      subst this
      have := h0 x hp.1 hp.2
      omega
    · rw [e0]
      intro t
      constructor
      · intro q x hx
        have : x = p := by omega
        subst this
        exact q
      · intro q
        exact q p (by omega)
  · exact absurd hp p1
theorem lp_gspu (σ : sw_S) (hσ : sw_gs σ) (p : Int) (hp : 0 ≤ p ∧ p ≤ σ 1 0) (hD : σ 1 0 ≤ 400) (hV : 1 ≤ σ 1 1 ∧ σ 1 1 ≤ 20) (Q : Option sw_Vl → sw_S → Prop) (hQ : ∀ g : Int, 0 ≤ g → g ≤ σ 1 1 → (∀ t, 0 ≤ t → (sw_tk (σ 2) (σ 1 0) (σ 1 1) p ((-1) * t) ↔ t ≤ g)) → Q (some (.inl g)) σ) : ∀ (n : Nat) (s lm : Int), 1 ≤ s → s ≤ σ 1 1 + 1 → 0 ≤ p + (-1) * (s - 1) ∧ p + (-1) * (s - 1) ≤ σ 1 0 → sw_rn (σ 2) p (p + (-1) * (s - 1)) (s - 1) → (∀ t, t ≤ lm ↔ sw_rn (σ 2) p (p + (-1) * (s - 1)) t) → sw_g lm → (22 - s).toNat < n → sw_E sw_ly sw_rho M_X3_greatestSpeed 20 [(4, .inl s), (3, .inl lm), (0, .inr (.inr 1)), (1, .inl p), (2, .inl (-1))] [] σ Q := by
  intro n
  induction n with
  | zero =>
    intro s lm hs hsV h1 h2 hm gm hn
    omega
  | succ n ih =>
    intro s lm hs hsV h1 h2 hm gm hn
    refine sw_blk k_X3_greatestSpeed 3 26 [(4, .inl s), (3, .inl lm), (0, .inr (.inr 1)), (1, .inl p), (2, .inl (-1))] [.inl (σ 1 1), .inl s] σ rfl ?_
    refine sw_icmp_gt k_X3_greatestSpeed rfl (by omega) (hσ 1 _) 80 29 (by decide) rfl (fun c1 => ?_) (fun c1 => ?_)
    · refine sw_blk k_X3_greatestSpeed 2 84 [(4, .inl s), (3, .inl lm), (0, .inr (.inr 1)), (1, .inl p), (2, .inl (-1))] [.inl (σ 1 1)] σ rfl ?_
      refine sw_ireturn k_X3_greatestSpeed rfl rfl ?_
      have es : s = σ 1 1 + 1 := by omega
      refine hQ _ (by omega) (by omega) (fun t ht => ?_)
      have := sw_gsp (Or.inr rfl) hp hs hsV h1 h2 (Or.inl es) t ht
      rw [this]; omega
    · refine sw_blk k_X3_greatestSpeed 8 40 [(5, .inl (p + ((-1) * s))), (4, .inl s), (3, .inl lm), (0, .inr (.inr 1)), (1, .inl p), (2, .inl (-1))] [.inl (p + ((-1) * s)), .inr (.inr 1)] σ rfl ?_
      refine sw_callV k_X3_greatestSpeed rfl cV_X3_has ml_X3_47 ⟨by decide, by decide⟩ 1 rfl rfl [.inl (p + ((-1) * s))] [] rfl rfl (Nat.le_of_ble_eq_true rfl) 43 rfl (sp_has σ (p + ((-1) * s)) (by omega) (hσ 1 _)) (fun r3 σ4 hq5 => ?_)
      obtain ⟨rfl, ⟨p2, rfl⟩ | ⟨p2, rfl⟩⟩ := hq5
      · refine sw_blk k_X3_greatestSpeed 0 43 [(5, .inl (p + ((-1) * s))), (4, .inl s), (3, .inl lm), (0, .inr (.inr 1)), (1, .inl p), (2, .inl (-1))] [.inl 1] σ rfl ?_
        refine sw_if_ne k_X3_greatestSpeed rfl (by decide) 51 46 (by decide) rfl (fun _ => ?_) (fun c => absurd c (by decide))
        refine sw_blk k_X3_greatestSpeed 4 58 [(5, .inl (p + ((-1) * s))), (4, .inl s), (3, .inl lm), (0, .inr (.inr 1)), (1, .inl p), (2, .inl (-1))] [.inl (p + ((-1) * s)), .inr (.inr 2), .inl lm] σ rfl ?_
        refine sw_iald k_X3_greatestSpeed rfl (i := 2) (n := 401) rfl (by decide) (by omega) (by omega) 59 rfl ?_
        refine sw_blk k_X3_greatestSpeed 0 59 [(5, .inl (p + ((-1) * s))), (4, .inl s), (3, .inl lm), (0, .inr (.inr 1)), (1, .inl p), (2, .inl (-1))] [.inl (σ 2 ((p + ((-1) * s)).toNat)), .inl lm] σ rfl ?_
        refine sw_callS k_X3_greatestSpeed rfl cS_J9_min_7cf53 ml_X3_44 ⟨by decide, by decide⟩ [.inl lm, .inl (σ 2 ((p + ((-1) * s)).toNat))] [] rfl rfl (Nat.le_of_ble_eq_true rfl) 62 rfl (sp_min σ lm (σ 2 (p + ((-1) * s)).toNat) (by omega) (hσ 2 _)) (fun r6 σ7 hq8 => ?_)
        obtain ⟨rfl, rfl⟩ := hq8
        have gl := hσ 2 (p + ((-1) * s)).toNat
        have hm2 : ∀ t, t ≤ min lm (σ 2 (p + ((-1) * s)).toNat) ↔ sw_rn (σ 2) p (p + (-1) * s) t := fun t => by rw [← sw_rn_step (Or.inr rfl) hs, ← hm t]; omega
        refine sw_blk k_X3_greatestSpeed 3 66 [(3, .inl (min lm (σ 2 (p + ((-1) * s)).toNat))), (5, .inl (p + ((-1) * s))), (4, .inl s), (0, .inr (.inr 1)), (1, .inl p), (2, .inl (-1))] [.inl (min lm (σ 2 (p + ((-1) * s)).toNat)), .inl s] σ rfl ?_
        refine sw_icmp_le k_X3_greatestSpeed rfl (by omega) (by omega) 74 69 (by decide) rfl (fun c9 => ?_) (fun c9 => ?_)
        · refine sw_blk k_X3_greatestSpeed 2 20 [(4, .inl (s + 1)), (3, .inl (min lm (σ 2 (p + ((-1) * s)).toNat))), (5, .inl (p + ((-1) * s))), (0, .inr (.inr 1)), (1, .inl p), (2, .inl (-1))] [] σ rfl ?_
          refine sw_Lsub [(4, .inl (s + 1)), (3, .inl (min lm (σ 2 (p + ((-1) * s)).toNat))), (0, .inr (.inr 1)), (1, .inl p), (2, .inl (-1))] [0, 1, 3, 4, 5] rfl ?_
          exact ih (s + 1) _ (by omega) (by omega) (by rw [show s + 1 - 1 = s by omega]; omega) (by rw [show s + 1 - 1 = s by omega]; exact (hm2 s).mp (by omega)) (by rw [show s + 1 - 1 = s by omega]; exact hm2) (by omega) (by omega)
        · refine sw_blk k_X3_greatestSpeed 3 73 [(3, .inl (min lm (σ 2 (p + ((-1) * s)).toNat))), (5, .inl (p + ((-1) * s))), (4, .inl s), (0, .inr (.inr 1)), (1, .inl p), (2, .inl (-1))] [.inl (s - 1)] σ rfl ?_
          refine sw_ireturn k_X3_greatestSpeed rfl rfl ?_
          exact hQ _ (by omega) (by omega) (sw_gsp (Or.inr rfl) hp hs hsV h1 h2 (Or.inr (Or.inr (fun q => absurd ((hm2 s).mpr q) (by omega)))))
      · refine sw_blk k_X3_greatestSpeed 0 43 [(5, .inl (p + ((-1) * s))), (4, .inl s), (3, .inl lm), (0, .inr (.inr 1)), (1, .inl p), (2, .inl (-1))] [.inl 0] σ rfl ?_
        refine sw_if_ne k_X3_greatestSpeed rfl (by decide) 51 46 (by decide) rfl (fun c => absurd (by decide) c) (fun _ => ?_)
        refine sw_blk k_X3_greatestSpeed 3 50 [(5, .inl (p + ((-1) * s))), (4, .inl s), (3, .inl lm), (0, .inr (.inr 1)), (1, .inl p), (2, .inl (-1))] [.inl (s - 1)] σ rfl ?_
        refine sw_ireturn k_X3_greatestSpeed rfl rfl ?_
        exact hQ _ (by omega) (by omega) (sw_gsp (Or.inr rfl) hp hs hsV h1 h2 (Or.inr (Or.inl (by omega))))
theorem sp_gspu (σ : sw_S) (hσ : sw_gs σ) (p : Int) (hp : 0 ≤ p ∧ p ≤ σ 1 0) (hD : σ 1 0 ≤ 400) (hV : 1 ≤ σ 1 1 ∧ σ 1 1 ≤ 20) (h0 : ∀ x : Int, 0 ≤ x → x ≤ σ 1 0 → 0 ≤ σ 2 x.toNat) : sw_Con sw_ly sw_rho M_X3_greatestSpeed [.inr (.inr 1), .inl p, .inl (-1)] σ (fun r σ' => σ = σ' ∧ ∃ g : Int, r = some (.inl g) ∧ 0 ≤ g ∧ g ≤ σ 1 1 ∧ ∀ t, 0 ≤ t → (sw_tk (σ 2) (σ 1 0) (σ 1 1) p ((-1) * t) ↔ t ≤ g)) := by
  refine sw_con (by decide) (Nat.le_of_ble_eq_true rfl) ?_
  refine sw_blk k_X3_greatestSpeed 2 2 [(0, .inr (.inr 1)), (1, .inl p), (2, .inl (-1))] [.inl p, .inr (.inr 1)] σ rfl ?_
  refine sw_callV k_X3_greatestSpeed rfl cV_X3_has ml_X3_47 ⟨by decide, by decide⟩ 1 rfl rfl [.inl p] [] rfl rfl (Nat.le_of_ble_eq_true rfl) 5 rfl (sp_has σ p (by omega) (hσ 1 0)) (fun r1 σ1 hq => ?_)
  obtain ⟨rfl, ⟨p1, rfl⟩ | ⟨p1, rfl⟩⟩ := hq
  · refine sw_blk k_X3_greatestSpeed 0 5 [(0, .inr (.inr 1)), (1, .inl p), (2, .inl (-1))] [.inl 1] σ rfl ?_
    refine sw_if_ne k_X3_greatestSpeed rfl (by decide) 10 8 (by decide) rfl (fun _ => ?_) (fun c => absurd c (by decide))
    refine sw_blk k_X3_greatestSpeed 3 15 [(0, .inr (.inr 1)), (1, .inl p), (2, .inl (-1))] [.inl p, .inr (.inr 2)] σ rfl ?_
    refine sw_iald k_X3_greatestSpeed rfl (i := 2) (n := 401) rfl (by decide) (by omega) (by omega) 16 rfl ?_
    refine sw_blk k_X3_greatestSpeed 3 20 [(4, .inl 1), (3, .inl (σ 2 p.toNat)), (0, .inr (.inr 1)), (1, .inl p), (2, .inl (-1))] [] σ rfl ?_
    have e0 : p + (-1) * ((1 : Int) - 1) = p := by omega
    refine lp_gspu σ hσ p hp hD hV _ (fun g g1 g2 g3 => ⟨rfl, g, rfl, g1, g2, g3⟩) 22 1 _ (by omega) (by omega) (by omega) ?_ ?_ (hσ 2 _) (by omega)
    · rw [e0]
      intro x hx
      have : x = p := by omega
      subst this
      have := h0 x hp.1 hp.2
      omega
    · rw [e0]
      intro t
      constructor
      · intro q x hx
        have : x = p := by omega
        subst this
        exact q
      · intro q
        exact q p (by omega)
  · exact absurd hp p1
end
section
theorem sw_alw {lim : Nat → Int} {D V p v g w : Int} (hw : v = w * sw_abs v) (hg : ∀ t, 0 ≤ t → (sw_tk lim D V p (w * t) ↔ t ≤ g)) : sw_tk lim D V p v ↔ sw_abs v ≤ g := by
  have h := hg (sw_abs v) (by unfold sw_abs; omega)
  rw [← hw] at h
  exact h
theorem sp_allows (σ : sw_S) (hσ : sw_gs σ) (hD : 10 ≤ σ 1 0 ∧ σ 1 0 ≤ 400) (hV : 1 ≤ σ 1 1 ∧ σ 1 1 ≤ 20) (hA : 1 ≤ σ 1 2 ∧ σ 1 2 ≤ 5) (hL : ∀ x : Int, 0 ≤ x → x ≤ σ 1 0 → 1 ≤ σ 2 x.toNat ∧ σ 2 x.toNat ≤ σ 1 1) (p : Int) (hp : 0 ≤ p ∧ p ≤ σ 1 0) (b : Int) (hb : -20 ≤ b ∧ b ≤ 20) (v : Int) (gv : sw_g v) : sw_Con sw_ly sw_rho M_X3_allowsTick [.inr (.inr 1), .inl p, .inl b, .inl v] σ (fun r σ' => σ = σ' ∧ ((sw_abs (v - b) ≤ σ 1 2 ∧ sw_tk (σ 2) (σ 1 0) (σ 1 1) p v) ∧ r = some (.inl 1) ∨ ¬ (sw_abs (v - b) ≤ σ 1 2 ∧ sw_tk (σ 2) (σ 1 0) (σ 1 1) p v) ∧ r = some (.inl 0))) := by
  refine sw_con (by decide) (Nat.le_of_ble_eq_true rfl) ?_
  refine sw_blk k_X3_allowsTick 4 6 [(0, .inr (.inr 1)), (1, .inl p), (2, .inl b), (3, .inl v)] [.inl (-(σ 1 1)), .inl v] σ rfl ?_
  refine sw_icmp_lt k_X3_allowsTick rfl (by omega) (by omega) 17 9 (by decide) rfl (fun c1 => ?_) (fun c1 => ?_)
  · refine sw_blk k_X3_allowsTick 1 18 [(0, .inr (.inr 1)), (1, .inl p), (2, .inl b), (3, .inl v)] [.inl 0] σ rfl ?_
    refine sw_zreturn k_X3_allowsTick rfl rfl (by decide) ?_
    exact ⟨rfl, Or.inr ⟨fun q => by have := q.2.1; unfold sw_abs at this; omega, rfl⟩⟩
  · refine sw_blk k_X3_allowsTick 3 14 [(0, .inr (.inr 1)), (1, .inl p), (2, .inl b), (3, .inl v)] [.inl (σ 1 1), .inl v] σ rfl ?_
    refine sw_icmp_le k_X3_allowsTick rfl (by omega) (hσ 1 _) 19 17 (by decide) rfl (fun c2 => ?_) (fun c2 => ?_)
    · refine sw_blk k_X3_allowsTick 3 22 [(0, .inr (.inr 1)), (1, .inl p), (2, .inl b), (3, .inl v)] [.inl (v - b)] σ rfl ?_
      refine sw_callS k_X3_allowsTick rfl cS_J9_abs_0f7a4 ml_X3_51 ⟨by decide, by decide⟩ [.inl (v - b)] [] rfl rfl (Nat.le_of_ble_eq_true rfl) 25 rfl (sp_abs σ (v - b) (by omega)) (fun r3 σ4 hq5 => ?_)
      obtain ⟨rfl, rfl⟩ := hq5
      refine sw_blk k_X3_allowsTick 2 29 [(0, .inr (.inr 1)), (1, .inl p), (2, .inl b), (3, .inl v)] [.inl (σ 1 2), .inl (sw_abs (v - b))] σ rfl ?_
      refine sw_icmp_le k_X3_allowsTick rfl (by unfold sw_abs; omega) (hσ 1 _) 34 32 (by decide) rfl (fun c6 => ?_) (fun c6 => ?_)
      · refine sw_blk k_X3_allowsTick 1 35 [(0, .inr (.inr 1)), (1, .inl p), (2, .inl b), (3, .inl v)] [.inl v] σ rfl ?_
        refine sw_callS k_X3_allowsTick rfl cS_J9_abs_0f7a4 ml_X3_51 ⟨by decide, by decide⟩ [.inl v] [] rfl rfl (Nat.le_of_ble_eq_true rfl) 38 rfl (sp_abs σ v (by omega)) (fun r7 σ8 hq9 => ?_)
        obtain ⟨rfl, rfl⟩ := hq9
        refine sw_blk k_X3_allowsTick 3 41 [(0, .inr (.inr 1)), (1, .inl p), (2, .inl b), (3, .inl v)] [.inl v, .inl p, .inr (.inr 1), .inl (sw_abs v)] σ rfl ?_
        refine sw_if_ge k_X3_allowsTick rfl (by omega) 48 44 (by decide) rfl (fun c10 => ?_) (fun c10 => ?_)
        · refine sw_blk k_X3_allowsTick 1 49 [(0, .inr (.inr 1)), (1, .inl p), (2, .inl b), (3, .inl v)] [.inl 1, .inl p, .inr (.inr 1), .inl (sw_abs v)] σ rfl ?_
          refine sw_callV k_X3_allowsTick rfl cV_X3_greatestSpeed ml_X3_55 ⟨by decide, by decide⟩ 1 rfl rfl [.inl p, .inl 1] [.inl (sw_abs v)] rfl rfl (Nat.le_of_ble_eq_true rfl) 52 rfl (sp_gspd σ hσ p (by omega) hD.2 hV (fun x q1 q2 => by have := hL x q1 q2; omega)) (fun r15 σ16 hq17 => ?_)
          obtain ⟨rfl, g11, rfl, a12, b13, hg14⟩ := hq17
          refine sw_blk k_X3_allowsTick 0 52 [(0, .inr (.inr 1)), (1, .inl p), (2, .inl b), (3, .inl v)] [.inl g11, .inl (sw_abs v)] σ rfl ?_
          refine sw_icmp_gt k_X3_allowsTick rfl (by unfold sw_abs; omega) (by omega) 59 55 (by decide) rfl (fun c18 => ?_) (fun c18 => ?_)
          · refine sw_blk k_X3_allowsTick 1 60 [(0, .inr (.inr 1)), (1, .inl p), (2, .inl b), (3, .inl v)] [.inl 0] σ rfl ?_
            refine sw_zreturn k_X3_allowsTick rfl rfl (by decide) ?_
            exact ⟨rfl, Or.inr ⟨fun q => by have := (sw_alw (w := 1) (by unfold sw_abs; omega) hg14).mp q.2; omega, rfl⟩⟩
          · refine sw_blk k_X3_allowsTick 2 60 [(0, .inr (.inr 1)), (1, .inl p), (2, .inl b), (3, .inl v)] [.inl 1] σ rfl ?_
            refine sw_zreturn k_X3_allowsTick rfl rfl (by decide) ?_
            exact ⟨rfl, Or.inl ⟨⟨by omega, (sw_alw (w := 1) (by unfold sw_abs; omega) hg14).mpr (by omega)⟩, rfl⟩⟩
        · refine sw_blk k_X3_allowsTick 2 49 [(0, .inr (.inr 1)), (1, .inl p), (2, .inl b), (3, .inl v)] [.inl (-1), .inl p, .inr (.inr 1), .inl (sw_abs v)] σ rfl ?_
          refine sw_callV k_X3_allowsTick rfl cV_X3_greatestSpeed ml_X3_55 ⟨by decide, by decide⟩ 1 rfl rfl [.inl p, .inl (-1)] [.inl (sw_abs v)] rfl rfl (Nat.le_of_ble_eq_true rfl) 52 rfl (sp_gspu σ hσ p (by omega) hD.2 hV (fun x q1 q2 => by have := hL x q1 q2; omega)) (fun r23 σ24 hq25 => ?_)
          obtain ⟨rfl, g19, rfl, a20, b21, hg22⟩ := hq25
          refine sw_blk k_X3_allowsTick 0 52 [(0, .inr (.inr 1)), (1, .inl p), (2, .inl b), (3, .inl v)] [.inl g19, .inl (sw_abs v)] σ rfl ?_
          refine sw_icmp_gt k_X3_allowsTick rfl (by unfold sw_abs; omega) (by omega) 59 55 (by decide) rfl (fun c26 => ?_) (fun c26 => ?_)
          · refine sw_blk k_X3_allowsTick 1 60 [(0, .inr (.inr 1)), (1, .inl p), (2, .inl b), (3, .inl v)] [.inl 0] σ rfl ?_
            refine sw_zreturn k_X3_allowsTick rfl rfl (by decide) ?_
            exact ⟨rfl, Or.inr ⟨fun q => by have := (sw_alw (w := (-1)) (by unfold sw_abs; omega) hg22).mp q.2; omega, rfl⟩⟩
          · refine sw_blk k_X3_allowsTick 2 60 [(0, .inr (.inr 1)), (1, .inl p), (2, .inl b), (3, .inl v)] [.inl 1] σ rfl ?_
            refine sw_zreturn k_X3_allowsTick rfl rfl (by decide) ?_
            exact ⟨rfl, Or.inl ⟨⟨by omega, (sw_alw (w := (-1)) (by unfold sw_abs; omega) hg22).mpr (by omega)⟩, rfl⟩⟩
      · refine sw_blk k_X3_allowsTick 1 33 [(0, .inr (.inr 1)), (1, .inl p), (2, .inl b), (3, .inl v)] [.inl 0] σ rfl ?_
        refine sw_zreturn k_X3_allowsTick rfl rfl (by decide) ?_
        exact ⟨rfl, Or.inr ⟨fun q => by have := q.1; omega, rfl⟩⟩
    · refine sw_blk k_X3_allowsTick 1 18 [(0, .inr (.inr 1)), (1, .inl p), (2, .inl b), (3, .inl v)] [.inl 0] σ rfl ?_
      refine sw_zreturn k_X3_allowsTick rfl rfl (by decide) ?_
      exact ⟨rfl, Or.inr ⟨fun q => by have := q.2.1; unfold sw_abs at this; omega, rfl⟩⟩
def sw_pl (f : Nat → Int) (p : Int) : Nat → Int
  | 0 => p
  | n + 1 => sw_pl f p n + f n
def sw_pv (f : Nat → Int) : Nat → Int
  | 0 => 0
  | n + 1 => f n
/-- the j-th of a row's speeds is within the laws -/
def sw_lw (lim : Nat → Int) (D V A : Int) (f : Nat → Int) (p : Int) (j : Nat) : Prop := sw_abs (f j - sw_pv f j) ≤ A ∧ sw_tk lim D V (sw_pl f p j) (f j)
theorem lp_lawful0 (σ : sw_S) (hσ : sw_gs σ) (hD : 10 ≤ σ 1 0 ∧ σ 1 0 ≤ 400) (hV : 1 ≤ σ 1 1 ∧ σ 1 1 ≤ 20) (hA : 1 ≤ σ 1 2 ∧ σ 1 2 ≤ 5) (hL : ∀ x : Int, 0 ≤ x → x ≤ σ 1 0 → 1 ≤ σ 2 x.toNat ∧ σ 2 x.toNat ≤ σ 1 1) (p k : Int) (hk : 0 ≤ k ∧ k ≤ 60) (Q : Option sw_Vl → sw_S → Prop) (hQ : ∀ m : Nat, (m : Int) ≤ k → (∀ j, j < m → sw_lw (σ 2) (σ 1 0) (σ 1 1) (σ 1 2) (σ 16) p j) → ((m : Int) < k → ¬ sw_lw (σ 2) (σ 1 0) (σ 1 1) (σ 1 2) (σ 16) p m) → Q (some (.inl (m : Int))) σ) : ∀ (n : Nat) (i : Nat) (q b : Int), (i : Int) ≤ k → q = sw_pl (σ 16) p i → b = sw_pv (σ 16) i → (0 ≤ q ∧ q ≤ σ 1 0) → (-20 ≤ b ∧ b ≤ 20) → (∀ j, j < i → sw_lw (σ 2) (σ 1 0) (σ 1 1) (σ 1 2) (σ 16) p j) → 60 - i < n → sw_E sw_ly sw_rho M_X3_lawfulSpeeds 9 [(6, .inl (i : Int)), (5, .inl b), (4, .inl q), (0, .inr (.inr 1)), (1, .inl p), (2, .inr (.inr 16)), (3, .inl k)] [] σ Q := by
  intro n
  induction n with
  | zero =>
    intro i q b hik eq_ eb_ hq hb hlt hm
    omega
  | succ n ih =>
    intro i q b hik eq_ eb_ hq hb hlt hm
    refine sw_blk k_X3_lawfulSpeeds 2 12 [(6, .inl (i : Int)), (5, .inl b), (4, .inl q), (0, .inr (.inr 1)), (1, .inl p), (2, .inr (.inr 16)), (3, .inl k)] [.inl k, .inl (i : Int)] σ rfl ?_
    refine sw_icmp_ge k_X3_lawfulSpeeds rfl (by omega) (by omega) 59 15 (by decide) rfl (fun c1 => ?_) (fun c1 => ?_)
    · refine sw_blk k_X3_lawfulSpeeds 1 60 [(6, .inl (i : Int)), (5, .inl b), (4, .inl q), (0, .inr (.inr 1)), (1, .inl p), (2, .inr (.inr 16)), (3, .inl k)] [.inl k] σ rfl ?_
      refine sw_ireturn k_X3_lawfulSpeeds rfl rfl ?_
      have ei : k = (i : Int) := by omega
      rw [ei]
      exact hQ i hik hlt (fun z => by omega)
    · refine sw_blk k_X3_lawfulSpeeds 3 19 [(6, .inl (i : Int)), (5, .inl b), (4, .inl q), (0, .inr (.inr 1)), (1, .inl p), (2, .inr (.inr 16)), (3, .inl k)] [.inl 60, .inl (i : Int)] σ rfl ?_
      refine sw_icmp_ge k_X3_lawfulSpeeds rfl (by omega) (by decide) 59 22 (by decide) rfl (fun c2 => ?_) (fun c2 => ?_)
      · refine sw_blk k_X3_lawfulSpeeds 1 60 [(6, .inl (i : Int)), (5, .inl b), (4, .inl q), (0, .inr (.inr 1)), (1, .inl p), (2, .inr (.inr 16)), (3, .inl k)] [.inl k] σ rfl ?_
        refine sw_ireturn k_X3_lawfulSpeeds rfl rfl ?_
        have ei : k = (i : Int) := by omega
        rw [ei]
        exact hQ i hik hlt (fun z => by omega)
      · refine sw_blk k_X3_lawfulSpeeds 5 30 [(6, .inl (i : Int)), (5, .inl b), (4, .inl q), (0, .inr (.inr 1)), (1, .inl p), (2, .inr (.inr 16)), (3, .inl k)] [.inl (i : Int), .inr (.inr 16), .inl b, .inl q, .inr (.inr 1)] σ rfl ?_
        refine sw_iald k_X3_lawfulSpeeds rfl (i := 16) (n := 60) rfl (by decide) (by omega) (by omega) 31 rfl ?_
        refine sw_blk k_X3_lawfulSpeeds 0 31 [(6, .inl (i : Int)), (5, .inl b), (4, .inl q), (0, .inr (.inr 1)), (1, .inl p), (2, .inr (.inr 16)), (3, .inl k)] [.inl (σ 16 ((i : Int).toNat)), .inl b, .inl q, .inr (.inr 1)] σ rfl ?_
        refine sw_callV k_X3_lawfulSpeeds rfl cV_X3_allowsTick ml_X3_58 ⟨by decide, by decide⟩ 1 rfl rfl [.inl q, .inl b, .inl (σ 16 ((i : Int).toNat))] [] rfl rfl (Nat.le_of_ble_eq_true rfl) 34 rfl (sp_allows σ hσ hD hV hA hL q hq b hb (σ 16 (i : Int).toNat) (hσ 16 _)) (fun r4 σ5 hq6 => ?_)
        obtain ⟨rfl, ⟨p3, rfl⟩ | ⟨p3, rfl⟩⟩ := hq6
        · refine sw_blk k_X3_lawfulSpeeds 0 34 [(6, .inl (i : Int)), (5, .inl b), (4, .inl q), (0, .inr (.inr 1)), (1, .inl p), (2, .inr (.inr 16)), (3, .inl k)] [.inl 1] σ rfl ?_
          refine sw_if_ne k_X3_lawfulSpeeds rfl (by decide) 40 37 (by decide) rfl (fun _ => ?_) (fun c => absurd c (by decide))
          refine sw_blk k_X3_lawfulSpeeds 2 43 [(6, .inl (i : Int)), (5, .inl b), (4, .inl q), (0, .inr (.inr 1)), (1, .inl p), (2, .inr (.inr 16)), (3, .inl k)] [.inl (i : Int), .inr (.inr 16)] σ rfl ?_
          refine sw_iald k_X3_lawfulSpeeds rfl (i := 16) (n := 60) rfl (by decide) (by omega) (by omega) 44 rfl ?_
          refine sw_blk k_X3_lawfulSpeeds 7 9 [(6, .inl ((i : Int) + 1)), (4, .inl (q + (σ 16 ((i : Int).toNat)))), (5, .inl (σ 16 ((i : Int).toNat))), (0, .inr (.inr 1)), (1, .inl p), (2, .inr (.inr 16)), (3, .inl k)] [] σ rfl ?_
          refine sw_Lsub [(6, .inl ((i : Int) + 1)), (5, .inl (σ 16 ((i : Int).toNat))), (4, .inl (q + (σ 16 ((i : Int).toNat)))), (0, .inr (.inr 1)), (1, .inl p), (2, .inr (.inr 16)), (3, .inl k)] [0, 2, 1, 3, 4, 5, 6] rfl ?_
          have hlw : sw_lw (σ 2) (σ 1 0) (σ 1 1) (σ 1 2) (σ 16) p i := by unfold sw_lw; rw [← eq_, ← eb_]; exact p3
          have ht1 := p3.2.1
          have ht2 := p3.2.2.1
          have ht3 := p3.2.2.2.1
          unfold sw_abs at ht1
          exact ih (i + 1) _ _ (by omega) (by rw [eq_]; rfl) rfl ⟨ht2, ht3⟩ (by omega) (fun j hj => by rcases Nat.lt_or_ge j i with z | z; exact hlt j z; rw [show j = i by omega]; exact hlw) (by omega)
        · refine sw_blk k_X3_lawfulSpeeds 0 34 [(6, .inl (i : Int)), (5, .inl b), (4, .inl q), (0, .inr (.inr 1)), (1, .inl p), (2, .inr (.inr 16)), (3, .inl k)] [.inl 0] σ rfl ?_
          refine sw_if_ne k_X3_lawfulSpeeds rfl (by decide) 40 37 (by decide) rfl (fun c => absurd (by decide) c) (fun _ => ?_)
          refine sw_blk k_X3_lawfulSpeeds 1 39 [(6, .inl (i : Int)), (5, .inl b), (4, .inl q), (0, .inr (.inr 1)), (1, .inl p), (2, .inr (.inr 16)), (3, .inl k)] [.inl (i : Int)] σ rfl ?_
          refine sw_ireturn k_X3_lawfulSpeeds rfl rfl ?_
          exact hQ i hik hlt (fun _ z => p3 (by unfold sw_lw at z; rw [← eq_, ← eb_] at z; exact z))
theorem sp_lawful0 (σ : sw_S) (hσ : sw_gs σ) (hD : 10 ≤ σ 1 0 ∧ σ 1 0 ≤ 400) (hV : 1 ≤ σ 1 1 ∧ σ 1 1 ≤ 20) (hA : 1 ≤ σ 1 2 ∧ σ 1 2 ≤ 5) (hL : ∀ x : Int, 0 ≤ x → x ≤ σ 1 0 → 1 ≤ σ 2 x.toNat ∧ σ 2 x.toNat ≤ σ 1 1) (p k : Int) (hp : 0 ≤ p ∧ p ≤ σ 1 0) (hk : 0 ≤ k ∧ k ≤ 60) : sw_Con sw_ly sw_rho M_X3_lawfulSpeeds [.inr (.inr 1), .inl p, .inr (.inr 16), .inl k] σ (fun r σ' => σ = σ' ∧ ∃ m : Nat, r = some (.inl (m : Int)) ∧ (m : Int) ≤ k ∧ (∀ j, j < m → sw_lw (σ 2) (σ 1 0) (σ 1 1) (σ 1 2) (σ 16) p j) ∧ ((m : Int) < k → ¬ sw_lw (σ 2) (σ 1 0) (σ 1 1) (σ 1 2) (σ 16) p m)) := by
  refine sw_con (by decide) (Nat.le_of_ble_eq_true rfl) ?_
  refine sw_blk k_X3_lawfulSpeeds 6 9 [(6, .inl 0), (5, .inl 0), (4, .inl p), (0, .inr (.inr 1)), (1, .inl p), (2, .inr (.inr 16)), (3, .inl k)] [] σ rfl ?_
  exact lp_lawful0 σ hσ hD hV hA hL p k hk _ (fun m h1 h2 h3 => ⟨rfl, m, rfl, h1, h2, h3⟩) 61 0 p 0 (by omega) rfl rfl hp (by omega) (fun j hj => absurd hj (Nat.not_lt_zero j)) (by omega)
theorem lp_lawful1 (σ : sw_S) (hσ : sw_gs σ) (hD : 10 ≤ σ 1 0 ∧ σ 1 0 ≤ 400) (hV : 1 ≤ σ 1 1 ∧ σ 1 1 ≤ 20) (hA : 1 ≤ σ 1 2 ∧ σ 1 2 ≤ 5) (hL : ∀ x : Int, 0 ≤ x → x ≤ σ 1 0 → 1 ≤ σ 2 x.toNat ∧ σ 2 x.toNat ≤ σ 1 1) (p k : Int) (hk : 0 ≤ k ∧ k ≤ 60) (Q : Option sw_Vl → sw_S → Prop) (hQ : ∀ m : Nat, (m : Int) ≤ k → (∀ j, j < m → sw_lw (σ 2) (σ 1 0) (σ 1 1) (σ 1 2) (σ 18) p j) → ((m : Int) < k → ¬ sw_lw (σ 2) (σ 1 0) (σ 1 1) (σ 1 2) (σ 18) p m) → Q (some (.inl (m : Int))) σ) : ∀ (n : Nat) (i : Nat) (q b : Int), (i : Int) ≤ k → q = sw_pl (σ 18) p i → b = sw_pv (σ 18) i → (0 ≤ q ∧ q ≤ σ 1 0) → (-20 ≤ b ∧ b ≤ 20) → (∀ j, j < i → sw_lw (σ 2) (σ 1 0) (σ 1 1) (σ 1 2) (σ 18) p j) → 60 - i < n → sw_E sw_ly sw_rho M_X3_lawfulSpeeds 9 [(6, .inl (i : Int)), (5, .inl b), (4, .inl q), (0, .inr (.inr 1)), (1, .inl p), (2, .inr (.inr 18)), (3, .inl k)] [] σ Q := by
  intro n
  induction n with
  | zero =>
    intro i q b hik eq_ eb_ hq hb hlt hm
    omega
  | succ n ih =>
    intro i q b hik eq_ eb_ hq hb hlt hm
    refine sw_blk k_X3_lawfulSpeeds 2 12 [(6, .inl (i : Int)), (5, .inl b), (4, .inl q), (0, .inr (.inr 1)), (1, .inl p), (2, .inr (.inr 18)), (3, .inl k)] [.inl k, .inl (i : Int)] σ rfl ?_
    refine sw_icmp_ge k_X3_lawfulSpeeds rfl (by omega) (by omega) 59 15 (by decide) rfl (fun c1 => ?_) (fun c1 => ?_)
    · refine sw_blk k_X3_lawfulSpeeds 1 60 [(6, .inl (i : Int)), (5, .inl b), (4, .inl q), (0, .inr (.inr 1)), (1, .inl p), (2, .inr (.inr 18)), (3, .inl k)] [.inl k] σ rfl ?_
      refine sw_ireturn k_X3_lawfulSpeeds rfl rfl ?_
      have ei : k = (i : Int) := by omega
      rw [ei]
      exact hQ i hik hlt (fun z => by omega)
    · refine sw_blk k_X3_lawfulSpeeds 3 19 [(6, .inl (i : Int)), (5, .inl b), (4, .inl q), (0, .inr (.inr 1)), (1, .inl p), (2, .inr (.inr 18)), (3, .inl k)] [.inl 60, .inl (i : Int)] σ rfl ?_
      refine sw_icmp_ge k_X3_lawfulSpeeds rfl (by omega) (by decide) 59 22 (by decide) rfl (fun c2 => ?_) (fun c2 => ?_)
      · refine sw_blk k_X3_lawfulSpeeds 1 60 [(6, .inl (i : Int)), (5, .inl b), (4, .inl q), (0, .inr (.inr 1)), (1, .inl p), (2, .inr (.inr 18)), (3, .inl k)] [.inl k] σ rfl ?_
        refine sw_ireturn k_X3_lawfulSpeeds rfl rfl ?_
        have ei : k = (i : Int) := by omega
        rw [ei]
        exact hQ i hik hlt (fun z => by omega)
      · refine sw_blk k_X3_lawfulSpeeds 5 30 [(6, .inl (i : Int)), (5, .inl b), (4, .inl q), (0, .inr (.inr 1)), (1, .inl p), (2, .inr (.inr 18)), (3, .inl k)] [.inl (i : Int), .inr (.inr 18), .inl b, .inl q, .inr (.inr 1)] σ rfl ?_
        refine sw_iald k_X3_lawfulSpeeds rfl (i := 18) (n := 60) rfl (by decide) (by omega) (by omega) 31 rfl ?_
        refine sw_blk k_X3_lawfulSpeeds 0 31 [(6, .inl (i : Int)), (5, .inl b), (4, .inl q), (0, .inr (.inr 1)), (1, .inl p), (2, .inr (.inr 18)), (3, .inl k)] [.inl (σ 18 ((i : Int).toNat)), .inl b, .inl q, .inr (.inr 1)] σ rfl ?_
        refine sw_callV k_X3_lawfulSpeeds rfl cV_X3_allowsTick ml_X3_58 ⟨by decide, by decide⟩ 1 rfl rfl [.inl q, .inl b, .inl (σ 18 ((i : Int).toNat))] [] rfl rfl (Nat.le_of_ble_eq_true rfl) 34 rfl (sp_allows σ hσ hD hV hA hL q hq b hb (σ 18 (i : Int).toNat) (hσ 18 _)) (fun r4 σ5 hq6 => ?_)
        obtain ⟨rfl, ⟨p3, rfl⟩ | ⟨p3, rfl⟩⟩ := hq6
        · refine sw_blk k_X3_lawfulSpeeds 0 34 [(6, .inl (i : Int)), (5, .inl b), (4, .inl q), (0, .inr (.inr 1)), (1, .inl p), (2, .inr (.inr 18)), (3, .inl k)] [.inl 1] σ rfl ?_
          refine sw_if_ne k_X3_lawfulSpeeds rfl (by decide) 40 37 (by decide) rfl (fun _ => ?_) (fun c => absurd c (by decide))
          refine sw_blk k_X3_lawfulSpeeds 2 43 [(6, .inl (i : Int)), (5, .inl b), (4, .inl q), (0, .inr (.inr 1)), (1, .inl p), (2, .inr (.inr 18)), (3, .inl k)] [.inl (i : Int), .inr (.inr 18)] σ rfl ?_
          refine sw_iald k_X3_lawfulSpeeds rfl (i := 18) (n := 60) rfl (by decide) (by omega) (by omega) 44 rfl ?_
          refine sw_blk k_X3_lawfulSpeeds 7 9 [(6, .inl ((i : Int) + 1)), (4, .inl (q + (σ 18 ((i : Int).toNat)))), (5, .inl (σ 18 ((i : Int).toNat))), (0, .inr (.inr 1)), (1, .inl p), (2, .inr (.inr 18)), (3, .inl k)] [] σ rfl ?_
          refine sw_Lsub [(6, .inl ((i : Int) + 1)), (5, .inl (σ 18 ((i : Int).toNat))), (4, .inl (q + (σ 18 ((i : Int).toNat)))), (0, .inr (.inr 1)), (1, .inl p), (2, .inr (.inr 18)), (3, .inl k)] [0, 2, 1, 3, 4, 5, 6] rfl ?_
          have hlw : sw_lw (σ 2) (σ 1 0) (σ 1 1) (σ 1 2) (σ 18) p i := by unfold sw_lw; rw [← eq_, ← eb_]; exact p3
          have ht1 := p3.2.1
          have ht2 := p3.2.2.1
          have ht3 := p3.2.2.2.1
          unfold sw_abs at ht1
          exact ih (i + 1) _ _ (by omega) (by rw [eq_]; rfl) rfl ⟨ht2, ht3⟩ (by omega) (fun j hj => by rcases Nat.lt_or_ge j i with z | z; exact hlt j z; rw [show j = i by omega]; exact hlw) (by omega)
        · refine sw_blk k_X3_lawfulSpeeds 0 34 [(6, .inl (i : Int)), (5, .inl b), (4, .inl q), (0, .inr (.inr 1)), (1, .inl p), (2, .inr (.inr 18)), (3, .inl k)] [.inl 0] σ rfl ?_
          refine sw_if_ne k_X3_lawfulSpeeds rfl (by decide) 40 37 (by decide) rfl (fun c => absurd (by decide) c) (fun _ => ?_)
          refine sw_blk k_X3_lawfulSpeeds 1 39 [(6, .inl (i : Int)), (5, .inl b), (4, .inl q), (0, .inr (.inr 1)), (1, .inl p), (2, .inr (.inr 18)), (3, .inl k)] [.inl (i : Int)] σ rfl ?_
          refine sw_ireturn k_X3_lawfulSpeeds rfl rfl ?_
          exact hQ i hik hlt (fun _ z => p3 (by unfold sw_lw at z; rw [← eq_, ← eb_] at z; exact z))
theorem sp_lawful1 (σ : sw_S) (hσ : sw_gs σ) (hD : 10 ≤ σ 1 0 ∧ σ 1 0 ≤ 400) (hV : 1 ≤ σ 1 1 ∧ σ 1 1 ≤ 20) (hA : 1 ≤ σ 1 2 ∧ σ 1 2 ≤ 5) (hL : ∀ x : Int, 0 ≤ x → x ≤ σ 1 0 → 1 ≤ σ 2 x.toNat ∧ σ 2 x.toNat ≤ σ 1 1) (p k : Int) (hp : 0 ≤ p ∧ p ≤ σ 1 0) (hk : 0 ≤ k ∧ k ≤ 60) : sw_Con sw_ly sw_rho M_X3_lawfulSpeeds [.inr (.inr 1), .inl p, .inr (.inr 18), .inl k] σ (fun r σ' => σ = σ' ∧ ∃ m : Nat, r = some (.inl (m : Int)) ∧ (m : Int) ≤ k ∧ (∀ j, j < m → sw_lw (σ 2) (σ 1 0) (σ 1 1) (σ 1 2) (σ 18) p j) ∧ ((m : Int) < k → ¬ sw_lw (σ 2) (σ 1 0) (σ 1 1) (σ 1 2) (σ 18) p m)) := by
  refine sw_con (by decide) (Nat.le_of_ble_eq_true rfl) ?_
  refine sw_blk k_X3_lawfulSpeeds 6 9 [(6, .inl 0), (5, .inl 0), (4, .inl p), (0, .inr (.inr 1)), (1, .inl p), (2, .inr (.inr 18)), (3, .inl k)] [] σ rfl ?_
  exact lp_lawful1 σ hσ hD hV hA hL p k hk _ (fun m h1 h2 h3 => ⟨rfl, m, rfl, h1, h2, h3⟩) 61 0 p 0 (by omega) rfl rfl hp (by omega) (fun j hj => absurd hj (Nat.not_lt_zero j)) (by omega)
theorem lp_lawful2 (σ : sw_S) (hσ : sw_gs σ) (hD : 10 ≤ σ 1 0 ∧ σ 1 0 ≤ 400) (hV : 1 ≤ σ 1 1 ∧ σ 1 1 ≤ 20) (hA : 1 ≤ σ 1 2 ∧ σ 1 2 ≤ 5) (hL : ∀ x : Int, 0 ≤ x → x ≤ σ 1 0 → 1 ≤ σ 2 x.toNat ∧ σ 2 x.toNat ≤ σ 1 1) (p k : Int) (hk : 0 ≤ k ∧ k ≤ 60) (Q : Option sw_Vl → sw_S → Prop) (hQ : ∀ m : Nat, (m : Int) ≤ k → (∀ j, j < m → sw_lw (σ 2) (σ 1 0) (σ 1 1) (σ 1 2) (σ 20) p j) → ((m : Int) < k → ¬ sw_lw (σ 2) (σ 1 0) (σ 1 1) (σ 1 2) (σ 20) p m) → Q (some (.inl (m : Int))) σ) : ∀ (n : Nat) (i : Nat) (q b : Int), (i : Int) ≤ k → q = sw_pl (σ 20) p i → b = sw_pv (σ 20) i → (0 ≤ q ∧ q ≤ σ 1 0) → (-20 ≤ b ∧ b ≤ 20) → (∀ j, j < i → sw_lw (σ 2) (σ 1 0) (σ 1 1) (σ 1 2) (σ 20) p j) → 60 - i < n → sw_E sw_ly sw_rho M_X3_lawfulSpeeds 9 [(6, .inl (i : Int)), (5, .inl b), (4, .inl q), (0, .inr (.inr 1)), (1, .inl p), (2, .inr (.inr 20)), (3, .inl k)] [] σ Q := by
  intro n
  induction n with
  | zero =>
    intro i q b hik eq_ eb_ hq hb hlt hm
    omega
  | succ n ih =>
    intro i q b hik eq_ eb_ hq hb hlt hm
    refine sw_blk k_X3_lawfulSpeeds 2 12 [(6, .inl (i : Int)), (5, .inl b), (4, .inl q), (0, .inr (.inr 1)), (1, .inl p), (2, .inr (.inr 20)), (3, .inl k)] [.inl k, .inl (i : Int)] σ rfl ?_
    refine sw_icmp_ge k_X3_lawfulSpeeds rfl (by omega) (by omega) 59 15 (by decide) rfl (fun c1 => ?_) (fun c1 => ?_)
    · refine sw_blk k_X3_lawfulSpeeds 1 60 [(6, .inl (i : Int)), (5, .inl b), (4, .inl q), (0, .inr (.inr 1)), (1, .inl p), (2, .inr (.inr 20)), (3, .inl k)] [.inl k] σ rfl ?_
      refine sw_ireturn k_X3_lawfulSpeeds rfl rfl ?_
      have ei : k = (i : Int) := by omega
      rw [ei]
      exact hQ i hik hlt (fun z => by omega)
    · refine sw_blk k_X3_lawfulSpeeds 3 19 [(6, .inl (i : Int)), (5, .inl b), (4, .inl q), (0, .inr (.inr 1)), (1, .inl p), (2, .inr (.inr 20)), (3, .inl k)] [.inl 60, .inl (i : Int)] σ rfl ?_
      refine sw_icmp_ge k_X3_lawfulSpeeds rfl (by omega) (by decide) 59 22 (by decide) rfl (fun c2 => ?_) (fun c2 => ?_)
      · refine sw_blk k_X3_lawfulSpeeds 1 60 [(6, .inl (i : Int)), (5, .inl b), (4, .inl q), (0, .inr (.inr 1)), (1, .inl p), (2, .inr (.inr 20)), (3, .inl k)] [.inl k] σ rfl ?_
        refine sw_ireturn k_X3_lawfulSpeeds rfl rfl ?_
        have ei : k = (i : Int) := by omega
        rw [ei]
        exact hQ i hik hlt (fun z => by omega)
      · refine sw_blk k_X3_lawfulSpeeds 5 30 [(6, .inl (i : Int)), (5, .inl b), (4, .inl q), (0, .inr (.inr 1)), (1, .inl p), (2, .inr (.inr 20)), (3, .inl k)] [.inl (i : Int), .inr (.inr 20), .inl b, .inl q, .inr (.inr 1)] σ rfl ?_
        refine sw_iald k_X3_lawfulSpeeds rfl (i := 20) (n := 60) rfl (by decide) (by omega) (by omega) 31 rfl ?_
        refine sw_blk k_X3_lawfulSpeeds 0 31 [(6, .inl (i : Int)), (5, .inl b), (4, .inl q), (0, .inr (.inr 1)), (1, .inl p), (2, .inr (.inr 20)), (3, .inl k)] [.inl (σ 20 ((i : Int).toNat)), .inl b, .inl q, .inr (.inr 1)] σ rfl ?_
        refine sw_callV k_X3_lawfulSpeeds rfl cV_X3_allowsTick ml_X3_58 ⟨by decide, by decide⟩ 1 rfl rfl [.inl q, .inl b, .inl (σ 20 ((i : Int).toNat))] [] rfl rfl (Nat.le_of_ble_eq_true rfl) 34 rfl (sp_allows σ hσ hD hV hA hL q hq b hb (σ 20 (i : Int).toNat) (hσ 20 _)) (fun r4 σ5 hq6 => ?_)
        obtain ⟨rfl, ⟨p3, rfl⟩ | ⟨p3, rfl⟩⟩ := hq6
        · refine sw_blk k_X3_lawfulSpeeds 0 34 [(6, .inl (i : Int)), (5, .inl b), (4, .inl q), (0, .inr (.inr 1)), (1, .inl p), (2, .inr (.inr 20)), (3, .inl k)] [.inl 1] σ rfl ?_
          refine sw_if_ne k_X3_lawfulSpeeds rfl (by decide) 40 37 (by decide) rfl (fun _ => ?_) (fun c => absurd c (by decide))
          refine sw_blk k_X3_lawfulSpeeds 2 43 [(6, .inl (i : Int)), (5, .inl b), (4, .inl q), (0, .inr (.inr 1)), (1, .inl p), (2, .inr (.inr 20)), (3, .inl k)] [.inl (i : Int), .inr (.inr 20)] σ rfl ?_
          refine sw_iald k_X3_lawfulSpeeds rfl (i := 20) (n := 60) rfl (by decide) (by omega) (by omega) 44 rfl ?_
          refine sw_blk k_X3_lawfulSpeeds 7 9 [(6, .inl ((i : Int) + 1)), (4, .inl (q + (σ 20 ((i : Int).toNat)))), (5, .inl (σ 20 ((i : Int).toNat))), (0, .inr (.inr 1)), (1, .inl p), (2, .inr (.inr 20)), (3, .inl k)] [] σ rfl ?_
          refine sw_Lsub [(6, .inl ((i : Int) + 1)), (5, .inl (σ 20 ((i : Int).toNat))), (4, .inl (q + (σ 20 ((i : Int).toNat)))), (0, .inr (.inr 1)), (1, .inl p), (2, .inr (.inr 20)), (3, .inl k)] [0, 2, 1, 3, 4, 5, 6] rfl ?_
          have hlw : sw_lw (σ 2) (σ 1 0) (σ 1 1) (σ 1 2) (σ 20) p i := by unfold sw_lw; rw [← eq_, ← eb_]; exact p3
          have ht1 := p3.2.1
          have ht2 := p3.2.2.1
          have ht3 := p3.2.2.2.1
          unfold sw_abs at ht1
          exact ih (i + 1) _ _ (by omega) (by rw [eq_]; rfl) rfl ⟨ht2, ht3⟩ (by omega) (fun j hj => by rcases Nat.lt_or_ge j i with z | z; exact hlt j z; rw [show j = i by omega]; exact hlw) (by omega)
        · refine sw_blk k_X3_lawfulSpeeds 0 34 [(6, .inl (i : Int)), (5, .inl b), (4, .inl q), (0, .inr (.inr 1)), (1, .inl p), (2, .inr (.inr 20)), (3, .inl k)] [.inl 0] σ rfl ?_
          refine sw_if_ne k_X3_lawfulSpeeds rfl (by decide) 40 37 (by decide) rfl (fun c => absurd (by decide) c) (fun _ => ?_)
          refine sw_blk k_X3_lawfulSpeeds 1 39 [(6, .inl (i : Int)), (5, .inl b), (4, .inl q), (0, .inr (.inr 1)), (1, .inl p), (2, .inr (.inr 20)), (3, .inl k)] [.inl (i : Int)] σ rfl ?_
          refine sw_ireturn k_X3_lawfulSpeeds rfl rfl ?_
          exact hQ i hik hlt (fun _ z => p3 (by unfold sw_lw at z; rw [← eq_, ← eb_] at z; exact z))
theorem sp_lawful2 (σ : sw_S) (hσ : sw_gs σ) (hD : 10 ≤ σ 1 0 ∧ σ 1 0 ≤ 400) (hV : 1 ≤ σ 1 1 ∧ σ 1 1 ≤ 20) (hA : 1 ≤ σ 1 2 ∧ σ 1 2 ≤ 5) (hL : ∀ x : Int, 0 ≤ x → x ≤ σ 1 0 → 1 ≤ σ 2 x.toNat ∧ σ 2 x.toNat ≤ σ 1 1) (p k : Int) (hp : 0 ≤ p ∧ p ≤ σ 1 0) (hk : 0 ≤ k ∧ k ≤ 60) : sw_Con sw_ly sw_rho M_X3_lawfulSpeeds [.inr (.inr 1), .inl p, .inr (.inr 20), .inl k] σ (fun r σ' => σ = σ' ∧ ∃ m : Nat, r = some (.inl (m : Int)) ∧ (m : Int) ≤ k ∧ (∀ j, j < m → sw_lw (σ 2) (σ 1 0) (σ 1 1) (σ 1 2) (σ 20) p j) ∧ ((m : Int) < k → ¬ sw_lw (σ 2) (σ 1 0) (σ 1 1) (σ 1 2) (σ 20) p m)) := by
  refine sw_con (by decide) (Nat.le_of_ble_eq_true rfl) ?_
  refine sw_blk k_X3_lawfulSpeeds 6 9 [(6, .inl 0), (5, .inl 0), (4, .inl p), (0, .inr (.inr 1)), (1, .inl p), (2, .inr (.inr 20)), (3, .inl k)] [] σ rfl ?_
  exact lp_lawful2 σ hσ hD hV hA hL p k hk _ (fun m h1 h2 h3 => ⟨rfl, m, rfl, h1, h2, h3⟩) 61 0 p 0 (by omega) rfl rfl hp (by omega) (fun j hj => absurd hj (Nat.not_lt_zero j)) (by omega)
theorem lp_lawful3 (σ : sw_S) (hσ : sw_gs σ) (hD : 10 ≤ σ 1 0 ∧ σ 1 0 ≤ 400) (hV : 1 ≤ σ 1 1 ∧ σ 1 1 ≤ 20) (hA : 1 ≤ σ 1 2 ∧ σ 1 2 ≤ 5) (hL : ∀ x : Int, 0 ≤ x → x ≤ σ 1 0 → 1 ≤ σ 2 x.toNat ∧ σ 2 x.toNat ≤ σ 1 1) (p k : Int) (hk : 0 ≤ k ∧ k ≤ 60) (Q : Option sw_Vl → sw_S → Prop) (hQ : ∀ m : Nat, (m : Int) ≤ k → (∀ j, j < m → sw_lw (σ 2) (σ 1 0) (σ 1 1) (σ 1 2) (σ 22) p j) → ((m : Int) < k → ¬ sw_lw (σ 2) (σ 1 0) (σ 1 1) (σ 1 2) (σ 22) p m) → Q (some (.inl (m : Int))) σ) : ∀ (n : Nat) (i : Nat) (q b : Int), (i : Int) ≤ k → q = sw_pl (σ 22) p i → b = sw_pv (σ 22) i → (0 ≤ q ∧ q ≤ σ 1 0) → (-20 ≤ b ∧ b ≤ 20) → (∀ j, j < i → sw_lw (σ 2) (σ 1 0) (σ 1 1) (σ 1 2) (σ 22) p j) → 60 - i < n → sw_E sw_ly sw_rho M_X3_lawfulSpeeds 9 [(6, .inl (i : Int)), (5, .inl b), (4, .inl q), (0, .inr (.inr 1)), (1, .inl p), (2, .inr (.inr 22)), (3, .inl k)] [] σ Q := by
  intro n
  induction n with
  | zero =>
    intro i q b hik eq_ eb_ hq hb hlt hm
    omega
  | succ n ih =>
    intro i q b hik eq_ eb_ hq hb hlt hm
    refine sw_blk k_X3_lawfulSpeeds 2 12 [(6, .inl (i : Int)), (5, .inl b), (4, .inl q), (0, .inr (.inr 1)), (1, .inl p), (2, .inr (.inr 22)), (3, .inl k)] [.inl k, .inl (i : Int)] σ rfl ?_
    refine sw_icmp_ge k_X3_lawfulSpeeds rfl (by omega) (by omega) 59 15 (by decide) rfl (fun c1 => ?_) (fun c1 => ?_)
    · refine sw_blk k_X3_lawfulSpeeds 1 60 [(6, .inl (i : Int)), (5, .inl b), (4, .inl q), (0, .inr (.inr 1)), (1, .inl p), (2, .inr (.inr 22)), (3, .inl k)] [.inl k] σ rfl ?_
      refine sw_ireturn k_X3_lawfulSpeeds rfl rfl ?_
      have ei : k = (i : Int) := by omega
      rw [ei]
      exact hQ i hik hlt (fun z => by omega)
    · refine sw_blk k_X3_lawfulSpeeds 3 19 [(6, .inl (i : Int)), (5, .inl b), (4, .inl q), (0, .inr (.inr 1)), (1, .inl p), (2, .inr (.inr 22)), (3, .inl k)] [.inl 60, .inl (i : Int)] σ rfl ?_
      refine sw_icmp_ge k_X3_lawfulSpeeds rfl (by omega) (by decide) 59 22 (by decide) rfl (fun c2 => ?_) (fun c2 => ?_)
      · refine sw_blk k_X3_lawfulSpeeds 1 60 [(6, .inl (i : Int)), (5, .inl b), (4, .inl q), (0, .inr (.inr 1)), (1, .inl p), (2, .inr (.inr 22)), (3, .inl k)] [.inl k] σ rfl ?_
        refine sw_ireturn k_X3_lawfulSpeeds rfl rfl ?_
        have ei : k = (i : Int) := by omega
        rw [ei]
        exact hQ i hik hlt (fun z => by omega)
      · refine sw_blk k_X3_lawfulSpeeds 5 30 [(6, .inl (i : Int)), (5, .inl b), (4, .inl q), (0, .inr (.inr 1)), (1, .inl p), (2, .inr (.inr 22)), (3, .inl k)] [.inl (i : Int), .inr (.inr 22), .inl b, .inl q, .inr (.inr 1)] σ rfl ?_
        refine sw_iald k_X3_lawfulSpeeds rfl (i := 22) (n := 60) rfl (by decide) (by omega) (by omega) 31 rfl ?_
        refine sw_blk k_X3_lawfulSpeeds 0 31 [(6, .inl (i : Int)), (5, .inl b), (4, .inl q), (0, .inr (.inr 1)), (1, .inl p), (2, .inr (.inr 22)), (3, .inl k)] [.inl (σ 22 ((i : Int).toNat)), .inl b, .inl q, .inr (.inr 1)] σ rfl ?_
        refine sw_callV k_X3_lawfulSpeeds rfl cV_X3_allowsTick ml_X3_58 ⟨by decide, by decide⟩ 1 rfl rfl [.inl q, .inl b, .inl (σ 22 ((i : Int).toNat))] [] rfl rfl (Nat.le_of_ble_eq_true rfl) 34 rfl (sp_allows σ hσ hD hV hA hL q hq b hb (σ 22 (i : Int).toNat) (hσ 22 _)) (fun r4 σ5 hq6 => ?_)
        obtain ⟨rfl, ⟨p3, rfl⟩ | ⟨p3, rfl⟩⟩ := hq6
        · refine sw_blk k_X3_lawfulSpeeds 0 34 [(6, .inl (i : Int)), (5, .inl b), (4, .inl q), (0, .inr (.inr 1)), (1, .inl p), (2, .inr (.inr 22)), (3, .inl k)] [.inl 1] σ rfl ?_
          refine sw_if_ne k_X3_lawfulSpeeds rfl (by decide) 40 37 (by decide) rfl (fun _ => ?_) (fun c => absurd c (by decide))
          refine sw_blk k_X3_lawfulSpeeds 2 43 [(6, .inl (i : Int)), (5, .inl b), (4, .inl q), (0, .inr (.inr 1)), (1, .inl p), (2, .inr (.inr 22)), (3, .inl k)] [.inl (i : Int), .inr (.inr 22)] σ rfl ?_
          refine sw_iald k_X3_lawfulSpeeds rfl (i := 22) (n := 60) rfl (by decide) (by omega) (by omega) 44 rfl ?_
          refine sw_blk k_X3_lawfulSpeeds 7 9 [(6, .inl ((i : Int) + 1)), (4, .inl (q + (σ 22 ((i : Int).toNat)))), (5, .inl (σ 22 ((i : Int).toNat))), (0, .inr (.inr 1)), (1, .inl p), (2, .inr (.inr 22)), (3, .inl k)] [] σ rfl ?_
          refine sw_Lsub [(6, .inl ((i : Int) + 1)), (5, .inl (σ 22 ((i : Int).toNat))), (4, .inl (q + (σ 22 ((i : Int).toNat)))), (0, .inr (.inr 1)), (1, .inl p), (2, .inr (.inr 22)), (3, .inl k)] [0, 2, 1, 3, 4, 5, 6] rfl ?_
          have hlw : sw_lw (σ 2) (σ 1 0) (σ 1 1) (σ 1 2) (σ 22) p i := by unfold sw_lw; rw [← eq_, ← eb_]; exact p3
          have ht1 := p3.2.1
          have ht2 := p3.2.2.1
          have ht3 := p3.2.2.2.1
          unfold sw_abs at ht1
          exact ih (i + 1) _ _ (by omega) (by rw [eq_]; rfl) rfl ⟨ht2, ht3⟩ (by omega) (fun j hj => by rcases Nat.lt_or_ge j i with z | z; exact hlt j z; rw [show j = i by omega]; exact hlw) (by omega)
        · refine sw_blk k_X3_lawfulSpeeds 0 34 [(6, .inl (i : Int)), (5, .inl b), (4, .inl q), (0, .inr (.inr 1)), (1, .inl p), (2, .inr (.inr 22)), (3, .inl k)] [.inl 0] σ rfl ?_
          refine sw_if_ne k_X3_lawfulSpeeds rfl (by decide) 40 37 (by decide) rfl (fun c => absurd (by decide) c) (fun _ => ?_)
          refine sw_blk k_X3_lawfulSpeeds 1 39 [(6, .inl (i : Int)), (5, .inl b), (4, .inl q), (0, .inr (.inr 1)), (1, .inl p), (2, .inr (.inr 22)), (3, .inl k)] [.inl (i : Int)] σ rfl ?_
          refine sw_ireturn k_X3_lawfulSpeeds rfl rfl ?_
          exact hQ i hik hlt (fun _ z => p3 (by unfold sw_lw at z; rw [← eq_, ← eb_] at z; exact z))
theorem sp_lawful3 (σ : sw_S) (hσ : sw_gs σ) (hD : 10 ≤ σ 1 0 ∧ σ 1 0 ≤ 400) (hV : 1 ≤ σ 1 1 ∧ σ 1 1 ≤ 20) (hA : 1 ≤ σ 1 2 ∧ σ 1 2 ≤ 5) (hL : ∀ x : Int, 0 ≤ x → x ≤ σ 1 0 → 1 ≤ σ 2 x.toNat ∧ σ 2 x.toNat ≤ σ 1 1) (p k : Int) (hp : 0 ≤ p ∧ p ≤ σ 1 0) (hk : 0 ≤ k ∧ k ≤ 60) : sw_Con sw_ly sw_rho M_X3_lawfulSpeeds [.inr (.inr 1), .inl p, .inr (.inr 22), .inl k] σ (fun r σ' => σ = σ' ∧ ∃ m : Nat, r = some (.inl (m : Int)) ∧ (m : Int) ≤ k ∧ (∀ j, j < m → sw_lw (σ 2) (σ 1 0) (σ 1 1) (σ 1 2) (σ 22) p j) ∧ ((m : Int) < k → ¬ sw_lw (σ 2) (σ 1 0) (σ 1 1) (σ 1 2) (σ 22) p m)) := by
  refine sw_con (by decide) (Nat.le_of_ble_eq_true rfl) ?_
  refine sw_blk k_X3_lawfulSpeeds 6 9 [(6, .inl 0), (5, .inl 0), (4, .inl p), (0, .inr (.inr 1)), (1, .inl p), (2, .inr (.inr 22)), (3, .inl k)] [] σ rfl ?_
  exact lp_lawful3 σ hσ hD hV hA hL p k hk _ (fun m h1 h2 h3 => ⟨rfl, m, rfl, h1, h2, h3⟩) 61 0 p 0 (by omega) rfl rfl hp (by omega) (fun j hj => absurd hj (Nat.not_lt_zero j)) (by omega)
theorem lp_addZone (σ : sw_S) (hσ : sw_gs σ) (a b w : Int) (hab : 0 ≤ a ∧ a ≤ b ∧ b ≤ σ 1 0) (hw : 1 ≤ w ∧ w ≤ 20) (hD : 10 ≤ σ 1 0 ∧ σ 1 0 ≤ 400) (Q : Option sw_Vl → sw_S → Prop) (hQ : ∀ τ : sw_S, (∀ i j, i ≠ 2 → τ i j = σ i j) → (∀ x : Nat, (x : Int) ≤ σ 1 0 → τ 2 x = (if (a ≤ (x : Int) ∧ (x : Int) < b + 1) ∨ (a ≤ σ 1 0 - x ∧ σ 1 0 - x < b + 1) then min (σ 2 x) w else σ 2 x)) → sw_gs τ → Q none (sw_u τ 1 3 (τ 1 3 + 1))) : ∀ (n : Nat) (k : Int) (τ : sw_S), a ≤ k → k ≤ b + 1 → (∀ i j, i ≠ 2 → τ i j = σ i j) → (∀ x : Nat, (x : Int) ≤ σ 1 0 → τ 2 x = (if (a ≤ (x : Int) ∧ (x : Int) < k) ∨ (a ≤ σ 1 0 - x ∧ σ 1 0 - x < k) then min (σ 2 x) w else σ 2 x)) → sw_gs τ → (b + 1 - k).toNat < n → sw_E sw_ly sw_rho M_X3_addZone 7 [(4, .inl k), (0, .inr (.inr 1)), (1, .inl a), (2, .inl b), (3, .inl w)] [] τ Q := by
  intro n
  induction n with
  | zero =>
    intro k τ hak hkb hrow hτ hg hm
    omega
  | succ n ih =>
    intro k τ hak hkb hrow hτ hg hm
    have e10 : τ 1 0 = σ 1 0 := hrow 1 0 (by decide)
    refine sw_blk k_X3_addZone 4 14 [(4, .inl k), (0, .inr (.inr 1)), (1, .inl a), (2, .inl b), (3, .inl w)] [.inl (τ 1 0), .inl b, .inl k] τ rfl ?_
    refine sw_callS k_X3_addZone rfl cS_J9_min_7cf53 ml_X3_44 ⟨by decide, by decide⟩ [.inl b, .inl (τ 1 0)] [.inl k] rfl rfl (Nat.le_of_ble_eq_true rfl) 17 rfl (sp_min τ b (τ 1 0) (by omega) (hg 1 _)) (fun r1 σ2 hq3 => ?_)
    obtain ⟨rfl, rfl⟩ := hq3
    refine sw_blk k_X3_addZone 0 17 [(4, .inl k), (0, .inr (.inr 1)), (1, .inl a), (2, .inl b), (3, .inl w)] [.inl (min b (τ 1 0)), .inl k] τ rfl ?_
    refine sw_icmp_gt k_X3_addZone rfl (by omega) (by omega) 72 20 (by decide) rfl (fun c4 => ?_) (fun c4 => ?_)
    · refine sw_blk k_X3_addZone 6 82 [(4, .inl k), (0, .inr (.inr 1)), (1, .inl a), (2, .inl b), (3, .inl w)] [] (sw_u τ 1 3 ((τ 1 3) + 1)) rfl ?_
      refine sw_vreturn k_X3_addZone rfl rfl ?_
      have ek : k = b + 1 := by omega
      subst ek
      exact hQ τ hrow hτ hg
    · refine sw_blk k_X3_addZone 6 32 [(4, .inl k), (0, .inr (.inr 1)), (1, .inl a), (2, .inl b), (3, .inl w)] [.inl k, .inr (.inr 2), .inl k, .inr (.inr 2)] τ rfl ?_
      refine sw_iald k_X3_addZone rfl (i := 2) (n := 401) rfl (by decide) (by omega) (by omega) 33 rfl ?_
      refine sw_blk k_X3_addZone 1 34 [(4, .inl k), (0, .inr (.inr 1)), (1, .inl a), (2, .inl b), (3, .inl w)] [.inl w, .inl (τ 2 k.toNat), .inl k, .inr (.inr 2)] τ rfl ?_
      refine sw_callS k_X3_addZone rfl cS_J9_min_7cf53 ml_X3_44 ⟨by decide, by decide⟩ [.inl (τ 2 k.toNat), .inl w] [.inl k, .inr (.inr 2)] rfl rfl (Nat.le_of_ble_eq_true rfl) 37 rfl (sp_min τ (τ 2 k.toNat) w (hg 2 _) (by omega)) (fun r5 σ6 hq7 => ?_)
      obtain ⟨rfl, rfl⟩ := hq7
      refine sw_blk k_X3_addZone 0 37 [(4, .inl k), (0, .inr (.inr 1)), (1, .inl a), (2, .inl b), (3, .inl w)] [.inl (min (τ 2 k.toNat) w), .inl k, .inr (.inr 2)] τ rfl ?_
      refine sw_iast k_X3_addZone rfl (i := 2) (n := 401) rfl (by decide) (by omega) (by omega) 38 rfl ?_
      refine sw_blk k_X3_addZone 12 60 [(4, .inl k), (0, .inr (.inr 1)), (1, .inl a), (2, .inl b), (3, .inl w)] [.inl ((τ 1 0) - k), .inr (.inr 2), .inl ((τ 1 0) - k), .inr (.inr 2)] (sw_u τ 2 k.toNat (min (τ 2 k.toNat) w)) rfl ?_
      refine sw_iald k_X3_addZone rfl (i := 2) (n := 401) rfl (by decide) (by omega) (by omega) 61 rfl ?_
      refine sw_blk k_X3_addZone 1 62 [(4, .inl k), (0, .inr (.inr 1)), (1, .inl a), (2, .inl b), (3, .inl w)] [.inl w, .inl ((sw_u τ 2 k.toNat (min (τ 2 k.toNat) w)) 2 (((τ 1 0) - k).toNat)), .inl ((τ 1 0) - k), .inr (.inr 2)] (sw_u τ 2 k.toNat (min (τ 2 k.toNat) w)) rfl ?_
      refine sw_callS k_X3_addZone rfl cS_J9_min_7cf53 ml_X3_44 ⟨by decide, by decide⟩ [.inl ((sw_u τ 2 k.toNat (min (τ 2 k.toNat) w)) 2 (((τ 1 0) - k).toNat)), .inl w] [.inl ((τ 1 0) - k), .inr (.inr 2)] rfl rfl (Nat.le_of_ble_eq_true rfl) 65 rfl (sp_min (sw_u τ 2 k.toNat (min (τ 2 k.toNat) w)) ((sw_u τ 2 k.toNat (min (τ 2 k.toNat) w)) 2 (((τ 1 0) - k).toNat)) w (sw_gs_u hg 2 k.toNat (v := min (τ 2 k.toNat) w) (by have := hg 2 k.toNat; omega) 2 _) (by omega)) (fun r8 σ9 hq10 => ?_)
      obtain ⟨rfl, rfl⟩ := hq10
      refine sw_blk k_X3_addZone 0 65 [(4, .inl k), (0, .inr (.inr 1)), (1, .inl a), (2, .inl b), (3, .inl w)] [.inl (min ((sw_u τ 2 k.toNat (min (τ 2 k.toNat) w)) 2 (((τ 1 0) - k).toNat)) w), .inl ((τ 1 0) - k), .inr (.inr 2)] (sw_u τ 2 k.toNat (min (τ 2 k.toNat) w)) rfl ?_
      refine sw_iast k_X3_addZone rfl (i := 2) (n := 401) rfl (by decide) (by omega) (by omega) 66 rfl ?_
      refine sw_blk k_X3_addZone 2 7 [(4, .inl (k + 1)), (0, .inr (.inr 1)), (1, .inl a), (2, .inl b), (3, .inl w)] [] (sw_u (sw_u τ 2 k.toNat (min (τ 2 k.toNat) w)) 2 (((τ 1 0) - k).toNat) (min ((sw_u τ 2 k.toNat (min (τ 2 k.toNat) w)) 2 (((τ 1 0) - k).toNat)) w)) rfl ?_
      have hk0 := hτ k.toNat (by omega)
      have hd0 := hτ (σ 1 0 - k).toNat (by omega)
      have g1 := hg 2 k.toNat
      have g2 := hg 2 (σ 1 0 - k).toNat
      refine ih (k + 1) _ (by omega) (by omega) (fun i j hi => ?_) (fun x hx => ?_) ?_ (by omega)
      · rw [sw_u_row _ _ hi, sw_u_row _ _ hi]; exact hrow i j hi
      · have hx0 := hτ x hx
        rw [e10]
        by_cases x1 : x = (σ 1 0 - k).toNat
        · subst x1
          rw [sw_u_same]
          by_cases x2 : (σ 1 0 - k).toNat = k.toNat
          · rw [x2, sw_u_same]; omega
          · rw [sw_u_ne _ _ (fun z => x2 z.2)]; omega
        · rw [sw_u_ne _ _ (fun z => x1 z.2)]
          by_cases x2 : x = k.toNat
          · subst x2; rw [sw_u_same]; omega
          · rw [sw_u_ne _ _ (fun z => x2 z.2)]; omega
      · refine sw_gs_u (sw_gs_u hg _ _ (by omega)) _ _ ?_
        have g3 := sw_gs_u hg 2 k.toNat (v := min (τ 2 k.toNat) w) (by omega) 2 (τ 1 0 - k).toNat
        omega
theorem sp_addZone (σ : sw_S) (hσ : sw_gs σ) (a b w : Int) (hab : 0 ≤ a ∧ a ≤ b ∧ b ≤ σ 1 0) (hw : 1 ≤ w ∧ w ≤ 20) (hD : 10 ≤ σ 1 0 ∧ σ 1 0 ≤ 400) : sw_Con sw_ly sw_rho M_X3_addZone [.inr (.inr 1), .inl a, .inl b, .inl w] σ (fun r σ' => r = none ∧ ∃ τ : sw_S, (∀ i j, i ≠ 2 → τ i j = σ i j) ∧ (∀ x : Nat, (x : Int) ≤ σ 1 0 → τ 2 x = (if (a ≤ (x : Int) ∧ (x : Int) < b + 1) ∨ (a ≤ σ 1 0 - x ∧ σ 1 0 - x < b + 1) then min (σ 2 x) w else σ 2 x)) ∧ sw_gs τ ∧ sw_u τ 1 3 (τ 1 3 + 1) = σ') := by
  refine sw_con (by decide) (Nat.le_of_ble_eq_true rfl) ?_
  refine sw_blk k_X3_addZone 2 2 [(0, .inr (.inr 1)), (1, .inl a), (2, .inl b), (3, .inl w)] [.inl 0, .inl a] σ rfl ?_
  refine sw_callS k_X3_addZone rfl cS_J9_max_7cf53 ml_X3_38 ⟨by decide, by decide⟩ [.inl a, .inl 0] [] rfl rfl (Nat.le_of_ble_eq_true rfl) 5 rfl (sp_max σ a 0 (by omega) (by decide)) (fun r1 σ1 hq => ?_)
  obtain ⟨rfl, rfl⟩ := hq
  refine sw_blk k_X3_addZone 1 7 [(4, .inl (max a 0)), (0, .inr (.inr 1)), (1, .inl a), (2, .inl b), (3, .inl w)] [] σ rfl ?_
  rw [show max a 0 = a by omega]
  refine lp_addZone σ hσ a b w hab hw hD _ (fun τ h1 h2 h3 => ⟨rfl, τ, h1, h2, h3, rfl⟩) ((b + 1 - a).toNat + 1) a σ (by omega) (by omega) (fun _ _ _ => rfl) (fun x hx => ?_) hσ (by omega)
  rw [if_neg (by omega)]
end
section
/-- rides of n ticks toward the end q by the way w, d places from it, behind a tick of speed b: no tick stands, turns or goes beyond -/
def sw_R (lim : Nat → Int) (D V A q w : Int) : Nat → Int → Int → Prop
  | 0, d, b => d = 0 ∧ b ≤ A
  | n + 1, d, b => ∃ s, 1 ≤ s ∧ s ≤ d ∧ b - A ≤ s ∧ s ≤ b + A ∧ sw_tk lim D V (q - w * d) (w * s) ∧ sw_R lim D V A q w n (d - s) s
abbrev sw_Rt : Type := Nat → Int → Int → Prop
/-- the fewest ticks, a million where there is no ride -/
def sw_F (R : sw_Rt) (d b L : Int) : Prop := (L = 1000000 ∧ ∀ n, ¬ R n d b) ∨ (0 ≤ L ∧ L ≤ d ∧ R L.toNat d b ∧ ∀ m : Nat, (m : Int) < L → ¬ R m d b)
def sw_mi (R : sw_Rt) (d lo sp m : Int) : Prop := (m = 1000000 ∧ ∀ s, lo ≤ s → s < sp → ∀ n, ¬ R n (d - s) s) ∨ (1 ≤ m ∧ m ≤ d ∧ (∃ s, lo ≤ s ∧ s < sp ∧ R (m - 1).toNat (d - s) s) ∧ ∀ s, lo ≤ s → s < sp → ∀ n : Nat, (n : Int) + 1 < m → ¬ R n (d - s) s)
theorem sw_mi_0 (R : sw_Rt) (d lo : Int) : sw_mi R d lo lo 1000000 := Or.inl ⟨rfl, fun s h1 h2 => by omega⟩
theorem sw_mi_s {R : sw_Rt} {d lo sp m x : Int} (h : sw_mi R d lo sp m) (hd : d ≤ 400) (h1 : 1 ≤ sp) (hl : lo ≤ sp) (h2 : sp ≤ d) (hx : sw_F R (d - sp) sp x) : sw_mi R d lo (sp + 1) (min m (x + 1)) := by
  have cs : ∀ s, lo ≤ s → s < sp + 1 → s < sp ∨ s = sp := fun s _ _ => by omega
  rcases h with ⟨e, hn⟩ | ⟨m1, m2, ⟨s0, a1, a2, a3⟩, m4⟩
  · subst e
    rcases hx with ⟨e2, hx⟩ | ⟨x1, x2, x3, x4⟩
    · left
      refine ⟨by omega, fun s b1 b2 n => ?_⟩
      rcases cs s b1 b2 with b3 | b3
      · exact hn s b1 b3 n
      · subst b3; exact hx n
    · right
      have e3 : min (1000000 : Int) (x + 1) = x + 1 := by omega
      rw [e3]
      refine ⟨by omega, by omega, ⟨sp, hl, by omega, by rw [show x + 1 - 1 = x by omega]; exact x3⟩, fun s b1 b2 n hn2 => ?_⟩
      rcases cs s b1 b2 with b3 | b3
      · exact hn s b1 b3 n
      · subst b3; exact x4 n (by omega)
  · right
    rcases hx with ⟨e2, hx⟩ | ⟨x1, x2, x3, x4⟩
    · have e3 : min m (x + 1) = m := by omega
      rw [e3]
      refine ⟨m1, m2, ⟨s0, a1, by omega, a3⟩, fun s b1 b2 n hn2 => ?_⟩
      rcases cs s b1 b2 with b3 | b3
      · exact m4 s b1 b3 n hn2
      · subst b3; exact hx n
    · rcases Int.lt_or_le (x + 1) m with q | q
      · have e3 : min m (x + 1) = x + 1 := by omega
        rw [e3]
        refine ⟨by omega, by omega, ⟨sp, hl, by omega, by rw [show x + 1 - 1 = x by omega]; exact x3⟩, fun s b1 b2 n hn2 => ?_⟩
        rcases cs s b1 b2 with b3 | b3
        · exact m4 s b1 b3 n (by omega)
        · subst b3; exact x4 n (by omega)
      · have e3 : min m (x + 1) = m := by omega
        rw [e3]
        refine ⟨m1, m2, ⟨s0, a1, by omega, a3⟩, fun s b1 b2 n hn2 => ?_⟩
        rcases cs s b1 b2 with b3 | b3
        · exact m4 s b1 b3 n hn2
        · subst b3; exact x4 n (by omega)
theorem sw_mi_F {lim : Nat → Int} {D V A q w d b g sp m : Int} (h : sw_mi (sw_R lim D V A q w) d (max (b - A) 1) sp m) (hd : 1 ≤ d) (hg : ∀ t, 0 ≤ t → ((sw_tk lim D V (q - w * d) (w * t) ∧ t ≤ d) ↔ t ≤ g)) (hs : min (b + A) g < sp) (hs2 : sp ≤ min (b + A) g + 1 ∨ sp = max (b - A) 1) : sw_F (sw_R lim D V A q w) d b m := by
  have key : ∀ n, sw_R lim D V A q w (n + 1) d b ↔ ∃ s, max (b - A) 1 ≤ s ∧ s < sp ∧ sw_R lim D V A q w n (d - s) s := by
    intro n
    constructor
    · rintro ⟨s, h1, h2, h3, h4, h5, h6⟩
      have := (hg s (by omega)).mp ⟨h5, h2⟩
      exact ⟨s, by omega, by omega, h6⟩
    · rintro ⟨s, h1, h2, h6⟩
      have := (hg s (by omega)).mpr (by omega)
      exact ⟨s, by omega, this.2, by omega, by omega, this.1, h6⟩
  have k0 : ¬ sw_R lim D V A q w 0 d b := fun z => by have := z.1; omega
  rcases h with ⟨e, hn⟩ | ⟨m1, m2, ⟨s0, a1, a2, a3⟩, m4⟩
  · left
    refine ⟨e, fun n hr => ?_⟩
    cases n with
    | zero => exact k0 hr
    | succ n =>
      obtain ⟨s, b1, b2, b3⟩ := (key n).mp hr
      exact hn s b1 b2 n b3
  · right
    have e1 : m.toNat = (m - 1).toNat + 1 := by omega
    refine ⟨by omega, m2, by rw [e1]; exact (key _).mpr ⟨s0, a1, a2, a3⟩, fun n hn2 hr => ?_⟩
    cases n with
    | zero => exact k0 hr
    | succ n =>
      obtain ⟨s, b1, b2, b3⟩ := (key n).mp hr
      exact m4 s b1 b2 n (by omega) b3
theorem sp_gsp (σ : sw_S) (hσ : sw_gs σ) (p w : Int) (hw : w = 1 ∨ w = -1) (hp : 0 ≤ p ∧ p ≤ σ 1 0) (hD : σ 1 0 ≤ 400) (hV : 1 ≤ σ 1 1 ∧ σ 1 1 ≤ 20) (h0 : ∀ x : Int, 0 ≤ x → x ≤ σ 1 0 → 0 ≤ σ 2 x.toNat) : sw_Con sw_ly sw_rho M_X3_greatestSpeed [.inr (.inr 1), .inl p, .inl w] σ (fun r σ' => σ = σ' ∧ ∃ g : Int, r = some (.inl g) ∧ 0 ≤ g ∧ g ≤ σ 1 1 ∧ ∀ t, 0 ≤ t → (sw_tk (σ 2) (σ 1 0) (σ 1 1) p (w * t) ↔ t ≤ g)) := by
  rcases hw with rfl | rfl
  · exact sp_gspd σ hσ p hp hD hV h0
  · exact sp_gspu σ hσ p hp hD hV h0
theorem sp_gfrom (σ : sw_S) (hσ : sw_gs σ) (hD : 10 ≤ σ 1 0 ∧ σ 1 0 ≤ 400) (hV : 1 ≤ σ 1 1 ∧ σ 1 1 ≤ 20) (hA : 1 ≤ σ 1 2 ∧ σ 1 2 ≤ 5) (hL : ∀ x : Int, 0 ≤ x → x ≤ σ 1 0 → 1 ≤ σ 2 x.toNat ∧ σ 2 x.toNat ≤ σ 1 1) (hw : σ 3 3 = 1 ∨ σ 3 3 = -1) (d : Int) (hd : 0 ≤ d ∧ d ≤ 400) (hp : 0 ≤ σ 3 2 - σ 3 3 * d ∧ σ 3 2 - σ 3 3 * d ≤ σ 1 0) : sw_Con sw_ly sw_rho M_X1_greatestFrom [.inr (.inr 3), .inl d] σ (fun r σ' => σ = σ' ∧ ∃ g : Int, r = some (.inl g) ∧ 0 ≤ g ∧ g ≤ d ∧ g ≤ σ 1 1 ∧ ∀ t, 0 ≤ t → ((sw_tk (σ 2) (σ 1 0) (σ 1 1) (σ 3 2 - σ 3 3 * d) (σ 3 3 * t) ∧ t ≤ d) ↔ t ≤ g)) := by
  refine sw_con (by decide) (Nat.le_of_ble_eq_true rfl) ?_
  refine sw_blk k_X1_greatestFrom 11 19 [(0, .inr (.inr 3)), (1, .inl d)] [.inl (σ 3 3), .inl ((σ 3 2) - ((σ 3 3) * d)), .inr (.inr 1)] σ rfl ?_
  refine sw_callV k_X1_greatestFrom rfl cV_X3_greatestSpeed ml_X1_78 ⟨by decide, by decide⟩ 1 rfl rfl [.inl ((σ 3 2) - ((σ 3 3) * d)), .inl (σ 3 3)] [] rfl rfl (Nat.le_of_ble_eq_true rfl) 22 rfl (sp_gsp σ hσ ((σ 3 2) - ((σ 3 3) * d)) (σ 3 3) hw hp hD.2 hV (fun x q1 q2 => by have := hL x q1 q2; omega)) (fun r5 σ6 hq7 => ?_)
  obtain ⟨rfl, g1, rfl, a2, b3, hg4⟩ := hq7
  refine sw_blk k_X1_greatestFrom 1 23 [(0, .inr (.inr 3)), (1, .inl d)] [.inl d, .inl g1] σ rfl ?_
  refine sw_callS k_X1_greatestFrom rfl cS_J9_min_7cf53 ml_X1_53 ⟨by decide, by decide⟩ [.inl g1, .inl d] [] rfl rfl (Nat.le_of_ble_eq_true rfl) 26 rfl (sp_min σ g1 d (by omega) (by omega)) (fun r8 σ9 hq10 => ?_)
  obtain ⟨rfl, rfl⟩ := hq10
  refine sw_blk k_X1_greatestFrom 0 26 [(0, .inr (.inr 3)), (1, .inl d)] [.inl (min g1 d)] σ rfl ?_
  refine sw_ireturn k_X1_greatestFrom rfl rfl ?_
  exact ⟨rfl, _, rfl, by omega, by omega, by omega, fun t ht => by rw [hg4 t ht]; omega⟩
theorem lp_fillIn (σ : sw_S) (hσ : sw_gs σ) (hD : 10 ≤ σ 1 0 ∧ σ 1 0 ≤ 400) (hV : 1 ≤ σ 1 1 ∧ σ 1 1 ≤ 20) (hA : 1 ≤ σ 1 2 ∧ σ 1 2 ≤ 5) (hL : ∀ x : Int, 0 ≤ x → x ≤ σ 1 0 → 1 ≤ σ 2 x.toNat ∧ σ 2 x.toNat ≤ σ 1 1) (R : sw_Rt) (d b g : Int) (hd : 1 ≤ d ∧ d ≤ 400) (hb : 0 ≤ b ∧ b ≤ σ 1 1) (hg : 0 ≤ g ∧ g ≤ d ∧ g ≤ σ 1 1) (hF : ∀ d' b' : Int, 0 ≤ d' → d' < d → 0 ≤ b' → b' ≤ σ 1 1 → sw_F R d' b' (σ 4 (d' * 21 + b').toNat)) (Q : Option sw_Vl → sw_S → Prop) (hQ : ∀ sp m : Int, sw_mi R d (max (b - σ 1 2) 1) sp m → min (b + σ 1 2) g < sp → (sp ≤ min (b + σ 1 2) g + 1 ∨ sp = max (b - σ 1 2) 1) → sw_g m → sw_E sw_ly sw_rho M_X1_fillRow 82 [(6, .inl sp), (4, .inl m), (5, .inl (min (b + σ 1 2) g)), (3, .inl b), (2, .inl g), (0, .inr (.inr 3)), (1, .inl d)] [] σ Q) : ∀ (n : Nat) (sp m : Int), 1 ≤ sp → max (b - σ 1 2) 1 ≤ sp → sw_mi R d (max (b - σ 1 2) 1) sp m → (sp ≤ min (b + σ 1 2) g + 1 ∨ sp = max (b - σ 1 2) 1) → sw_g m → (30 - sp).toNat < n → sw_E sw_ly sw_rho M_X1_fillRow 53 [(6, .inl sp), (4, .inl m), (5, .inl (min (b + σ 1 2) g)), (3, .inl b), (2, .inl g), (0, .inr (.inr 3)), (1, .inl d)] [] σ Q := by
  intro n
  induction n with
  | zero =>
    intro sp m h1 hl hi hs2 gm hn
    omega
  | succ n ih =>
    intro sp m h1 hl hi hs2 gm hn
    refine sw_blk k_X1_fillRow 2 57 [(6, .inl sp), (4, .inl m), (5, .inl (min (b + σ 1 2) g)), (3, .inl b), (2, .inl g), (0, .inr (.inr 3)), (1, .inl d)] [.inl (min (b + σ 1 2) g), .inl sp] σ rfl ?_
    refine sw_icmp_gt k_X1_fillRow rfl (by omega) (by omega) 82 60 (by decide) rfl (fun c1 => ?_) (fun c1 => ?_)
    · exact hQ sp m hi (by omega) hs2 gm
    · refine sw_blk k_X1_fillRow 4 66 [(6, .inl sp), (4, .inl m), (5, .inl (min (b + σ 1 2) g)), (3, .inl b), (2, .inl g), (0, .inr (.inr 3)), (1, .inl d)] [.inl sp, .inl d, .inr (.inr 3), .inl m] σ rfl ?_
      refine sw_callV k_X1_fillRow rfl cV_X1_ticksAfter ml_X1_75 ⟨by decide, by decide⟩ 3 rfl rfl [.inl d, .inl sp] [.inl m] rfl rfl (Nat.le_of_ble_eq_true rfl) 69 rfl (sp_ticksAfter σ d sp (by omega) (by omega)) (fun r2 σ3 hq4 => ?_)
      obtain ⟨rfl, rfl⟩ := hq4
      have hx := hF (d - sp) sp (by omega) (by omega) (by omega) (by omega)
      have gx : sw_g (σ 4 ((d - sp) * 21 + sp).toNat + 1) := by rcases hx with ⟨z, -⟩ | ⟨z1, z2, -⟩ <;> omega
      refine sw_blk k_X1_fillRow 2 71 [(6, .inl sp), (4, .inl m), (5, .inl (min (b + σ 1 2) g)), (3, .inl b), (2, .inl g), (0, .inr (.inr 3)), (1, .inl d)] [.inl ((σ 4 ((d - sp) * 21 + sp).toNat) + 1), .inl m] σ rfl ?_
      refine sw_callS k_X1_fillRow rfl cS_J9_min_7cf53 ml_X1_53 ⟨by decide, by decide⟩ [.inl m, .inl ((σ 4 ((d - sp) * 21 + sp).toNat) + 1)] [] rfl rfl (Nat.le_of_ble_eq_true rfl) 74 rfl (sp_min σ m ((σ 4 ((d - sp) * 21 + sp).toNat) + 1) gm gx) (fun r5 σ6 hq7 => ?_)
      obtain ⟨rfl, rfl⟩ := hq7
      refine sw_blk k_X1_fillRow 3 53 [(6, .inl (sp + 1)), (4, .inl (min m ((σ 4 ((d - sp) * 21 + sp).toNat) + 1))), (5, .inl (min (b + σ 1 2) g)), (3, .inl b), (2, .inl g), (0, .inr (.inr 3)), (1, .inl d)] [] σ rfl ?_
      exact ih (sp + 1) _ (by omega) (by omega) (sw_mi_s hi (by omega) h1 hl (by omega) hx) (by omega) (by omega) (by omega)
theorem lp_fillOut (σ : sw_S) (hσ : sw_gs σ) (hD : 10 ≤ σ 1 0 ∧ σ 1 0 ≤ 400) (hV : 1 ≤ σ 1 1 ∧ σ 1 1 ≤ 20) (hA : 1 ≤ σ 1 2 ∧ σ 1 2 ≤ 5) (hL : ∀ x : Int, 0 ≤ x → x ≤ σ 1 0 → 1 ≤ σ 2 x.toNat ∧ σ 2 x.toNat ≤ σ 1 1) (hw : σ 3 3 = 1 ∨ σ 3 3 = -1) (d g : Int) (hd : 1 ≤ d ∧ d ≤ 400) (hg : 0 ≤ g ∧ g ≤ d ∧ g ≤ σ 1 1) (hgg : ∀ t, 0 ≤ t → ((sw_tk (σ 2) (σ 1 0) (σ 1 1) (σ 3 2 - σ 3 3 * d) (σ 3 3 * t) ∧ t ≤ d) ↔ t ≤ g)) (Q : Option sw_Vl → sw_S → Prop) (hQ : ∀ τ : sw_S, (∀ i j, i ≠ 4 → τ i j = σ i j) → sw_gs τ → (∀ d' b' : Int, 0 ≤ d' → d' ≤ d → 0 ≤ b' → b' ≤ σ 1 1 → sw_F (sw_R (σ 2) (σ 1 0) (σ 1 1) (σ 1 2) (σ 3 2) (σ 3 3)) d' b' (τ 4 (d' * 21 + b').toNat)) → Q none τ) : ∀ (n : Nat) (b : Int) (τ : sw_S), 0 ≤ b → b ≤ σ 1 1 + 1 → (∀ i j, i ≠ 4 → τ i j = σ i j) → sw_gs τ → (∀ d' b' : Int, 0 ≤ d' → 0 ≤ b' → b' ≤ σ 1 1 → (d' < d ∨ d' = d ∧ b' < b) → sw_F (sw_R (σ 2) (σ 1 0) (σ 1 1) (σ 1 2) (σ 3 2) (σ 3 3)) d' b' (τ 4 (d' * 21 + b').toNat)) → (30 - b).toNat < n → sw_E sw_ly sw_rho M_X1_fillRow 8 [(3, .inl b), (2, .inl g), (0, .inr (.inr 3)), (1, .inl d)] [] τ Q := by
  intro n
  induction n with
  | zero =>
    intro b τ hb0 hb1 hrow hτ hF hn
    omega
  | succ n ih =>
    intro b τ hb0 hb1 hrow hτ hF hn
    have e10 : τ 1 0 = σ 1 0 := hrow 1 0 (by decide)
    have e11 : τ 1 1 = σ 1 1 := hrow 1 1 (by decide)
    have e12 : τ 1 2 = σ 1 2 := hrow 1 2 (by decide)
    have e2 : τ 2 = σ 2 := funext fun j => hrow 2 j (by decide)
    refine sw_blk k_X1_fillRow 4 16 [(3, .inl b), (2, .inl g), (0, .inr (.inr 3)), (1, .inl d)] [.inl (τ 1 1), .inl b] τ rfl ?_
    refine sw_icmp_gt k_X1_fillRow rfl (by omega) (by omega) 101 19 (by decide) rfl (fun c1 => ?_) (fun c1 => ?_)
    · refine sw_vreturn k_X1_fillRow rfl rfl ?_
      exact hQ τ hrow hτ (fun d' b' q1 q2 q3 q4 => hF d' b' q1 q3 q4 (by omega))
    · refine sw_blk k_X1_fillRow 8 33 [(4, .inl 1000000), (3, .inl b), (2, .inl g), (0, .inr (.inr 3)), (1, .inl d)] [.inl g, .inl (b + (τ 1 2))] τ rfl ?_
      refine sw_callS k_X1_fillRow rfl cS_J9_min_7cf53 ml_X1_53 ⟨by decide, by decide⟩ [.inl (b + (τ 1 2)), .inl g] [] rfl rfl (Nat.le_of_ble_eq_true rfl) 36 rfl (sp_min τ (b + (τ 1 2)) g (by omega) (by omega)) (fun r2 σ3 hq4 => ?_)
      obtain ⟨rfl, rfl⟩ := hq4
      refine sw_blk k_X1_fillRow 7 48 [(5, .inl (min (b + (τ 1 2)) g)), (4, .inl 1000000), (3, .inl b), (2, .inl g), (0, .inr (.inr 3)), (1, .inl d)] [.inl 1, .inl (b - (τ 1 2))] τ rfl ?_
      refine sw_callS k_X1_fillRow rfl cS_J9_max_7cf53 ml_X1_72 ⟨by decide, by decide⟩ [.inl (b - (τ 1 2)), .inl 1] [] rfl rfl (Nat.le_of_ble_eq_true rfl) 51 rfl (sp_max τ (b - (τ 1 2)) 1 (by omega) (by omega)) (fun r5 σ6 hq7 => ?_)
      obtain ⟨rfl, rfl⟩ := hq7
      refine sw_blk k_X1_fillRow 1 53 [(6, .inl (max (b - (τ 1 2)) 1)), (5, .inl (min (b + (τ 1 2)) g)), (4, .inl 1000000), (3, .inl b), (2, .inl g), (0, .inr (.inr 3)), (1, .inl d)] [] τ rfl ?_
      refine sw_Lsub [(6, .inl (max (b - (τ 1 2)) 1)), (4, .inl 1000000), (5, .inl (min (b + (τ 1 2)) g)), (3, .inl b), (2, .inl g), (0, .inr (.inr 3)), (1, .inl d)] [0, 2, 1, 3, 4, 5, 6] rfl ?_
      refine lp_fillIn τ hτ (by rw [e10]; exact hD) (by rw [e11]; exact hV) (by rw [e12]; exact hA) (by rw [e10, e11, e2]; exact hL) (sw_R (σ 2) (σ 1 0) (σ 1 1) (σ 1 2) (σ 3 2) (σ 3 3)) d b g hd (by omega) (by omega) (fun d' b' q1 q2 q3 q4 => hF d' b' q1 q3 (by omega) (Or.inl q2)) Q (fun sp m hi hs hs2 gm => ?_) 30 _ _ (by omega) (by omega) (sw_mi_0 _ _ _) (Or.inr rfl) (by decide) (by omega)
      rw [e12] at hi hs hs2
      have hfin := sw_mi_F hi hd.1 hgg hs hs2
      refine sw_blk k_X1_fillRow 8 94 [(6, .inl sp), (4, .inl m), (5, .inl (min (b + τ 1 2) g)), (3, .inl b), (2, .inl g), (0, .inr (.inr 3)), (1, .inl d)] [.inl m, .inl (d * 21 + b), .inr (.inr 4)] τ rfl ?_
      refine sw_iast k_X1_fillRow rfl (i := 4) (n := 8421) rfl (by decide) (by omega) (by omega) 95 rfl ?_
      refine sw_blk k_X1_fillRow 2 8 [(3, .inl (b + 1)), (6, .inl sp), (4, .inl m), (5, .inl (min (b + τ 1 2) g)), (2, .inl g), (0, .inr (.inr 3)), (1, .inl d)] [] (sw_u τ 4 (d * 21 + b).toNat m) rfl ?_
      refine sw_Lsub [(3, .inl (b + 1)), (2, .inl g), (0, .inr (.inr 3)), (1, .inl d)] [0, 4, 5, 6] rfl ?_
      refine ih (b + 1) _ (by omega) (by omega) (fun i j hi2 => ?_) (sw_gs_u hτ _ _ gm) (fun d' b' q1 q2 q3 q4 => ?_) (by omega)
      · rw [sw_u_row _ _ hi2]; exact hrow i j hi2
      · by_cases z : d' = d ∧ b' = b
        · obtain ⟨z1, z2⟩ := z; subst z1; subst z2; rw [sw_u_same]; exact hfin
        · rw [sw_u_ne _ _ (fun y => z (by omega))]; exact hF d' b' q1 q2 q3 (by omega)
theorem sp_fillRow (σ : sw_S) (hσ : sw_gs σ) (hD : 10 ≤ σ 1 0 ∧ σ 1 0 ≤ 400) (hV : 1 ≤ σ 1 1 ∧ σ 1 1 ≤ 20) (hA : 1 ≤ σ 1 2 ∧ σ 1 2 ≤ 5) (hL : ∀ x : Int, 0 ≤ x → x ≤ σ 1 0 → 1 ≤ σ 2 x.toNat ∧ σ 2 x.toNat ≤ σ 1 1) (hw : σ 3 3 = 1 ∨ σ 3 3 = -1) (d : Int) (hd : 1 ≤ d ∧ d ≤ 400) (hp : 0 ≤ σ 3 2 - σ 3 3 * d ∧ σ 3 2 - σ 3 3 * d ≤ σ 1 0) (hF : ∀ d' b' : Int, 0 ≤ d' → d' < d → 0 ≤ b' → b' ≤ σ 1 1 → sw_F (sw_R (σ 2) (σ 1 0) (σ 1 1) (σ 1 2) (σ 3 2) (σ 3 3)) d' b' (σ 4 (d' * 21 + b').toNat)) : sw_Con sw_ly sw_rho M_X1_fillRow [.inr (.inr 3), .inl d] σ (fun r σ' => r = none ∧ (∀ i j, i ≠ 4 → σ' i j = σ i j) ∧ sw_gs σ' ∧ ∀ d' b' : Int, 0 ≤ d' → d' ≤ d → 0 ≤ b' → b' ≤ σ 1 1 → sw_F (sw_R (σ 2) (σ 1 0) (σ 1 1) (σ 1 2) (σ 3 2) (σ 3 3)) d' b' (σ' 4 (d' * 21 + b').toNat)) := by
  refine sw_con (by decide) (Nat.le_of_ble_eq_true rfl) ?_
  refine sw_blk k_X1_fillRow 2 2 [(0, .inr (.inr 3)), (1, .inl d)] [.inl d, .inr (.inr 3)] σ rfl ?_
  refine sw_callV k_X1_fillRow rfl cV_X1_greatestFrom ml_X1_69 ⟨by decide, by decide⟩ 3 rfl rfl [.inl d] [] rfl rfl (Nat.le_of_ble_eq_true rfl) 5 rfl (sp_gfrom σ hσ hD hV hA hL hw d (by omega) hp) (fun r6 σ7 hq8 => ?_)
  obtain ⟨rfl, g1, rfl, a2, b3, cc4, hg5⟩ := hq8
  refine sw_blk k_X1_fillRow 3 8 [(3, .inl 0), (2, .inl g1), (0, .inr (.inr 3)), (1, .inl d)] [] σ rfl ?_
  exact lp_fillOut σ hσ hD hV hA hL hw d g1 hd (by omega) hg5 _ (fun τ h1 h2 h3 => ⟨rfl, h1, h2, h3⟩) 31 0 σ (by omega) (by omega) (fun _ _ _ => rfl) hσ (fun d' b' q1 q2 q3 q4 => hF d' b' q1 (by omega) q2 q3) (by omega)
end
section
/-- the rows that the finder keeps are right -/
def sw_rw (σ : sw_S) (q w k : Int) : Prop := ∀ d b : Int, 0 ≤ d → d ≤ k → 0 ≤ b → b ≤ σ 1 1 → sw_F (sw_R (σ 2) (σ 1 0) (σ 1 1) (σ 1 2) q w) d b (σ 4 (d * 21 + b).toNat)
def sw_fn (σ : sw_S) : Prop := σ 3 2 = -1 ∨ ((0 ≤ σ 3 2 ∧ σ 3 2 ≤ σ 1 0) ∧ (σ 3 3 = 1 ∨ σ 3 3 = -1) ∧ 0 ≤ σ 3 4 ∧ (0 ≤ σ 3 2 - σ 3 3 * σ 3 4 ∧ σ 3 2 - σ 3 3 * σ 3 4 ≤ σ 1 0) ∧ sw_rw σ (σ 3 2) (σ 3 3) (σ 3 4))
/-- nothing has changed but what the finder keeps for itself -/
def sw_fk (σ τ : sw_S) : Prop := ∀ i j, i ≠ 4 → (i = 3 → j ≠ 2 ∧ j ≠ 3 ∧ j ≠ 4) → τ i j = σ i j
theorem sw_fk_rf (σ : sw_S) : sw_fk σ σ := fun _ _ _ _ => rfl
theorem sw_fk_tr {σ τ υ : sw_S} (h : sw_fk σ τ) (k : sw_fk τ υ) : sw_fk σ υ := fun i j a b => (k i j a b).trans (h i j a b)
theorem sw_fk_1 {σ τ : sw_S} (h : sw_fk σ τ) (j : Nat) : τ 1 j = σ 1 j := h 1 j (by decide) (fun z => absurd z (by decide))
theorem sw_fk_2 {σ τ : sw_S} (h : sw_fk σ τ) : τ 2 = σ 2 := funext fun j => h 2 j (by decide) (fun z => absurd z (by decide))
theorem sw_R_one {lim : Nat → Int} {D V A q w : Int} (hw : w = 1 ∨ w = -1) (hV : 1 ≤ V) (hA : 1 ≤ A) (hL : ∀ x : Int, 0 ≤ x → x ≤ D → 1 ≤ lim x.toNat) (hq : 0 ≤ q ∧ q ≤ D) : ∀ (n : Nat) (b : Int), 0 ≤ b → b ≤ 1 → 0 ≤ q - w * n ∧ q - w * n ≤ D → sw_R lim D V A q w n (n : Int) b
  | 0, b, h0, h1, _ => ⟨rfl, by omega⟩
  | n + 1, b, h0, h1, hp => by
    have hp2 : 0 ≤ q - w * (n : Int) ∧ q - w * (n : Int) ≤ D := by rcases hw with rfl | rfl <;> omega
    have ha : sw_abs (w * 1) = 1 := by unfold sw_abs; rcases hw with rfl | rfl <;> decide
    refine ⟨1, by omega, by omega, by omega, by omega, ⟨by rw [ha]; exact hV, ?_, ?_, ?_⟩, ?_⟩
    · rcases hw with rfl | rfl <;> omega
    · rcases hw with rfl | rfl <;> omega
    · rw [ha]
      intro x hx
      exact hL x (by rcases hw with rfl | rfl <;> omega) (by rcases hw with rfl | rfl <;> omega)
    · rw [show ((n + 1 : Nat) : Int) - 1 = (n : Int) by omega]
      exact sw_R_one hw hV hA hL hq n 1 (by omega) (by omega) hp2
theorem sw_R_le {lim : Nat → Int} {D V A q w : Int} : ∀ (n : Nat) (d b : Int), sw_R lim D V A q w n d b → (n : Int) ≤ d
  | 0, d, b, h => by have := h.1; omega
  | n + 1, d, b, h => by
    obtain ⟨s, h1, h2, -, -, -, h6⟩ := h
    have := sw_R_le n _ _ h6
    omega
/-- the best speed toward the end where n ticks more are left behind it -/
def sw_bs (lim : Nat → Int) (D V A q w : Int) (n : Nat) (d b s : Int) : Prop := 1 ≤ s ∧ s ≤ d ∧ b - A ≤ s ∧ s ≤ b + A ∧ sw_tk lim D V (q - w * d) (w * s) ∧ sw_R lim D V A q w n (d - s) s ∧ ∀ t, s < t → t ≤ d → t ≤ b + A → sw_tk lim D V (q - w * d) (w * t) → ¬ sw_R lim D V A q w n (d - t) t
/-- a row has, from place k on, the speeds of the ride -/
def sw_gp (lim : Nat → Int) (D V A q w : Int) : Nat → Int → Int → (Nat → Int) → Nat → Prop
  | 0, _, _, _, _ => True
  | n + 1, d, b, f, k => ∃ s, f k = w * s ∧ sw_bs lim D V A q w n d b s ∧ sw_gp lim D V A q w n (d - s) s f (k + 1)
theorem sw_bs_one {lim : Nat → Int} {D V A q w : Int} {n : Nat} {d b s t : Int} (h : sw_bs lim D V A q w n d b s) (k : sw_bs lim D V A q w n d b t) : s = t := by
  obtain ⟨h1, h2, h3, h4, h5, h6, h7⟩ := h
  obtain ⟨k1, k2, k3, k4, k5, k6, k7⟩ := k
  rcases Int.lt_trichotomy s t with z | z | z
  · exact absurd k6 (h7 t z k2 k4 k5)
  · exact z
  · exact absurd h6 (k7 s z h2 h4 h5)
theorem sw_gp_one {lim : Nat → Int} {D V A q w : Int} {f g : Nat → Int} : ∀ {n : Nat} {d b : Int} {k k' : Nat}, sw_gp lim D V A q w n d b f k → sw_gp lim D V A q w n d b g k' → ∀ i, i < n → f (k + i) = g (k' + i)
  | 0, _, _, _, _, _, _, i, hi => absurd hi (Nat.not_lt_zero i)
  | n + 1, d, b, k, k', h, h', i, hi => by
    obtain ⟨s, e1, b1, g1⟩ := h
    obtain ⟨t, e2, b2, g2⟩ := h'
    have e := sw_bs_one b1 b2
    subst e
    cases i with
    | zero => rw [Nat.add_zero, Nat.add_zero, e1, e2]
    | succ i =>
      have := sw_gp_one g1 g2 i (by omega)
      rw [show k + (i + 1) = k + 1 + i by omega, show k' + (i + 1) = k' + 1 + i by omega]
      exact this
theorem sw_gp_cong {lim : Nat → Int} {D V A q w : Int} {f g : Nat → Int} : ∀ {n : Nat} {d b : Int} {k : Nat}, (∀ i, k ≤ i → i < k + n → g i = f i) → sw_gp lim D V A q w n d b f k → sw_gp lim D V A q w n d b g k
  | 0, _, _, _, _, _ => trivial
  | n + 1, d, b, k, h, h' => by
    obtain ⟨s, e1, b1, g1⟩ := h'
    exact ⟨s, by rw [h k (by omega) (by omega)]; exact e1, b1, sw_gp_cong (fun i h1 h2 => h i (by omega) (by omega)) g1⟩
theorem lp_aim (σ : sw_S) (hσ : sw_gs σ) (hD : 10 ≤ σ 1 0 ∧ σ 1 0 ≤ 400) (hV : 1 ≤ σ 1 1 ∧ σ 1 1 ≤ 20) (hA : 1 ≤ σ 1 2 ∧ σ 1 2 ≤ 5) (hL : ∀ x : Int, 0 ≤ x → x ≤ σ 1 0 → 1 ≤ σ 2 x.toNat ∧ σ 2 x.toNat ≤ σ 1 1) (q w : Int) (hq : 0 ≤ q ∧ q ≤ σ 1 0) (hw : w = 1 ∨ w = -1) (Q : Option sw_Vl → sw_S → Prop) (hQ : ∀ τ : sw_S, sw_fk σ τ → sw_gs τ → τ 3 2 = q → τ 3 3 = w → sw_fn τ → Q none τ) : ∀ (n : Nat) (b : Int) (τ : sw_S), (0 ≤ b ∧ b ≤ σ 1 1 + 1) → sw_fk σ τ → sw_gs τ → τ 3 2 = q → τ 3 3 = w → τ 3 4 = 0 → (∀ c : Int, 0 ≤ c → c < b → τ 4 c.toNat = if c ≤ σ 1 2 then 0 else 1000000) → (30 - b).toNat < n → sw_E sw_ly sw_rho M_X1_aimAt 34 [(3, .inl b), (0, .inr (.inr 3)), (1, .inl q), (2, .inl w)] [] τ Q := by
  intro n
  induction n with
  | zero =>
    intro b τ hb hk hτ t2 t3 t4 hr hn
    omega
  | succ n ih =>
    intro b τ hb hk hτ t2 t3 t4 hr hn
    have e10 : τ 1 0 = σ 1 0 := sw_fk_1 hk 0
    have e11 : τ 1 1 = σ 1 1 := sw_fk_1 hk 1
    have e12 : τ 1 2 = σ 1 2 := sw_fk_1 hk 2
    refine sw_blk k_X1_aimAt 4 42 [(3, .inl b), (0, .inr (.inr 3)), (1, .inl q), (2, .inl w)] [.inl (τ 1 1), .inl b] τ rfl ?_
    refine sw_icmp_gt k_X1_aimAt rfl (by omega) (by omega) 74 45 (by decide) rfl (fun c1 => ?_) (fun c1 => ?_)
    · refine sw_vreturn k_X1_aimAt rfl rfl ?_
      refine hQ τ hk hτ t2 t3 (Or.inr ⟨by rw [t2, e10]; exact hq, by rw [t3]; exact hw, by omega, by rw [t2, t3, t4, e10, Int.mul_zero]; omega, fun d c d1 d2 c1 c2 => ?_⟩)
      have ed : d = 0 := by omega
      subst ed
      have hx := hr c c1 (by omega)
      rw [show (0 : Int) * 21 + c = c by omega, hx]
      by_cases z : c ≤ σ 1 2
      · rw [if_pos z]; exact Or.inr ⟨by omega, by omega, ⟨rfl, by rw [e12]; exact z⟩, fun m hm => by omega⟩
      · rw [if_neg z]; refine Or.inl ⟨rfl, fun n => ?_⟩
        cases n with
        | zero => exact fun y => z (by have := y.2; omega)
        | succ n => rintro ⟨s, y1, y2, -⟩; omega
    · refine sw_blk k_X1_aimAt 7 58 [(3, .inl b), (0, .inr (.inr 3)), (1, .inl q), (2, .inl w)] [.inl (τ 1 2), .inl b, .inl b, .inr (.inr 4)] τ rfl ?_
      refine sw_icmp_gt k_X1_aimAt rfl (by omega) (by omega) 65 61 (by decide) rfl (fun c2 => ?_) (fun c2 => ?_)
      · refine sw_blk k_X1_aimAt 1 67 [(3, .inl b), (0, .inr (.inr 3)), (1, .inl q), (2, .inl w)] [.inl 1000000, .inl b, .inr (.inr 4)] τ rfl ?_
        refine sw_iast k_X1_aimAt rfl (i := 4) (n := 8421) rfl (by decide) (by omega) (by omega) 68 rfl ?_
        refine sw_blk k_X1_aimAt 2 34 [(3, .inl (b + 1)), (0, .inr (.inr 3)), (1, .inl q), (2, .inl w)] [] (sw_u τ 4 b.toNat 1000000) rfl ?_
        refine ih (b + 1) _ (by omega) (fun i j a1 a2 => (sw_u_row _ _ a1).trans (hk i j a1 a2)) (sw_gs_u hτ _ _ (by decide)) t2 t3 t4 (fun c c1 c2 => ?_) (by omega)
        by_cases z : c = b
        · subst z; rw [sw_u_same]; omega
        · rw [sw_u_ne _ _ (fun y => z (by omega))]; exact hr c c1 (by omega)
      · refine sw_blk k_X1_aimAt 2 67 [(3, .inl b), (0, .inr (.inr 3)), (1, .inl q), (2, .inl w)] [.inl 0, .inl b, .inr (.inr 4)] τ rfl ?_
        refine sw_iast k_X1_aimAt rfl (i := 4) (n := 8421) rfl (by decide) (by omega) (by omega) 68 rfl ?_
        refine sw_blk k_X1_aimAt 2 34 [(3, .inl (b + 1)), (0, .inr (.inr 3)), (1, .inl q), (2, .inl w)] [] (sw_u τ 4 b.toNat 0) rfl ?_
        refine ih (b + 1) _ (by omega) (fun i j a1 a2 => (sw_u_row _ _ a1).trans (hk i j a1 a2)) (sw_gs_u hτ _ _ (by decide)) t2 t3 t4 (fun c c1 c2 => ?_) (by omega)
        by_cases z : c = b
        · subst z; rw [sw_u_same]; omega
        · rw [sw_u_ne _ _ (fun y => z (by omega))]; exact hr c c1 (by omega)
theorem sp_aimAt (σ : sw_S) (hσ : sw_gs σ) (hD : 10 ≤ σ 1 0 ∧ σ 1 0 ≤ 400) (hV : 1 ≤ σ 1 1 ∧ σ 1 1 ≤ 20) (hA : 1 ≤ σ 1 2 ∧ σ 1 2 ≤ 5) (hL : ∀ x : Int, 0 ≤ x → x ≤ σ 1 0 → 1 ≤ σ 2 x.toNat ∧ σ 2 x.toNat ≤ σ 1 1) (q w : Int) (hq : 0 ≤ q ∧ q ≤ σ 1 0) (hw : w = 1 ∨ w = -1) (hf : sw_fn σ) : sw_Con sw_ly sw_rho M_X1_aimAt [.inr (.inr 3), .inl q, .inl w] σ (fun r σ' => r = none ∧ sw_fk σ σ' ∧ sw_gs σ' ∧ σ' 3 2 = q ∧ σ' 3 3 = w ∧ sw_fn σ') := by
  refine sw_con (by decide) (Nat.le_of_ble_eq_true rfl) ?_
  refine sw_blk k_X1_aimAt 3 5 [(0, .inr (.inr 3)), (1, .inl q), (2, .inl w)] [.inl q, .inl (σ 3 2)] σ rfl ?_
  refine sw_icmp_ne k_X1_aimAt rfl (hσ 3 _) (by omega) 17 8 (by decide) rfl (fun c1 => ?_) (fun c1 => ?_)
  · refine sw_blk k_X1_aimAt 11 34 [(3, .inl 0), (0, .inr (.inr 3)), (1, .inl q), (2, .inl w)] [] (sw_u (sw_u (sw_u σ 3 2 q) 3 3 w) 3 4 0) rfl ?_
    refine lp_aim σ hσ hD hV hA hL q w hq hw _ (fun τ a1 a2 a3 a4 a5 => ⟨rfl, a1, a2, a3, a4, a5⟩) 31 0 _ (by omega) (fun i j a1 a2 => ?_) (sw_gs_u (sw_gs_u (sw_gs_u hσ _ _ (by omega)) _ _ (by omega)) _ _ (by decide)) rfl rfl rfl (fun c c1 c2 => by omega) (by omega)
    rw [sw_u_ne _ _ (fun y => (a2 y.1).2.2 y.2), sw_u_ne _ _ (fun y => (a2 y.1).2.1 y.2), sw_u_ne _ _ (fun y => (a2 y.1).1 y.2)]
  · refine sw_blk k_X1_aimAt 3 13 [(0, .inr (.inr 3)), (1, .inl q), (2, .inl w)] [.inl w, .inl (σ 3 3)] σ rfl ?_
    refine sw_icmp_ne k_X1_aimAt rfl (hσ 3 _) (by omega) 17 16 (by decide) rfl (fun c2 => ?_) (fun c2 => ?_)
    · refine sw_blk k_X1_aimAt 11 34 [(3, .inl 0), (0, .inr (.inr 3)), (1, .inl q), (2, .inl w)] [] (sw_u (sw_u (sw_u σ 3 2 q) 3 3 w) 3 4 0) rfl ?_
      refine lp_aim σ hσ hD hV hA hL q w hq hw _ (fun τ a1 a2 a3 a4 a5 => ⟨rfl, a1, a2, a3, a4, a5⟩) 31 0 _ (by omega) (fun i j a1 a2 => ?_) (sw_gs_u (sw_gs_u (sw_gs_u hσ _ _ (by omega)) _ _ (by omega)) _ _ (by decide)) rfl rfl rfl (fun c c1 c2 => by omega) (by omega)
      rw [sw_u_ne _ _ (fun y => (a2 y.1).2.2 y.2), sw_u_ne _ _ (fun y => (a2 y.1).2.1 y.2), sw_u_ne _ _ (fun y => (a2 y.1).1 y.2)]
    · refine sw_vreturn k_X1_aimAt rfl rfl ?_
      exact ⟨rfl, sw_fk_rf σ, hσ, by omega, by omega, hf⟩
theorem lp_tb (σ : sw_S) (hσ : sw_gs σ) (hD : 10 ≤ σ 1 0 ∧ σ 1 0 ≤ 400) (hV : 1 ≤ σ 1 1 ∧ σ 1 1 ≤ 20) (hA : 1 ≤ σ 1 2 ∧ σ 1 2 ≤ 5) (hL : ∀ x : Int, 0 ≤ x → x ≤ σ 1 0 → 1 ≤ σ 2 x.toNat ∧ σ 2 x.toNat ≤ σ 1 1) (q w d : Int) (hq : 0 ≤ q ∧ q ≤ σ 1 0) (hw : w = 1 ∨ w = -1) (hd : 1 ≤ d ∧ d ≤ 400) (hp : 0 ≤ q - w * d ∧ q - w * d ≤ σ 1 0) (Q : Option sw_Vl → sw_S → Prop) (hQ : ∀ (τ : sw_S) (n : Nat), sw_fk σ τ → sw_gs τ → sw_fn τ → (n : Int) ≤ 400 → sw_R (σ 2) (σ 1 0) (σ 1 1) (σ 1 2) q w n d 0 → (∀ m : Nat, m < n → ¬ sw_R (σ 2) (σ 1 0) (σ 1 1) (σ 1 2) q w m d 0) → τ 3 2 = q → τ 3 3 = w → d ≤ τ 3 4 → Q (some (.inl (n : Int))) τ) (p0 : Int) : ∀ (n : Nat) (τ : sw_S), sw_fk σ τ → sw_gs τ → τ 3 2 = q → τ 3 3 = w → (0 ≤ τ 3 4 ∧ τ 3 4 ≤ 400) → sw_fn τ → (401 - τ 3 4).toNat < n → sw_E sw_ly sw_rho M_X1_ticksBetween 51 [(3, .inl d), (0, .inr (.inr 3)), (1, .inl p0), (2, .inl q)] [] τ Q := by
  intro n
  induction n with
  | zero =>
    intro τ hk hτ t2 t3 t4 hf hn
    omega
  | succ n ih =>
    intro τ hk hτ t2 t3 t4 hf hn
    refine sw_blk k_X1_ticksBetween 3 56 [(3, .inl d), (0, .inr (.inr 3)), (1, .inl p0), (2, .inl q)] [.inl d, .inl (τ 3 4)] τ rfl ?_
    refine sw_icmp_ge k_X1_ticksBetween rfl (by omega) (by omega) 80 59 (by decide) rfl (fun c1 => ?_) (fun c1 => ?_)
    · refine sw_blk k_X1_ticksBetween 5 88 [(3, .inl d), (0, .inr (.inr 3)), (1, .inl p0), (2, .inl q)] [.inl (d * 21), .inr (.inr 4)] τ rfl ?_
      refine sw_iald k_X1_ticksBetween rfl (i := 4) (n := 8421) rfl (by decide) (by omega) (by omega) 89 rfl ?_
      refine sw_blk k_X1_ticksBetween 0 89 [(3, .inl d), (0, .inr (.inr 3)), (1, .inl p0), (2, .inl q)] [.inl (τ 4 ((d * 21).toNat))] τ rfl ?_
      refine sw_ireturn k_X1_ticksBetween rfl rfl ?_
      rcases hf with hf | ⟨f1, f2, f3, f4, f5⟩
      · omega
      have g1 : τ 1 = σ 1 := funext fun j => sw_fk_1 hk j
      have g2 : τ 2 = σ 2 := sw_fk_2 hk
      have hx := f5 d 0 (by omega) (by omega) (by omega) (by rw [g1]; omega)
      rw [Int.add_zero, g1, g2, t2, t3] at hx
      have h1 := sw_R_one (lim := σ 2) (V := σ 1 1) (A := σ 1 2) hw hV.1 hA.1 (fun x a b => (hL x a b).1) hq d.toNat 0 (by omega) (by omega) (by rw [show ((d.toNat : Nat) : Int) = d by omega]; exact hp)
      rw [show ((d.toNat : Nat) : Int) = d by omega] at h1
      rcases hx with ⟨-, hx⟩ | ⟨x1, x2, x3, x4⟩
      · exact absurd h1 (hx _)
      · have := hQ τ (τ 4 (d * 21).toNat).toNat hk hτ (Or.inr ⟨f1, f2, f3, f4, f5⟩) (by omega) x3 (fun m hm => x4 m (by omega)) t2 t3 (by omega)
        rw [show (((τ 4 (d * 21).toNat).toNat : Nat) : Int) = τ 4 (d * 21).toNat by omega] at this
        exact this
    · rcases hf with hf | ⟨f1, f2, f3, f4, f5⟩
      · omega
      have hp2 : 0 ≤ q - w * (τ 3 4 + 1) ∧ q - w * (τ 3 4 + 1) ≤ σ 1 0 := by rcases hw with rfl | rfl <;> omega
      have h1g : sw_gs (sw_u τ 3 4 (τ 3 4 + 1)) := sw_gs_u hτ _ _ (by omega)
      have g1 : (sw_u τ 3 4 (τ 3 4 + 1)) 1 = σ 1 := funext fun j => sw_fk_1 hk j
      have g2 : (sw_u τ 3 4 (τ 3 4 + 1)) 2 = σ 2 := funext fun j => hk 2 j (by decide) (fun z => absurd z (by decide))
      have hD1 : 10 ≤ (sw_u τ 3 4 (τ 3 4 + 1)) 1 0 ∧ (sw_u τ 3 4 (τ 3 4 + 1)) 1 0 ≤ 400 := by rw [g1]; exact hD
      have hV1 : 1 ≤ (sw_u τ 3 4 (τ 3 4 + 1)) 1 1 ∧ (sw_u τ 3 4 (τ 3 4 + 1)) 1 1 ≤ 20 := by rw [g1]; exact hV
      have hA1 : 1 ≤ (sw_u τ 3 4 (τ 3 4 + 1)) 1 2 ∧ (sw_u τ 3 4 (τ 3 4 + 1)) 1 2 ≤ 5 := by rw [g1]; exact hA
      have hL1 : ∀ x : Int, 0 ≤ x → x ≤ (sw_u τ 3 4 (τ 3 4 + 1)) 1 0 → 1 ≤ (sw_u τ 3 4 (τ 3 4 + 1)) 2 x.toNat ∧ (sw_u τ 3 4 (τ 3 4 + 1)) 2 x.toNat ≤ (sw_u τ 3 4 (τ 3 4 + 1)) 1 1 := by rw [g1, g2]; exact hL
      have hw1 : (sw_u τ 3 4 (τ 3 4 + 1)) 3 3 = 1 ∨ (sw_u τ 3 4 (τ 3 4 + 1)) 3 3 = -1 := by rw [show (sw_u τ 3 4 (τ 3 4 + 1)) 3 3 = w from t3]; exact hw
      have hp1 : 0 ≤ (sw_u τ 3 4 (τ 3 4 + 1)) 3 2 - (sw_u τ 3 4 (τ 3 4 + 1)) 3 3 * (τ 3 4 + 1) ∧ (sw_u τ 3 4 (τ 3 4 + 1)) 3 2 - (sw_u τ 3 4 (τ 3 4 + 1)) 3 3 * (τ 3 4 + 1) ≤ (sw_u τ 3 4 (τ 3 4 + 1)) 1 0 := by rw [g1, show (sw_u τ 3 4 (τ 3 4 + 1)) 3 3 = w from t3, show (sw_u τ 3 4 (τ 3 4 + 1)) 3 2 = q from t2]; exact hp2
      have hF1 : ∀ d' b' : Int, 0 ≤ d' → d' < τ 3 4 + 1 → 0 ≤ b' → b' ≤ (sw_u τ 3 4 (τ 3 4 + 1)) 1 1 → sw_F (sw_R ((sw_u τ 3 4 (τ 3 4 + 1)) 2) ((sw_u τ 3 4 (τ 3 4 + 1)) 1 0) ((sw_u τ 3 4 (τ 3 4 + 1)) 1 1) ((sw_u τ 3 4 (τ 3 4 + 1)) 1 2) ((sw_u τ 3 4 (τ 3 4 + 1)) 3 2) ((sw_u τ 3 4 (τ 3 4 + 1)) 3 3)) d' b' ((sw_u τ 3 4 (τ 3 4 + 1)) 4 (d' * 21 + b').toNat) := fun d' b' a1 a2 a3 a4 => f5 d' b' a1 (by omega) a3 a4
      refine sw_blk k_X1_ticksBetween 9 74 [(3, .inl d), (0, .inr (.inr 3)), (1, .inl p0), (2, .inl q)] [.inl ((τ 3 4) + 1), .inr (.inr 3)] (sw_u τ 3 4 ((τ 3 4) + 1)) rfl ?_
      refine sw_callV k_X1_ticksBetween rfl cV_X1_fillRow ml_X1_45 ⟨by decide, by decide⟩ 3 rfl rfl [.inl ((τ 3 4) + 1)] [] rfl rfl (Nat.le_of_ble_eq_true rfl) 77 rfl (sp_fillRow (sw_u τ 3 4 ((τ 3 4) + 1)) h1g hD1 hV1 hA1 hL1 hw1 (τ 3 4 + 1) (by omega) hp1 hF1) (fun r2 σ3 hq4 => ?_)
      obtain ⟨rfl, fr1, fr2, fr3⟩ := hq4
      refine sw_blk k_X1_ticksBetween 1 51 [(3, .inl d), (0, .inr (.inr 3)), (1, .inl p0), (2, .inl q)] [] σ3 rfl ?_
      have e4 : σ3 3 4 = τ 3 4 + 1 := fr1 3 4 (by decide)
      have k1 : sw_fk σ σ3 := fun i j a1 a2 => by rw [fr1 i j a1, sw_u_ne _ _ (fun y => (a2 y.1).2.2 y.2)]; exact hk i j a1 a2
      have f1 : σ3 1 = σ 1 := funext fun j => sw_fk_1 k1 j
      have f2 : σ3 2 = σ 2 := sw_fk_2 k1
      have g1 : (sw_u τ 3 4 (τ 3 4 + 1)) 1 = σ 1 := funext fun j => sw_fk_1 hk j
      have g2 : (sw_u τ 3 4 (τ 3 4 + 1)) 2 = σ 2 := funext fun j => hk 2 j (by decide) (fun z => absurd z (by decide))
      have s2 : σ3 3 2 = q := (fr1 3 2 (by decide)).trans t2
      have s3 : σ3 3 3 = w := (fr1 3 3 (by decide)).trans t3
      refine ih σ3 k1 fr2 s2 s3 (by omega) (Or.inr ⟨by rw [s2, f1]; exact hq, by rw [s3]; exact hw, by omega, by rw [s2, s3, e4, f1]; exact hp2, fun d' b' a1 a2 a3 a4 => ?_⟩) (by omega)
      have := fr3 d' b' a1 (by omega) a3 (by rw [g1]; rw [f1] at a4; exact a4)
      rw [f2, f1, s2, s3]
      rw [g2, g1] at this
      rw [show (sw_u τ 3 4 (τ 3 4 + 1)) 3 2 = q from t2, show (sw_u τ 3 4 (τ 3 4 + 1)) 3 3 = w from t3] at this
      exact this
theorem sp_ticksBetween (σ : sw_S) (hσ : sw_gs σ) (hD : 10 ≤ σ 1 0 ∧ σ 1 0 ≤ 400) (hV : 1 ≤ σ 1 1 ∧ σ 1 1 ≤ 20) (hA : 1 ≤ σ 1 2 ∧ σ 1 2 ≤ 5) (hL : ∀ x : Int, 0 ≤ x → x ≤ σ 1 0 → 1 ≤ σ 2 x.toNat ∧ σ 2 x.toNat ≤ σ 1 1) (p q : Int) (hp : 0 ≤ p ∧ p ≤ σ 1 0) (hq : 0 ≤ q ∧ q ≤ σ 1 0) (hf : sw_fn σ) : sw_Con sw_ly sw_rho M_X1_ticksBetween [.inr (.inr 3), .inl p, .inl q] σ (fun r σ' => sw_fk σ σ' ∧ sw_gs σ' ∧ sw_fn σ' ∧ ∃ (n : Nat), r = some (.inl (n : Int)) ∧ (n : Int) ≤ 400 ∧ sw_R (σ 2) (σ 1 0) (σ 1 1) (σ 1 2) q (if p < q then 1 else -1) n (sw_abs (q - p)) 0 ∧ (∀ m : Nat, m < n → ¬ sw_R (σ 2) (σ 1 0) (σ 1 1) (σ 1 2) q (if p < q then 1 else -1) m (sw_abs (q - p)) 0) ∧ (p ≠ q → σ' 3 2 = q ∧ σ' 3 3 = (if p < q then 1 else -1) ∧ sw_abs (q - p) ≤ σ' 3 4)) := by
  refine sw_con (by decide) (Nat.le_of_ble_eq_true rfl) ?_
  refine sw_blk k_X1_ticksBetween 2 2 [(0, .inr (.inr 3)), (1, .inl p), (2, .inl q)] [.inl q, .inl p] σ rfl ?_
  refine sw_icmp_eq k_X1_ticksBetween rfl (by omega) (by omega) 27 5 (by decide) rfl (fun c1 => ?_) (fun c1 => ?_)
  · refine sw_blk k_X1_ticksBetween 1 28 [(0, .inr (.inr 3)), (1, .inl p), (2, .inl q)] [.inl 0] σ rfl ?_
    refine sw_ireturn k_X1_ticksBetween rfl rfl ?_
    have epq : p = q := by omega
    subst epq
    exact ⟨sw_fk_rf σ, hσ, hf, 0, rfl, by decide, ⟨by unfold sw_abs; omega, by omega⟩, fun m hm => absurd hm (Nat.not_lt_zero m), fun z => absurd rfl z⟩
  · refine sw_blk k_X1_ticksBetween 3 10 [(0, .inr (.inr 3)), (1, .inl p), (2, .inl q)] [.inl p, .inr (.inr 1)] σ rfl ?_
    refine sw_callV k_X1_ticksBetween rfl cV_X3_has ml_X1_26 ⟨by decide, by decide⟩ 1 rfl rfl [.inl p] [] rfl rfl (Nat.le_of_ble_eq_true rfl) 13 rfl (sp_has σ p (by omega) (hσ 1 0)) (fun r3 σ4 hq5 => ?_)
    obtain ⟨rfl, ⟨p2, rfl⟩ | ⟨p2, rfl⟩⟩ := hq5
    · refine sw_blk k_X1_ticksBetween 0 13 [(0, .inr (.inr 3)), (1, .inl p), (2, .inl q)] [.inl 1] σ rfl ?_
      refine sw_if_eq k_X1_ticksBetween rfl (by decide) 27 16 (by decide) rfl (fun c => absurd c (by decide)) (fun _ => ?_)
      refine sw_blk k_X1_ticksBetween 3 21 [(0, .inr (.inr 3)), (1, .inl p), (2, .inl q)] [.inl q, .inr (.inr 1)] σ rfl ?_
      refine sw_callV k_X1_ticksBetween rfl cV_X3_has ml_X1_26 ⟨by decide, by decide⟩ 1 rfl rfl [.inl q] [] rfl rfl (Nat.le_of_ble_eq_true rfl) 24 rfl (sp_has σ q (by omega) (hσ 1 0)) (fun r7 σ8 hq9 => ?_)
      obtain ⟨rfl, ⟨p6, rfl⟩ | ⟨p6, rfl⟩⟩ := hq9
      · refine sw_blk k_X1_ticksBetween 0 24 [(0, .inr (.inr 3)), (1, .inl p), (2, .inl q)] [.inl 1] σ rfl ?_
        refine sw_if_ne k_X1_ticksBetween rfl (by decide) 29 27 (by decide) rfl (fun _ => ?_) (fun c => absurd c (by decide))
        refine sw_blk k_X1_ticksBetween 4 33 [(0, .inr (.inr 3)), (1, .inl p), (2, .inl q)] [.inl q, .inl p, .inl q, .inr (.inr 3)] σ rfl ?_
        refine sw_icmp_ge k_X1_ticksBetween rfl (by omega) (by omega) 40 36 (by decide) rfl (fun c10 => ?_) (fun c10 => ?_)
        · refine sw_blk k_X1_ticksBetween 1 41 [(0, .inr (.inr 3)), (1, .inl p), (2, .inl q)] [.inl (-1), .inl q, .inr (.inr 3)] σ rfl ?_
          refine sw_callV k_X1_ticksBetween rfl cV_X1_aimAt ml_X1_32 ⟨by decide, by decide⟩ 3 rfl rfl [.inl q, .inl (-1)] [] rfl rfl (Nat.le_of_ble_eq_true rfl) 44 rfl (sp_aimAt σ hσ hD hV hA hL q (-1) hq (by decide) hf) (fun r11 σ12 hq13 => ?_)
          obtain ⟨rfl, am1, am2, am3, am4, am5⟩ := hq13
          refine sw_blk k_X1_ticksBetween 3 47 [(0, .inr (.inr 3)), (1, .inl p), (2, .inl q)] [.inl (q - p)] σ12 rfl ?_
          refine sw_callS k_X1_ticksBetween rfl cS_J9_abs_0f7a4 ml_X1_36 ⟨by decide, by decide⟩ [.inl (q - p)] [] rfl rfl (Nat.le_of_ble_eq_true rfl) 50 rfl (sp_abs σ12 (q - p) (by omega)) (fun r14 σ15 hq16 => ?_)
          obtain ⟨rfl, rfl⟩ := hq16
          refine sw_blk k_X1_ticksBetween 1 51 [(3, .inl (sw_abs (q - p))), (0, .inr (.inr 3)), (1, .inl p), (2, .inl q)] [] σ12 rfl ?_
          have ab : sw_abs (q - p) = p - q := by unfold sw_abs; omega
          have iw : (if p < q then (1 : Int) else -1) = (-1) := if_neg (by omega)
          rw [iw]
          refine lp_tb σ hσ hD hV hA hL q (-1) (sw_abs (q - p)) hq (by decide) (by omega) (by omega) _ (fun τ n a1 a2 a3 a4 a5 a6 a7 a8 a9 => ⟨a1, a2, a3, n, rfl, a4, a5, a6, fun _ => ⟨a7, a8, a9⟩⟩) p 402 σ12 am1 am2 am3 am4 ?_ am5 ?_
          · rcases am5 with z | ⟨z1, z2, z3, z4, z5⟩
            · omega
            · rw [am3, am4, sw_fk_1 am1 0] at z4; omega
          · rcases am5 with z | ⟨z1, z2, z3, z4, z5⟩
            · omega
            · omega
        · refine sw_blk k_X1_ticksBetween 2 41 [(0, .inr (.inr 3)), (1, .inl p), (2, .inl q)] [.inl 1, .inl q, .inr (.inr 3)] σ rfl ?_
          refine sw_callV k_X1_ticksBetween rfl cV_X1_aimAt ml_X1_32 ⟨by decide, by decide⟩ 3 rfl rfl [.inl q, .inl 1] [] rfl rfl (Nat.le_of_ble_eq_true rfl) 44 rfl (sp_aimAt σ hσ hD hV hA hL q 1 hq (by decide) hf) (fun r17 σ18 hq19 => ?_)
          obtain ⟨rfl, am1, am2, am3, am4, am5⟩ := hq19
          refine sw_blk k_X1_ticksBetween 3 47 [(0, .inr (.inr 3)), (1, .inl p), (2, .inl q)] [.inl (q - p)] σ18 rfl ?_
          refine sw_callS k_X1_ticksBetween rfl cS_J9_abs_0f7a4 ml_X1_36 ⟨by decide, by decide⟩ [.inl (q - p)] [] rfl rfl (Nat.le_of_ble_eq_true rfl) 50 rfl (sp_abs σ18 (q - p) (by omega)) (fun r20 σ21 hq22 => ?_)
          obtain ⟨rfl, rfl⟩ := hq22
          refine sw_blk k_X1_ticksBetween 1 51 [(3, .inl (sw_abs (q - p))), (0, .inr (.inr 3)), (1, .inl p), (2, .inl q)] [] σ18 rfl ?_
          have ab : sw_abs (q - p) = q - p := by unfold sw_abs; omega
          have iw : (if p < q then (1 : Int) else -1) = 1 := if_pos (by omega)
          rw [iw]
          refine lp_tb σ hσ hD hV hA hL q 1 (sw_abs (q - p)) hq (by decide) (by omega) (by omega) _ (fun τ n a1 a2 a3 a4 a5 a6 a7 a8 a9 => ⟨a1, a2, a3, n, rfl, a4, a5, a6, fun _ => ⟨a7, a8, a9⟩⟩) p 402 σ18 am1 am2 am3 am4 ?_ am5 ?_
          · rcases am5 with z | ⟨z1, z2, z3, z4, z5⟩
            · omega
            · rw [am3, am4, sw_fk_1 am1 0] at z4; omega
          · rcases am5 with z | ⟨z1, z2, z3, z4, z5⟩
            · omega
            · omega
      · exact absurd (by omega) p6
    · exact absurd (by omega) p2
end
section
theorem lp_far (σ : sw_S) (hσ : sw_gs σ) (hD : 10 ≤ σ 1 0 ∧ σ 1 0 ≤ 400) (hV : 1 ≤ σ 1 1 ∧ σ 1 1 ≤ 20) (hA : 1 ≤ σ 1 2 ∧ σ 1 2 ≤ 5) (hL : ∀ x : Int, 0 ≤ x → x ≤ σ 1 0 → 1 ≤ σ 2 x.toNat ∧ σ 2 x.toNat ≤ σ 1 1) (hw : σ 3 3 = 1 ∨ σ 3 3 = -1) (d b : Int) (hd : 1 ≤ d ∧ d ≤ 400) (hb : 0 ≤ b ∧ b ≤ σ 1 1) (hF : ∀ d' b' : Int, 0 ≤ d' → d' ≤ d → 0 ≤ b' → b' ≤ σ 1 1 → sw_F (sw_R (σ 2) (σ 1 0) (σ 1 1) (σ 1 2) (σ 3 2) (σ 3 3)) d' b' (σ 4 (d' * 21 + b').toNat)) (n0 : Nat) (hR : (sw_R (σ 2) (σ 1 0) (σ 1 1) (σ 1 2) (σ 3 2) (σ 3 3)) (n0 + 1) d b) (hm : ∀ m : Nat, m < n0 + 1 → ¬ (sw_R (σ 2) (σ 1 0) (σ 1 1) (σ 1 2) (σ 3 2) (σ 3 3)) m d b) (g : Int) (hg0 : 0 ≤ g ∧ g ≤ d ∧ g ≤ σ 1 1) (hg : ∀ t, 0 ≤ t → ((sw_tk (σ 2) (σ 1 0) (σ 1 1) (σ 3 2 - σ 3 3 * d) (σ 3 3 * t) ∧ t ≤ d) ↔ t ≤ g)) (Q : Option sw_Vl → sw_S → Prop) (hQ : ∀ s : Int, sw_bs (σ 2) (σ 1 0) (σ 1 1) (σ 1 2) (σ 3 2) (σ 3 3) n0 d b s → s ≤ σ 1 1 → Q (some (.inl s)) σ) : ∀ (n : Nat) (sp : Int), 0 ≤ sp → sp ≤ min (b + σ 1 2) g → (∀ t, sp < t → t ≤ min (b + σ 1 2) g → ¬ (sw_R (σ 2) (σ 1 0) (σ 1 1) (σ 1 2) (σ 3 2) (σ 3 3)) n0 (d - t) t) → sp.toNat < n → sw_E sw_ly sw_rho M_X1_farthestOfBest 48 [(5, .inl sp), (4, .inl (max (b - σ 1 2) 1)), (3, .inl (n0 : Int)), (0, .inr (.inr 3)), (1, .inl d), (2, .inl b)] [] σ Q := by
  intro n
  induction n with
  | zero =>
    intro sp hs0 hsp hno2 hn
    omega
  | succ n ih =>
    intro sp hs0 hsp hno2 hn
    refine sw_blk k_X1_farthestOfBest 2 52 [(5, .inl sp), (4, .inl (max (b - σ 1 2) 1)), (3, .inl (n0 : Int)), (0, .inr (.inr 3)), (1, .inl d), (2, .inl b)] [.inl (max (b - σ 1 2) 1), .inl sp] σ rfl ?_
    refine sw_icmp_le k_X1_farthestOfBest rfl (by omega) (by omega) 75 55 (by decide) rfl (fun c1 => ?_) (fun c1 => ?_)
    · refine sw_blk k_X1_farthestOfBest 1 77 [(5, .inl sp), (4, .inl (max (b - σ 1 2) 1)), (3, .inl (n0 : Int)), (0, .inr (.inr 3)), (1, .inl d), (2, .inl b)] [.inl (max (b - σ 1 2) 1)] σ rfl ?_
      refine sw_ireturn k_X1_farthestOfBest rfl rfl ?_
      obtain ⟨s, s1, s2, s3, s4, s5, s6⟩ := hR
      have sg := (hg s (by omega)).mp ⟨s5, s2⟩
      have es : s = max (b - σ 1 2) 1 := by
        rcases Int.lt_or_le sp s with y | y
        · exact absurd s6 (hno2 s y (by omega))
        · omega
      subst es
      exact hQ _ ⟨s1, s2, s3, s4, s5, s6, fun t h1 h2 h3 h4 => hno2 t (by omega) (by have := (hg t (by omega)).mp ⟨h4, h2⟩; omega)⟩ (by omega)
    · refine sw_blk k_X1_farthestOfBest 3 59 [(5, .inl sp), (4, .inl (max (b - σ 1 2) 1)), (3, .inl (n0 : Int)), (0, .inr (.inr 3)), (1, .inl d), (2, .inl b)] [.inl sp, .inl d, .inr (.inr 3)] σ rfl ?_
      refine sw_callV k_X1_farthestOfBest rfl cV_X1_ticksAfter ml_X1_75 ⟨by decide, by decide⟩ 3 rfl rfl [.inl d, .inl sp] [] rfl rfl (Nat.le_of_ble_eq_true rfl) 62 rfl (sp_ticksAfter σ d sp (by omega) (by omega)) (fun r2 σ3 hq4 => ?_)
      obtain ⟨rfl, rfl⟩ := hq4
      have hx := hF (d - sp) sp (by omega) (by omega) (by omega) (by omega)
      have gx : sw_g (σ 4 ((d - sp) * 21 + sp).toNat) := hσ 4 _
      have htk := (hg sp (by omega)).mpr (by omega)
      have hn4 := sw_R_le _ _ _ hR
      refine sw_blk k_X1_farthestOfBest 1 63 [(5, .inl sp), (4, .inl (max (b - σ 1 2) 1)), (3, .inl (n0 : Int)), (0, .inr (.inr 3)), (1, .inl d), (2, .inl b)] [.inl (n0 : Int), .inl (σ 4 ((d - sp) * 21 + sp).toNat)] σ rfl ?_
      refine sw_icmp_ne k_X1_farthestOfBest rfl (hσ 4 _) (by omega) 69 66 (by decide) rfl (fun c5 => ?_) (fun c5 => ?_)
      · refine sw_blk k_X1_farthestOfBest 2 48 [(5, .inl (sp + (-1))), (4, .inl (max (b - σ 1 2) 1)), (3, .inl (n0 : Int)), (0, .inr (.inr 3)), (1, .inl d), (2, .inl b)] [] σ rfl ?_
        have hno : ¬ (sw_R (σ 2) (σ 1 0) (σ 1 1) (σ 1 2) (σ 3 2) (σ 3 3)) n0 (d - sp) sp := by
          intro z
          rcases hx with ⟨-, hx⟩ | ⟨x1, x2, x3, x4⟩
          · exact hx _ z
          · rcases Int.lt_trichotomy (σ 4 ((d - sp) * 21 + sp).toNat) n0 with y | y | y
            · exact hm ((σ 4 ((d - sp) * 21 + sp).toNat).toNat + 1) (by omega) ⟨sp, by omega, by omega, by omega, by omega, htk.1, x3⟩
            · exact c5 y
            · exact x4 n0 y z
        exact ih (sp + (-1)) (by omega) (by omega) (fun t h1 h2 => by rcases Int.lt_or_le sp t with y | y; exact hno2 t y h2; rw [show t = sp by omega]; exact hno) (by omega)
      · refine sw_blk k_X1_farthestOfBest 1 68 [(5, .inl sp), (4, .inl (max (b - σ 1 2) 1)), (3, .inl (n0 : Int)), (0, .inr (.inr 3)), (1, .inl d), (2, .inl b)] [.inl sp] σ rfl ?_
        refine sw_ireturn k_X1_farthestOfBest rfl rfl ?_
        refine hQ sp ⟨by omega, by omega, by omega, by omega, htk.1, ?_, fun t h1 h2 h3 h4 => hno2 t h1 (by have := (hg t (by omega)).mp ⟨h4, h2⟩; omega)⟩ (by omega)
        rcases hx with ⟨hx, -⟩ | ⟨x1, x2, x3, x4⟩
        · omega
        · rw [c5] at x3; exact x3
theorem sp_far (σ : sw_S) (hσ : sw_gs σ) (hD : 10 ≤ σ 1 0 ∧ σ 1 0 ≤ 400) (hV : 1 ≤ σ 1 1 ∧ σ 1 1 ≤ 20) (hA : 1 ≤ σ 1 2 ∧ σ 1 2 ≤ 5) (hL : ∀ x : Int, 0 ≤ x → x ≤ σ 1 0 → 1 ≤ σ 2 x.toNat ∧ σ 2 x.toNat ≤ σ 1 1) (hw : σ 3 3 = 1 ∨ σ 3 3 = -1) (d b : Int) (hd : 1 ≤ d ∧ d ≤ 400) (hb : 0 ≤ b ∧ b ≤ σ 1 1) (hp : 0 ≤ σ 3 2 - σ 3 3 * d ∧ σ 3 2 - σ 3 3 * d ≤ σ 1 0) (hF : ∀ d' b' : Int, 0 ≤ d' → d' ≤ d → 0 ≤ b' → b' ≤ σ 1 1 → sw_F (sw_R (σ 2) (σ 1 0) (σ 1 1) (σ 1 2) (σ 3 2) (σ 3 3)) d' b' (σ 4 (d' * 21 + b').toNat)) (n0 : Nat) (hR : (sw_R (σ 2) (σ 1 0) (σ 1 1) (σ 1 2) (σ 3 2) (σ 3 3)) (n0 + 1) d b) (hm : ∀ m : Nat, m < n0 + 1 → ¬ (sw_R (σ 2) (σ 1 0) (σ 1 1) (σ 1 2) (σ 3 2) (σ 3 3)) m d b) : sw_Con sw_ly sw_rho M_X1_farthestOfBest [.inr (.inr 3), .inl d, .inl b] σ (fun r σ' => σ = σ' ∧ ∃ s : Int, r = some (.inl s) ∧ sw_bs (σ 2) (σ 1 0) (σ 1 1) (σ 1 2) (σ 3 2) (σ 3 3) n0 d b s ∧ s ≤ σ 1 1) := by
  refine sw_con (by decide) (Nat.le_of_ble_eq_true rfl) ?_
  refine sw_blk k_X1_farthestOfBest 7 10 [(0, .inr (.inr 3)), (1, .inl d), (2, .inl b)] [.inl ((d * 21) + b), .inr (.inr 4)] σ rfl ?_
  refine sw_iald k_X1_farthestOfBest rfl (i := 4) (n := 8421) rfl (by decide) (by omega) (by omega) 11 rfl ?_
  refine sw_blk k_X1_farthestOfBest 9 24 [(3, .inl ((σ 4 (((d * 21) + b).toNat)) - 1)), (0, .inr (.inr 3)), (1, .inl d), (2, .inl b)] [.inl 1, .inl (b - (σ 1 2))] σ rfl ?_
  refine sw_callS k_X1_farthestOfBest rfl cS_J9_max_7cf53 ml_X1_72 ⟨by decide, by decide⟩ [.inl (b - (σ 1 2)), .inl 1] [] rfl rfl (Nat.le_of_ble_eq_true rfl) 27 rfl (sp_max σ (b - (σ 1 2)) 1 (by omega) (by omega)) (fun r1 σ2 hq3 => ?_)
  obtain ⟨rfl, rfl⟩ := hq3
  refine sw_blk k_X1_farthestOfBest 8 40 [(4, .inl (max (b - (σ 1 2)) 1)), (3, .inl ((σ 4 (((d * 21) + b).toNat)) - 1)), (0, .inr (.inr 3)), (1, .inl d), (2, .inl b)] [.inl d, .inr (.inr 3), .inl (b + (σ 1 2))] σ rfl ?_
  refine sw_callV k_X1_farthestOfBest rfl cV_X1_greatestFrom ml_X1_69 ⟨by decide, by decide⟩ 3 rfl rfl [.inl d] [.inl (b + (σ 1 2))] rfl rfl (Nat.le_of_ble_eq_true rfl) 43 rfl (sp_gfrom σ hσ hD hV hA hL hw d (by omega) hp) (fun r9 σ10 hq11 => ?_)
  obtain ⟨rfl, g4, rfl, a5, b6, cc7, hg8⟩ := hq11
  refine sw_blk k_X1_farthestOfBest 0 43 [(4, .inl (max (b - (σ 1 2)) 1)), (3, .inl ((σ 4 (((d * 21) + b).toNat)) - 1)), (0, .inr (.inr 3)), (1, .inl d), (2, .inl b)] [.inl g4, .inl (b + (σ 1 2))] σ rfl ?_
  refine sw_callS k_X1_farthestOfBest rfl cS_J9_min_7cf53 ml_X1_53 ⟨by decide, by decide⟩ [.inl (b + (σ 1 2)), .inl g4] [] rfl rfl (Nat.le_of_ble_eq_true rfl) 46 rfl (sp_min σ (b + (σ 1 2)) g4 (by omega) (by omega)) (fun r12 σ13 hq14 => ?_)
  obtain ⟨rfl, rfl⟩ := hq14
  refine sw_blk k_X1_farthestOfBest 1 48 [(5, .inl (min (b + (σ 1 2)) g4)), (4, .inl (max (b - (σ 1 2)) 1)), (3, .inl ((σ 4 (((d * 21) + b).toNat)) - 1)), (0, .inr (.inr 3)), (1, .inl d), (2, .inl b)] [] σ rfl ?_
  have hx := hF d b (by omega) (by omega) (by omega) (by omega)
  have hn4 := sw_R_le _ _ _ hR
  have eL : σ 4 (d * 21 + b).toNat = (n0 : Int) + 1 := by
    rcases hx with ⟨-, hx⟩ | ⟨x1, x2, x3, x4⟩
    · exact absurd hR (hx _)
    · rcases Int.lt_trichotomy (σ 4 (d * 21 + b).toNat) ((n0 : Int) + 1) with y | y | y
      · exact absurd x3 (hm _ (by omega))
      · exact y
      · exact absurd hR (x4 _ (by omega))
  rw [eL, show (n0 : Int) + 1 - 1 = (n0 : Int) by omega]
  exact lp_far σ hσ hD hV hA hL hw d b hd hb hF n0 hR hm g4 (by omega) hg8 _ (fun s z1 z2 => ⟨rfl, s, rfl, z1, z2⟩) 500 _ (by omega) (by omega) (fun t y1 y2 => by omega) (by omega)
def sw_fkc (c : Nat) (σ τ : sw_S) : Prop := ∀ i j, i ≠ 4 → i ≠ c → (i = 3 → j ≠ 2 ∧ j ≠ 3 ∧ j ≠ 4) → τ i j = σ i j
theorem lp_tracea (lim : Nat → Int) (D V A q w : Int) (hD : 10 ≤ D ∧ D ≤ 400) (hV : 1 ≤ V ∧ V ≤ 20) (hA : 1 ≤ A ∧ A ≤ 5) (hL : ∀ x : Int, 0 ≤ x → x ≤ D → 1 ≤ lim x.toNat ∧ lim x.toNat ≤ V) (hw : w = 1 ∨ w = -1) (p0 : Int) (Q : Option sw_Vl → sw_S → Prop) : ∀ (n : Nat) (r k : Nat) (d b : Int) (τ : sw_S), (0 ≤ b ∧ b ≤ V) → (0 ≤ d ∧ d ≤ 400) → (0 ≤ q - w * d ∧ q - w * d ≤ D) → k + r ≤ 400 → (sw_R lim D V A q w) r d b → (∀ m : Nat, m < r → ¬ (sw_R lim D V A q w) m d b) → sw_gs τ → τ 2 = lim → τ 1 0 = D → τ 1 1 = V → τ 1 2 = A → τ 3 2 = q → τ 3 3 = w → (∀ d' b' : Int, 0 ≤ d' → d' ≤ d → 0 ≤ b' → b' ≤ V → sw_F (sw_R lim D V A q w) d' b' (τ 4 (d' * 21 + b').toNat)) → (∀ τ' : sw_S, (∀ i j, i ≠ 25 → τ' i j = τ i j) → (∀ j, j < k → τ' 25 j = τ 25 j) → sw_gs τ' → sw_gp lim D V A q w r d b (τ' 25) k → Q (some (.inl ((k + r : Nat) : Int))) τ') → r < n → sw_E sw_ly sw_rho M_X1_trace 27 [(7, .inl (k : Int)), (6, .inl b), (5, .inl d), (4, .inl ((k + r : Nat) : Int)), (0, .inr (.inr 3)), (1, .inl p0), (2, .inl q), (3, .inr (.inr 25))] [] τ Q := by
  intro n
  induction n with
  | zero =>
    intro r k d b τ hb hd hp hk hR hm hτ h2 h10 h11 h12 t2 t3 hF hQ hn
    omega
  | succ n ih =>
    intro r k d b τ hb hd hp hk hR hm hτ h2 h10 h11 h12 t2 t3 hF hQ hn
    refine sw_blk k_X1_trace 2 31 [(7, .inl (k : Int)), (6, .inl b), (5, .inl d), (4, .inl ((k + r : Nat) : Int)), (0, .inr (.inr 3)), (1, .inl p0), (2, .inl q), (3, .inr (.inr 25))] [.inl ((k + r : Nat) : Int), .inl (k : Int)] τ rfl ?_
    refine sw_icmp_ge k_X1_trace rfl (by omega) (by omega) 68 34 (by decide) rfl (fun c1 => ?_) (fun c1 => ?_)
    · refine sw_blk k_X1_trace 1 70 [(7, .inl (k : Int)), (6, .inl b), (5, .inl d), (4, .inl ((k + r : Nat) : Int)), (0, .inr (.inr 3)), (1, .inl p0), (2, .inl q), (3, .inr (.inr 25))] [.inl ((k + r : Nat) : Int)] τ rfl ?_
      refine sw_ireturn k_X1_trace rfl rfl ?_
      have er : r = 0 := by omega
      subst er
      exact hQ τ (fun _ _ _ => rfl) (fun _ _ => rfl) hτ trivial
    · obtain ⟨r', er⟩ : ∃ r', r = r' + 1 := ⟨r - 1, by omega⟩
      have hdr := sw_R_le _ _ _ hR
      have hR2 := hR
      rw [er] at hR2
      have hm2 := hm
      rw [er] at hm2
      refine sw_blk k_X1_trace 3 39 [(7, .inl (k : Int)), (6, .inl b), (5, .inl d), (4, .inl ((k + r : Nat) : Int)), (0, .inr (.inr 3)), (1, .inl p0), (2, .inl q), (3, .inr (.inr 25))] [.inl b, .inl d, .inr (.inr 3)] τ rfl ?_
      refine sw_callV k_X1_trace rfl cV_X1_farthestOfBest ml_X1_56 ⟨by decide, by decide⟩ 3 rfl rfl [.inl d, .inl b] [] rfl rfl (Nat.le_of_ble_eq_true rfl) 42 rfl (sp_far τ hτ (by rw [h10]; exact hD) (by rw [h11]; exact hV) (by rw [h12]; exact hA) (by rw [h2, h10, h11]; exact hL) (by rw [t3]; exact hw) d b (by omega) (by rw [h11]; exact hb) (by rw [t2, t3, h10]; exact hp) (by rw [h2, h10, h11, h12, t2, t3]; exact hF) r' (by rw [h2, h10, h11, h12, t2, t3]; exact hR2) (by rw [h2, h10, h11, h12, t2, t3]; exact hm2)) (fun r2 σ3 hq4 => ?_)
      obtain ⟨rfl, s, rfl, hbs, hsv⟩ := hq4
      rw [h2, h10, h11, h12, t2, t3] at hbs
      rw [h11] at hsv
      have bs := hbs
      refine sw_blk k_X1_trace 7 54 [(6, .inl s), (7, .inl (k : Int)), (5, .inl d), (4, .inl ((k + r : Nat) : Int)), (0, .inr (.inr 3)), (1, .inl p0), (2, .inl q), (3, .inr (.inr 25))] [.inl ((τ 3 3) * s), .inl (k : Int), .inr (.inr 25)] τ rfl ?_
      refine sw_iast k_X1_trace rfl (i := 25) (n := 400) rfl (by decide) (by omega) (by omega) 55 rfl ?_
      refine sw_blk k_X1_trace 6 27 [(7, .inl ((k : Int) + 1)), (5, .inl (d - s)), (6, .inl s), (4, .inl ((k + r : Nat) : Int)), (0, .inr (.inr 3)), (1, .inl p0), (2, .inl q), (3, .inr (.inr 25))] [] (sw_u τ 25 ((k : Int).toNat) ((τ 3 3) * s)) rfl ?_
      refine sw_Lsub [(7, .inl ((k : Int) + 1)), (6, .inl s), (5, .inl (d - s)), (4, .inl ((k + r : Nat) : Int)), (0, .inr (.inr 3)), (1, .inl p0), (2, .inl q), (3, .inr (.inr 25))] [0, 2, 1, 3, 4, 5, 6, 7] rfl ?_
      obtain ⟨z1, z2, z3, z4, z5, z6, z7⟩ := hbs
      rw [show k + r = k + 1 + r' by omega]
      refine ih r' (k + 1) (d - s) s _ (by omega) (by omega) (by have a1 := z5.2.1; have a2 := z5.2.2.1; rcases hw with rfl | rfl <;> omega) (by omega) z6 (fun m hm3 hr2 => hm (m + 1) (by omega) ⟨s, z1, z2, z3, z4, z5, hr2⟩) (sw_gs_u hτ _ _ (by rw [t3]; rcases hw with rfl | rfl <;> omega)) h2 h10 h11 h12 t2 t3 (fun d' b' y1 y2 y3 y4 => hF d' b' y1 (by omega) y3 y4) (fun τ' y1 y2 y3 y4 => ?_) (by omega)
      have hk2 : τ' 25 k = w * s := by rw [y2 k (by omega), show ((k : Int).toNat) = k from rfl, sw_u_same, t3]
      have := hQ τ' (fun i j hi => by rw [y1 i j hi, sw_u_row _ _ hi]) (fun j hj => by rw [y2 j (by omega), sw_u_ne _ _ (fun y => by have := y.2; omega)]) y3 (by rw [er]; exact ⟨s, hk2, bs, y4⟩)
      rw [show k + r = k + 1 + r' by omega] at this
      exact this
theorem sp_tracea (σ : sw_S) (hσ : sw_gs σ) (hD : 10 ≤ σ 1 0 ∧ σ 1 0 ≤ 400) (hV : 1 ≤ σ 1 1 ∧ σ 1 1 ≤ 20) (hA : 1 ≤ σ 1 2 ∧ σ 1 2 ≤ 5) (hL : ∀ x : Int, 0 ≤ x → x ≤ σ 1 0 → 1 ≤ σ 2 x.toNat ∧ σ 2 x.toNat ≤ σ 1 1) (p q : Int) (hp : 0 ≤ p ∧ p ≤ σ 1 0) (hq : 0 ≤ q ∧ q ≤ σ 1 0) (hf : sw_fn σ) : sw_Con sw_ly sw_rho M_X1_trace [.inr (.inr 3), .inl p, .inl q, .inr (.inr 25)] σ (fun r σ' => sw_fkc 25 σ σ' ∧ sw_gs σ' ∧ sw_fn σ' ∧ ∃ n : Nat, r = some (.inl (n : Int)) ∧ (n : Int) ≤ 400 ∧ sw_R (σ 2) (σ 1 0) (σ 1 1) (σ 1 2) q (if p < q then 1 else -1) n (sw_abs (q - p)) 0 ∧ (∀ m : Nat, m < n → ¬ sw_R (σ 2) (σ 1 0) (σ 1 1) (σ 1 2) q (if p < q then 1 else -1) m (sw_abs (q - p)) 0) ∧ sw_gp (σ 2) (σ 1 0) (σ 1 1) (σ 1 2) q (if p < q then 1 else -1) n (sw_abs (q - p)) 0 (σ' 25) 0) := by
  refine sw_con (by decide) (Nat.le_of_ble_eq_true rfl) ?_
  refine sw_blk k_X1_trace 3 3 [(0, .inr (.inr 3)), (1, .inl p), (2, .inl q), (3, .inr (.inr 25))] [.inl q, .inl p, .inr (.inr 3)] σ rfl ?_
  refine sw_callV k_X1_trace rfl cV_X1_ticksBetween ml_X1_49 ⟨by decide, by decide⟩ 3 rfl rfl [.inl p, .inl q] [] rfl rfl (Nat.le_of_ble_eq_true rfl) 6 rfl (sp_ticksBetween σ hσ hD hV hA hL p q hp hq hf) (fun r1 τ hq1 => ?_)
  obtain ⟨hk, hτ, hfn, n, rfl, hn, hR, hm, hpq⟩ := hq1
  refine sw_blk k_X1_trace 2 8 [(0, .inr (.inr 3)), (1, .inl p), (2, .inl q), (3, .inr (.inr 25))] [.inl 400, .inl (n : Int)] τ rfl ?_
  refine sw_callS k_X1_trace rfl cS_J9_min_7cf53 ml_X1_53 ⟨by decide, by decide⟩ [.inl (n : Int), .inl 400] [] rfl rfl (Nat.le_of_ble_eq_true rfl) 11 rfl (sp_min τ (n : Int) 400 (by omega) (by decide)) (fun r2 τ2 hq2 => ?_)
  obtain ⟨rfl, rfl⟩ := hq2
  rw [show min (n : Int) 400 = (n : Int) by omega]
  refine sw_blk k_X1_trace 4 16 [(4, .inl (n : Int)), (0, .inr (.inr 3)), (1, .inl p), (2, .inl q), (3, .inr (.inr 25))] [.inl (q - p)] τ rfl ?_
  refine sw_callS k_X1_trace rfl cS_J9_abs_0f7a4 ml_X1_36 ⟨by decide, by decide⟩ [.inl (q - p)] [] rfl rfl (Nat.le_of_ble_eq_true rfl) 19 rfl (sp_abs τ (q - p) (by omega)) (fun r3 τ3 hq3 => ?_)
  obtain ⟨rfl, rfl⟩ := hq3
  refine sw_blk k_X1_trace 5 27 [(7, .inl 0), (6, .inl 0), (5, .inl (sw_abs (q - p))), (4, .inl (n : Int)), (0, .inr (.inr 3)), (1, .inl p), (2, .inl q), (3, .inr (.inr 25))] [] τ rfl ?_
  have e1 : τ 1 = σ 1 := funext fun j => sw_fk_1 hk j
  have e2 : τ 2 = σ 2 := sw_fk_2 hk
  by_cases epq : p = q
  · have en : n = 0 := by
      rcases Nat.eq_zero_or_pos n with z | z
      · exact z
      · exact absurd ⟨by subst epq; unfold sw_abs; omega, by omega⟩ (hm 0 z)
    subst en
    refine sw_blk k_X1_trace 2 31 [(7, .inl 0), (6, .inl 0), (5, .inl (sw_abs (q - p))), (4, .inl 0), (0, .inr (.inr 3)), (1, .inl p), (2, .inl q), (3, .inr (.inr 25))] [.inl 0, .inl 0] τ rfl ?_
    refine sw_icmp_ge k_X1_trace rfl (by decide) (by decide) 68 34 (by decide) rfl (fun _ => ?_) (fun z => absurd (by decide) z)
    refine sw_blk k_X1_trace 1 70 [(7, .inl 0), (6, .inl 0), (5, .inl (sw_abs (q - p))), (4, .inl 0), (0, .inr (.inr 3)), (1, .inl p), (2, .inl q), (3, .inr (.inr 25))] [.inl 0] τ rfl ?_
    exact sw_ireturn k_X1_trace rfl rfl ⟨fun i j a1 a2 a3 => hk i j a1 a3, hτ, hfn, 0, rfl, hn, hR, hm, trivial⟩
  · obtain ⟨t2, t3, t4⟩ := hpq epq
    have hab : sw_abs (q - p) ≤ 400 ∧ 0 ≤ sw_abs (q - p) := by unfold sw_abs; omega
    have hpl : q - (if p < q then 1 else -1) * sw_abs (q - p) = p := by unfold sw_abs; split <;> split <;> omega
    rcases hfn with z | ⟨f1, f2, f3, f4, f5⟩
    · omega
    have hfn : sw_fn τ := Or.inr ⟨f1, f2, f3, f4, f5⟩
    have h := lp_tracea (σ 2) (σ 1 0) (σ 1 1) (σ 1 2) q (if p < q then 1 else -1) hD hV hA hL (by split <;> decide) p (fun r σ' => sw_fkc 25 σ σ' ∧ sw_gs σ' ∧ sw_fn σ' ∧ ∃ n : Nat, r = some (.inl (n : Int)) ∧ (n : Int) ≤ 400 ∧ sw_R (σ 2) (σ 1 0) (σ 1 1) (σ 1 2) q (if p < q then 1 else -1) n (sw_abs (q - p)) 0 ∧ (∀ m : Nat, m < n → ¬ sw_R (σ 2) (σ 1 0) (σ 1 1) (σ 1 2) q (if p < q then 1 else -1) m (sw_abs (q - p)) 0) ∧ sw_gp (σ 2) (σ 1 0) (σ 1 1) (σ 1 2) q (if p < q then 1 else -1) n (sw_abs (q - p)) 0 (σ' 25) 0) (n + 1) n 0 (sw_abs (q - p)) 0 τ (by omega) (by omega) (by rw [hpl]; exact hp) (by omega) hR hm hτ e2 (by rw [e1]) (by rw [e1]) (by rw [e1]) t2 t3 (fun d' b' y1 y2 y3 y4 => by have := f5 d' b' y1 (by omega) y3 (by rw [e1]; exact y4); rw [e1, e2, t2, t3] at this; exact this) (fun τ' y1 y2 y3 y4 => by
      rw [Nat.zero_add]
      refine ⟨fun i j a1 a2 a3 => by rw [y1 i j a2]; exact hk i j a1 a3, y3, ?_, n, rfl, hn, hR, hm, y4⟩
      have z1 : τ' 1 = τ 1 := funext fun j => y1 1 j (by decide)
      have z2 : τ' 2 = τ 2 := funext fun j => y1 2 j (by decide)
      have z3 : τ' 3 = τ 3 := funext fun j => y1 3 j (by decide)
      have z4 : τ' 4 = τ 4 := funext fun j => y1 4 j (by decide)
      unfold sw_fn sw_rw
      rw [z1, z2, z3, z4]
      exact Or.inr ⟨f1, f2, f3, f4, f5⟩) (by omega)
    rw [Nat.zero_add] at h
    exact h
theorem lp_tracer (lim : Nat → Int) (D V A q w : Int) (hD : 10 ≤ D ∧ D ≤ 400) (hV : 1 ≤ V ∧ V ≤ 20) (hA : 1 ≤ A ∧ A ≤ 5) (hL : ∀ x : Int, 0 ≤ x → x ≤ D → 1 ≤ lim x.toNat ∧ lim x.toNat ≤ V) (hw : w = 1 ∨ w = -1) (p0 : Int) (Q : Option sw_Vl → sw_S → Prop) : ∀ (n : Nat) (r k : Nat) (d b : Int) (τ : sw_S), (0 ≤ b ∧ b ≤ V) → (0 ≤ d ∧ d ≤ 400) → (0 ≤ q - w * d ∧ q - w * d ≤ D) → k + r ≤ 400 → (sw_R lim D V A q w) r d b → (∀ m : Nat, m < r → ¬ (sw_R lim D V A q w) m d b) → sw_gs τ → τ 2 = lim → τ 1 0 = D → τ 1 1 = V → τ 1 2 = A → τ 3 2 = q → τ 3 3 = w → (∀ d' b' : Int, 0 ≤ d' → d' ≤ d → 0 ≤ b' → b' ≤ V → sw_F (sw_R lim D V A q w) d' b' (τ 4 (d' * 21 + b').toNat)) → (∀ τ' : sw_S, (∀ i j, i ≠ 10 → τ' i j = τ i j) → (∀ j, j < k → τ' 10 j = τ 10 j) → sw_gs τ' → sw_gp lim D V A q w r d b (τ' 10) k → Q (some (.inl ((k + r : Nat) : Int))) τ') → r < n → sw_E sw_ly sw_rho M_X1_trace 27 [(7, .inl (k : Int)), (6, .inl b), (5, .inl d), (4, .inl ((k + r : Nat) : Int)), (0, .inr (.inr 3)), (1, .inl p0), (2, .inl q), (3, .inr (.inr 10))] [] τ Q := by
  intro n
  induction n with
  | zero =>
    intro r k d b τ hb hd hp hk hR hm hτ h2 h10 h11 h12 t2 t3 hF hQ hn
    omega
  | succ n ih =>
    intro r k d b τ hb hd hp hk hR hm hτ h2 h10 h11 h12 t2 t3 hF hQ hn
    refine sw_blk k_X1_trace 2 31 [(7, .inl (k : Int)), (6, .inl b), (5, .inl d), (4, .inl ((k + r : Nat) : Int)), (0, .inr (.inr 3)), (1, .inl p0), (2, .inl q), (3, .inr (.inr 10))] [.inl ((k + r : Nat) : Int), .inl (k : Int)] τ rfl ?_
    refine sw_icmp_ge k_X1_trace rfl (by omega) (by omega) 68 34 (by decide) rfl (fun c1 => ?_) (fun c1 => ?_)
    · refine sw_blk k_X1_trace 1 70 [(7, .inl (k : Int)), (6, .inl b), (5, .inl d), (4, .inl ((k + r : Nat) : Int)), (0, .inr (.inr 3)), (1, .inl p0), (2, .inl q), (3, .inr (.inr 10))] [.inl ((k + r : Nat) : Int)] τ rfl ?_
      refine sw_ireturn k_X1_trace rfl rfl ?_
      have er : r = 0 := by omega
      subst er
      exact hQ τ (fun _ _ _ => rfl) (fun _ _ => rfl) hτ trivial
    · obtain ⟨r', er⟩ : ∃ r', r = r' + 1 := ⟨r - 1, by omega⟩
      have hdr := sw_R_le _ _ _ hR
      have hR2 := hR
      rw [er] at hR2
      have hm2 := hm
      rw [er] at hm2
      refine sw_blk k_X1_trace 3 39 [(7, .inl (k : Int)), (6, .inl b), (5, .inl d), (4, .inl ((k + r : Nat) : Int)), (0, .inr (.inr 3)), (1, .inl p0), (2, .inl q), (3, .inr (.inr 10))] [.inl b, .inl d, .inr (.inr 3)] τ rfl ?_
      refine sw_callV k_X1_trace rfl cV_X1_farthestOfBest ml_X1_56 ⟨by decide, by decide⟩ 3 rfl rfl [.inl d, .inl b] [] rfl rfl (Nat.le_of_ble_eq_true rfl) 42 rfl (sp_far τ hτ (by rw [h10]; exact hD) (by rw [h11]; exact hV) (by rw [h12]; exact hA) (by rw [h2, h10, h11]; exact hL) (by rw [t3]; exact hw) d b (by omega) (by rw [h11]; exact hb) (by rw [t2, t3, h10]; exact hp) (by rw [h2, h10, h11, h12, t2, t3]; exact hF) r' (by rw [h2, h10, h11, h12, t2, t3]; exact hR2) (by rw [h2, h10, h11, h12, t2, t3]; exact hm2)) (fun r2 σ3 hq4 => ?_)
      obtain ⟨rfl, s, rfl, hbs, hsv⟩ := hq4
      rw [h2, h10, h11, h12, t2, t3] at hbs
      rw [h11] at hsv
      have bs := hbs
      refine sw_blk k_X1_trace 7 54 [(6, .inl s), (7, .inl (k : Int)), (5, .inl d), (4, .inl ((k + r : Nat) : Int)), (0, .inr (.inr 3)), (1, .inl p0), (2, .inl q), (3, .inr (.inr 10))] [.inl ((τ 3 3) * s), .inl (k : Int), .inr (.inr 10)] τ rfl ?_
      refine sw_iast k_X1_trace rfl (i := 10) (n := 400) rfl (by decide) (by omega) (by omega) 55 rfl ?_
      refine sw_blk k_X1_trace 6 27 [(7, .inl ((k : Int) + 1)), (5, .inl (d - s)), (6, .inl s), (4, .inl ((k + r : Nat) : Int)), (0, .inr (.inr 3)), (1, .inl p0), (2, .inl q), (3, .inr (.inr 10))] [] (sw_u τ 10 ((k : Int).toNat) ((τ 3 3) * s)) rfl ?_
      refine sw_Lsub [(7, .inl ((k : Int) + 1)), (6, .inl s), (5, .inl (d - s)), (4, .inl ((k + r : Nat) : Int)), (0, .inr (.inr 3)), (1, .inl p0), (2, .inl q), (3, .inr (.inr 10))] [0, 2, 1, 3, 4, 5, 6, 7] rfl ?_
      obtain ⟨z1, z2, z3, z4, z5, z6, z7⟩ := hbs
      rw [show k + r = k + 1 + r' by omega]
      refine ih r' (k + 1) (d - s) s _ (by omega) (by omega) (by have a1 := z5.2.1; have a2 := z5.2.2.1; rcases hw with rfl | rfl <;> omega) (by omega) z6 (fun m hm3 hr2 => hm (m + 1) (by omega) ⟨s, z1, z2, z3, z4, z5, hr2⟩) (sw_gs_u hτ _ _ (by rw [t3]; rcases hw with rfl | rfl <;> omega)) h2 h10 h11 h12 t2 t3 (fun d' b' y1 y2 y3 y4 => hF d' b' y1 (by omega) y3 y4) (fun τ' y1 y2 y3 y4 => ?_) (by omega)
      have hk2 : τ' 10 k = w * s := by rw [y2 k (by omega), show ((k : Int).toNat) = k from rfl, sw_u_same, t3]
      have := hQ τ' (fun i j hi => by rw [y1 i j hi, sw_u_row _ _ hi]) (fun j hj => by rw [y2 j (by omega), sw_u_ne _ _ (fun y => by have := y.2; omega)]) y3 (by rw [er]; exact ⟨s, hk2, bs, y4⟩)
      rw [show k + r = k + 1 + r' by omega] at this
      exact this
theorem sp_tracer (σ : sw_S) (hσ : sw_gs σ) (hD : 10 ≤ σ 1 0 ∧ σ 1 0 ≤ 400) (hV : 1 ≤ σ 1 1 ∧ σ 1 1 ≤ 20) (hA : 1 ≤ σ 1 2 ∧ σ 1 2 ≤ 5) (hL : ∀ x : Int, 0 ≤ x → x ≤ σ 1 0 → 1 ≤ σ 2 x.toNat ∧ σ 2 x.toNat ≤ σ 1 1) (p q : Int) (hp : 0 ≤ p ∧ p ≤ σ 1 0) (hq : 0 ≤ q ∧ q ≤ σ 1 0) (hf : sw_fn σ) : sw_Con sw_ly sw_rho M_X1_trace [.inr (.inr 3), .inl p, .inl q, .inr (.inr 10)] σ (fun r σ' => sw_fkc 10 σ σ' ∧ sw_gs σ' ∧ sw_fn σ' ∧ ∃ n : Nat, r = some (.inl (n : Int)) ∧ (n : Int) ≤ 400 ∧ sw_R (σ 2) (σ 1 0) (σ 1 1) (σ 1 2) q (if p < q then 1 else -1) n (sw_abs (q - p)) 0 ∧ (∀ m : Nat, m < n → ¬ sw_R (σ 2) (σ 1 0) (σ 1 1) (σ 1 2) q (if p < q then 1 else -1) m (sw_abs (q - p)) 0) ∧ sw_gp (σ 2) (σ 1 0) (σ 1 1) (σ 1 2) q (if p < q then 1 else -1) n (sw_abs (q - p)) 0 (σ' 10) 0) := by
  refine sw_con (by decide) (Nat.le_of_ble_eq_true rfl) ?_
  refine sw_blk k_X1_trace 3 3 [(0, .inr (.inr 3)), (1, .inl p), (2, .inl q), (3, .inr (.inr 10))] [.inl q, .inl p, .inr (.inr 3)] σ rfl ?_
  refine sw_callV k_X1_trace rfl cV_X1_ticksBetween ml_X1_49 ⟨by decide, by decide⟩ 3 rfl rfl [.inl p, .inl q] [] rfl rfl (Nat.le_of_ble_eq_true rfl) 6 rfl (sp_ticksBetween σ hσ hD hV hA hL p q hp hq hf) (fun r1 τ hq1 => ?_)
  obtain ⟨hk, hτ, hfn, n, rfl, hn, hR, hm, hpq⟩ := hq1
  refine sw_blk k_X1_trace 2 8 [(0, .inr (.inr 3)), (1, .inl p), (2, .inl q), (3, .inr (.inr 10))] [.inl 400, .inl (n : Int)] τ rfl ?_
  refine sw_callS k_X1_trace rfl cS_J9_min_7cf53 ml_X1_53 ⟨by decide, by decide⟩ [.inl (n : Int), .inl 400] [] rfl rfl (Nat.le_of_ble_eq_true rfl) 11 rfl (sp_min τ (n : Int) 400 (by omega) (by decide)) (fun r2 τ2 hq2 => ?_)
  obtain ⟨rfl, rfl⟩ := hq2
  rw [show min (n : Int) 400 = (n : Int) by omega]
  refine sw_blk k_X1_trace 4 16 [(4, .inl (n : Int)), (0, .inr (.inr 3)), (1, .inl p), (2, .inl q), (3, .inr (.inr 10))] [.inl (q - p)] τ rfl ?_
  refine sw_callS k_X1_trace rfl cS_J9_abs_0f7a4 ml_X1_36 ⟨by decide, by decide⟩ [.inl (q - p)] [] rfl rfl (Nat.le_of_ble_eq_true rfl) 19 rfl (sp_abs τ (q - p) (by omega)) (fun r3 τ3 hq3 => ?_)
  obtain ⟨rfl, rfl⟩ := hq3
  refine sw_blk k_X1_trace 5 27 [(7, .inl 0), (6, .inl 0), (5, .inl (sw_abs (q - p))), (4, .inl (n : Int)), (0, .inr (.inr 3)), (1, .inl p), (2, .inl q), (3, .inr (.inr 10))] [] τ rfl ?_
  have e1 : τ 1 = σ 1 := funext fun j => sw_fk_1 hk j
  have e2 : τ 2 = σ 2 := sw_fk_2 hk
  by_cases epq : p = q
  · have en : n = 0 := by
      rcases Nat.eq_zero_or_pos n with z | z
      · exact z
      · exact absurd ⟨by subst epq; unfold sw_abs; omega, by omega⟩ (hm 0 z)
    subst en
    refine sw_blk k_X1_trace 2 31 [(7, .inl 0), (6, .inl 0), (5, .inl (sw_abs (q - p))), (4, .inl 0), (0, .inr (.inr 3)), (1, .inl p), (2, .inl q), (3, .inr (.inr 10))] [.inl 0, .inl 0] τ rfl ?_
    refine sw_icmp_ge k_X1_trace rfl (by decide) (by decide) 68 34 (by decide) rfl (fun _ => ?_) (fun z => absurd (by decide) z)
    refine sw_blk k_X1_trace 1 70 [(7, .inl 0), (6, .inl 0), (5, .inl (sw_abs (q - p))), (4, .inl 0), (0, .inr (.inr 3)), (1, .inl p), (2, .inl q), (3, .inr (.inr 10))] [.inl 0] τ rfl ?_
    exact sw_ireturn k_X1_trace rfl rfl ⟨fun i j a1 a2 a3 => hk i j a1 a3, hτ, hfn, 0, rfl, hn, hR, hm, trivial⟩
  · obtain ⟨t2, t3, t4⟩ := hpq epq
    have hab : sw_abs (q - p) ≤ 400 ∧ 0 ≤ sw_abs (q - p) := by unfold sw_abs; omega
    have hpl : q - (if p < q then 1 else -1) * sw_abs (q - p) = p := by unfold sw_abs; split <;> split <;> omega
    rcases hfn with z | ⟨f1, f2, f3, f4, f5⟩
    · omega
    have hfn : sw_fn τ := Or.inr ⟨f1, f2, f3, f4, f5⟩
    have h := lp_tracer (σ 2) (σ 1 0) (σ 1 1) (σ 1 2) q (if p < q then 1 else -1) hD hV hA hL (by split <;> decide) p (fun r σ' => sw_fkc 10 σ σ' ∧ sw_gs σ' ∧ sw_fn σ' ∧ ∃ n : Nat, r = some (.inl (n : Int)) ∧ (n : Int) ≤ 400 ∧ sw_R (σ 2) (σ 1 0) (σ 1 1) (σ 1 2) q (if p < q then 1 else -1) n (sw_abs (q - p)) 0 ∧ (∀ m : Nat, m < n → ¬ sw_R (σ 2) (σ 1 0) (σ 1 1) (σ 1 2) q (if p < q then 1 else -1) m (sw_abs (q - p)) 0) ∧ sw_gp (σ 2) (σ 1 0) (σ 1 1) (σ 1 2) q (if p < q then 1 else -1) n (sw_abs (q - p)) 0 (σ' 10) 0) (n + 1) n 0 (sw_abs (q - p)) 0 τ (by omega) (by omega) (by rw [hpl]; exact hp) (by omega) hR hm hτ e2 (by rw [e1]) (by rw [e1]) (by rw [e1]) t2 t3 (fun d' b' y1 y2 y3 y4 => by have := f5 d' b' y1 (by omega) y3 (by rw [e1]; exact y4); rw [e1, e2, t2, t3] at this; exact this) (fun τ' y1 y2 y3 y4 => by
      rw [Nat.zero_add]
      refine ⟨fun i j a1 a2 a3 => by rw [y1 i j a2]; exact hk i j a1 a3, y3, ?_, n, rfl, hn, hR, hm, y4⟩
      have z1 : τ' 1 = τ 1 := funext fun j => y1 1 j (by decide)
      have z2 : τ' 2 = τ 2 := funext fun j => y1 2 j (by decide)
      have z3 : τ' 3 = τ 3 := funext fun j => y1 3 j (by decide)
      have z4 : τ' 4 = τ 4 := funext fun j => y1 4 j (by decide)
      unfold sw_fn sw_rw
      rw [z1, z2, z3, z4]
      exact Or.inr ⟨f1, f2, f3, f4, f5⟩) (by omega)
    rw [Nat.zero_add] at h
    exact h
end
section
def sw_told (p a b c : Int) : Int := p + a + b + c - min a (min b c) - max a (max b c)
def sw_la (lim : Nat → Int) (D V x : Int) : Int := if 0 ≤ x ∧ x ≤ D then lim x.toNat else V
def sw_s1 (br v : Int) : Int := if 0 < v then max (v - br) 0 else min (v + br) 0
def sw_sv (D br p v : Int) : Int := if 0 ≤ p + sw_s1 br v ∧ p + sw_s1 br v ≤ D then sw_s1 br v else 0
def sw_sp (D br p v : Int) : Int := if 0 ≤ p + sw_s1 br v ∧ p + sw_s1 br v ≤ D then p + sw_s1 br v else if p + sw_s1 br v < 0 then 0 else D
theorem sp_slow (σ : sw_S) (hσ : sw_gs σ) (hD : 10 ≤ σ 1 0 ∧ σ 1 0 ≤ 400) (hpl : 0 ≤ σ 5 7 ∧ σ 5 7 ≤ σ 1 0) (hspd : -20 ≤ σ 5 8 ∧ σ 5 8 ≤ 20) (hbr : 1 ≤ σ 5 12 ∧ σ 5 12 ≤ 10) : sw_Con sw_ly sw_rho M_X6_slowDown [.inr (.inr 5)] σ (fun r σ' => r = none ∧ (∀ i j, ¬ (i = 5 ∧ (j = 7 ∨ j = 8 ∨ j = 9)) → σ' i j = σ i j) ∧ σ' 5 7 = sw_sp (σ 1 0) (σ 5 12) (σ 5 7) (σ 5 8) ∧ σ' 5 8 = sw_sv (σ 1 0) (σ 5 12) (σ 5 7) (σ 5 8) ∧ σ' 5 9 = (if sw_sv (σ 1 0) (σ 5 12) (σ 5 7) (σ 5 8) = 0 then 0 else σ 5 9)) := by
  refine sw_con (by decide) (Nat.le_of_ble_eq_true rfl) ?_
  refine sw_blk k_X6_slowDown 3 5 [(0, .inr (.inr 5))] [.inl (σ 5 8), .inr (.inr 5)] σ rfl ?_
  refine sw_if_le k_X6_slowDown rfl (hσ 5 _) 24 8 (by decide) rfl (fun c1 => ?_) (fun c1 => ?_)
  · refine sw_blk k_X6_slowDown 6 34 [(0, .inr (.inr 5))] [.inl 0, .inl ((σ 5 8) + (σ 5 12)), .inr (.inr 5)] σ rfl ?_
    refine sw_callS k_X6_slowDown rfl cS_J9_min_7cf53 ml_X6_43 ⟨by decide, by decide⟩ [.inl ((σ 5 8) + (σ 5 12)), .inl 0] [.inr (.inr 5)] rfl rfl (Nat.le_of_ble_eq_true rfl) 37 rfl (sp_min σ ((σ 5 8) + (σ 5 12)) 0 (by omega) (by decide)) (fun r2 σ3 hq4 => ?_)
    obtain ⟨rfl, rfl⟩ := hq4
    refine sw_blk k_X6_slowDown 12 61 [(0, .inr (.inr 5))] [.inl ((σ 5 7) + (min ((σ 5 8) + (σ 5 12)) 0)), .inr (.inr 1)] (sw_u (sw_u σ 5 8 (min ((σ 5 8) + (σ 5 12)) 0)) 5 7 ((σ 5 7) + (min ((σ 5 8) + (σ 5 12)) 0))) rfl ?_
    refine sw_callV k_X6_slowDown rfl cV_X3_has ml_X6_106 ⟨by decide, by decide⟩ 1 rfl rfl [.inl ((σ 5 7) + (min ((σ 5 8) + (σ 5 12)) 0))] [] rfl rfl (Nat.le_of_ble_eq_true rfl) 64 rfl (sp_has (sw_u (sw_u σ 5 8 (min ((σ 5 8) + (σ 5 12)) 0)) 5 7 ((σ 5 7) + (min ((σ 5 8) + (σ 5 12)) 0))) ((σ 5 7) + (min ((σ 5 8) + (σ 5 12)) 0)) (by omega) (hσ 1 0)) (fun r6 σ7 hq8 => ?_)
    obtain ⟨rfl, ⟨p5, rfl⟩ | ⟨p5, rfl⟩⟩ := hq8
    · have p5 : 0 ≤ ((σ 5 7) + (min ((σ 5 8) + (σ 5 12)) 0)) ∧ ((σ 5 7) + (min ((σ 5 8) + (σ 5 12)) 0)) ≤ (σ 1 0) := p5
      refine sw_blk k_X6_slowDown 0 64 [(0, .inr (.inr 5))] [.inl 1] (sw_u (sw_u σ 5 8 (min ((σ 5 8) + (σ 5 12)) 0)) 5 7 ((σ 5 7) + (min ((σ 5 8) + (σ 5 12)) 0))) rfl ?_
      refine sw_if_ne k_X6_slowDown rfl (by decide) 94 67 (by decide) rfl (fun _ => ?_) (fun c => absurd c (by decide))
      refine sw_blk k_X6_slowDown 2 98 [(0, .inr (.inr 5))] [.inl (min ((σ 5 8) + (σ 5 12)) 0)] (sw_u (sw_u σ 5 8 (min ((σ 5 8) + (σ 5 12)) 0)) 5 7 ((σ 5 7) + (min ((σ 5 8) + (σ 5 12)) 0))) rfl ?_
      refine sw_if_ne k_X6_slowDown rfl (by omega) 106 101 (by decide) rfl (fun c9 => ?_) (fun c9 => ?_)
      · refine sw_vreturn k_X6_slowDown rfl rfl ?_
        exact ⟨rfl, (fun i j h => by unfold sw_u; (repeat rw [if_neg (by omega)])), (show (((σ 5 7) + (min ((σ 5 8) + (σ 5 12)) 0)) : Int) = sw_sp (σ 1 0) (σ 5 12) (σ 5 7) (σ 5 8) from by unfold sw_sp sw_s1; omega), (show ((min ((σ 5 8) + (σ 5 12)) 0) : Int) = sw_sv (σ 1 0) (σ 5 12) (σ 5 7) (σ 5 8) from by unfold sw_sv sw_s1; omega), (show ((σ 5 9) : Int) = (if sw_sv (σ 1 0) (σ 5 12) (σ 5 7) (σ 5 8) = 0 then 0 else σ 5 9) from by unfold sw_sv sw_s1; omega)⟩
      · refine sw_blk k_X6_slowDown 3 106 [(0, .inr (.inr 5))] [] (sw_u (sw_u (sw_u σ 5 8 (min ((σ 5 8) + (σ 5 12)) 0)) 5 7 ((σ 5 7) + (min ((σ 5 8) + (σ 5 12)) 0))) 5 9 0) rfl ?_
        refine sw_vreturn k_X6_slowDown rfl rfl ?_
        exact ⟨rfl, (fun i j h => by unfold sw_u; (repeat rw [if_neg (by omega)])), (show (((σ 5 7) + (min ((σ 5 8) + (σ 5 12)) 0)) : Int) = sw_sp (σ 1 0) (σ 5 12) (σ 5 7) (σ 5 8) from by unfold sw_sp sw_s1; omega), (show ((min ((σ 5 8) + (σ 5 12)) 0) : Int) = sw_sv (σ 1 0) (σ 5 12) (σ 5 7) (σ 5 8) from by unfold sw_sv sw_s1; omega), (show (0 : Int) = (if sw_sv (σ 1 0) (σ 5 12) (σ 5 7) (σ 5 8) = 0 then 0 else σ 5 9) from by unfold sw_sv sw_s1; omega)⟩
    · have p5 : ¬ (0 ≤ ((σ 5 7) + (min ((σ 5 8) + (σ 5 12)) 0)) ∧ ((σ 5 7) + (min ((σ 5 8) + (σ 5 12)) 0)) ≤ (σ 1 0)) := p5
      refine sw_blk k_X6_slowDown 0 64 [(0, .inr (.inr 5))] [.inl 0] (sw_u (sw_u σ 5 8 (min ((σ 5 8) + (σ 5 12)) 0)) 5 7 ((σ 5 7) + (min ((σ 5 8) + (σ 5 12)) 0))) rfl ?_
      refine sw_if_ne k_X6_slowDown rfl (by decide) 94 67 (by decide) rfl (fun c => absurd (by decide) c) (fun _ => ?_)
      refine sw_blk k_X6_slowDown 3 72 [(0, .inr (.inr 5))] [.inl ((σ 5 7) + (min ((σ 5 8) + (σ 5 12)) 0)), .inr (.inr 5)] (sw_u (sw_u σ 5 8 (min ((σ 5 8) + (σ 5 12)) 0)) 5 7 ((σ 5 7) + (min ((σ 5 8) + (σ 5 12)) 0))) rfl ?_
      refine sw_if_ge k_X6_slowDown rfl (by omega) 79 75 (by decide) rfl (fun c10 => ?_) (fun c10 => ?_)
      · refine sw_blk k_X6_slowDown 9 98 [(0, .inr (.inr 5))] [.inl 0] (sw_u (sw_u (sw_u (sw_u σ 5 8 (min ((σ 5 8) + (σ 5 12)) 0)) 5 7 ((σ 5 7) + (min ((σ 5 8) + (σ 5 12)) 0))) 5 7 (σ 1 0)) 5 8 0) rfl ?_
        refine sw_if_ne k_X6_slowDown rfl (by decide) 106 101 (by decide) rfl (fun c => absurd (by decide) c) (fun _ => ?_)
        refine sw_blk k_X6_slowDown 3 106 [(0, .inr (.inr 5))] [] (sw_u (sw_u (sw_u (sw_u (sw_u σ 5 8 (min ((σ 5 8) + (σ 5 12)) 0)) 5 7 ((σ 5 7) + (min ((σ 5 8) + (σ 5 12)) 0))) 5 7 (σ 1 0)) 5 8 0) 5 9 0) rfl ?_
        refine sw_vreturn k_X6_slowDown rfl rfl ?_
        exact ⟨rfl, (fun i j h => by unfold sw_u; (repeat rw [if_neg (by omega)])), (show ((σ 1 0) : Int) = sw_sp (σ 1 0) (σ 5 12) (σ 5 7) (σ 5 8) from by unfold sw_sp sw_s1; omega), (show (0 : Int) = sw_sv (σ 1 0) (σ 5 12) (σ 5 7) (σ 5 8) from by unfold sw_sv sw_s1; omega), (show (0 : Int) = (if sw_sv (σ 1 0) (σ 5 12) (σ 5 7) (σ 5 8) = 0 then 0 else σ 5 9) from by unfold sw_sv sw_s1; omega)⟩
      · refine sw_blk k_X6_slowDown 8 98 [(0, .inr (.inr 5))] [.inl 0] (sw_u (sw_u (sw_u (sw_u σ 5 8 (min ((σ 5 8) + (σ 5 12)) 0)) 5 7 ((σ 5 7) + (min ((σ 5 8) + (σ 5 12)) 0))) 5 7 0) 5 8 0) rfl ?_
        refine sw_if_ne k_X6_slowDown rfl (by decide) 106 101 (by decide) rfl (fun c => absurd (by decide) c) (fun _ => ?_)
        refine sw_blk k_X6_slowDown 3 106 [(0, .inr (.inr 5))] [] (sw_u (sw_u (sw_u (sw_u (sw_u σ 5 8 (min ((σ 5 8) + (σ 5 12)) 0)) 5 7 ((σ 5 7) + (min ((σ 5 8) + (σ 5 12)) 0))) 5 7 0) 5 8 0) 5 9 0) rfl ?_
        refine sw_vreturn k_X6_slowDown rfl rfl ?_
        exact ⟨rfl, (fun i j h => by unfold sw_u; (repeat rw [if_neg (by omega)])), (show (0 : Int) = sw_sp (σ 1 0) (σ 5 12) (σ 5 7) (σ 5 8) from by unfold sw_sp sw_s1; omega), (show (0 : Int) = sw_sv (σ 1 0) (σ 5 12) (σ 5 7) (σ 5 8) from by unfold sw_sv sw_s1; omega), (show (0 : Int) = (if sw_sv (σ 1 0) (σ 5 12) (σ 5 7) (σ 5 8) = 0 then 0 else σ 5 9) from by unfold sw_sv sw_s1; omega)⟩
  · refine sw_blk k_X6_slowDown 6 18 [(0, .inr (.inr 5))] [.inl 0, .inl ((σ 5 8) - (σ 5 12)), .inr (.inr 5)] σ rfl ?_
    refine sw_callS k_X6_slowDown rfl cS_J9_max_7cf53 ml_X6_49 ⟨by decide, by decide⟩ [.inl ((σ 5 8) - (σ 5 12)), .inl 0] [.inr (.inr 5)] rfl rfl (Nat.le_of_ble_eq_true rfl) 21 rfl (sp_max σ ((σ 5 8) - (σ 5 12)) 0 (by omega) (by decide)) (fun r11 σ12 hq13 => ?_)
    obtain ⟨rfl, rfl⟩ := hq13
    refine sw_blk k_X6_slowDown 13 61 [(0, .inr (.inr 5))] [.inl ((σ 5 7) + (max ((σ 5 8) - (σ 5 12)) 0)), .inr (.inr 1)] (sw_u (sw_u σ 5 8 (max ((σ 5 8) - (σ 5 12)) 0)) 5 7 ((σ 5 7) + (max ((σ 5 8) - (σ 5 12)) 0))) rfl ?_
    refine sw_callV k_X6_slowDown rfl cV_X3_has ml_X6_106 ⟨by decide, by decide⟩ 1 rfl rfl [.inl ((σ 5 7) + (max ((σ 5 8) - (σ 5 12)) 0))] [] rfl rfl (Nat.le_of_ble_eq_true rfl) 64 rfl (sp_has (sw_u (sw_u σ 5 8 (max ((σ 5 8) - (σ 5 12)) 0)) 5 7 ((σ 5 7) + (max ((σ 5 8) - (σ 5 12)) 0))) ((σ 5 7) + (max ((σ 5 8) - (σ 5 12)) 0)) (by omega) (hσ 1 0)) (fun r15 σ16 hq17 => ?_)
    obtain ⟨rfl, ⟨p14, rfl⟩ | ⟨p14, rfl⟩⟩ := hq17
    · have p14 : 0 ≤ ((σ 5 7) + (max ((σ 5 8) - (σ 5 12)) 0)) ∧ ((σ 5 7) + (max ((σ 5 8) - (σ 5 12)) 0)) ≤ (σ 1 0) := p14
      refine sw_blk k_X6_slowDown 0 64 [(0, .inr (.inr 5))] [.inl 1] (sw_u (sw_u σ 5 8 (max ((σ 5 8) - (σ 5 12)) 0)) 5 7 ((σ 5 7) + (max ((σ 5 8) - (σ 5 12)) 0))) rfl ?_
      refine sw_if_ne k_X6_slowDown rfl (by decide) 94 67 (by decide) rfl (fun _ => ?_) (fun c => absurd c (by decide))
      refine sw_blk k_X6_slowDown 2 98 [(0, .inr (.inr 5))] [.inl (max ((σ 5 8) - (σ 5 12)) 0)] (sw_u (sw_u σ 5 8 (max ((σ 5 8) - (σ 5 12)) 0)) 5 7 ((σ 5 7) + (max ((σ 5 8) - (σ 5 12)) 0))) rfl ?_
      refine sw_if_ne k_X6_slowDown rfl (by omega) 106 101 (by decide) rfl (fun c18 => ?_) (fun c18 => ?_)
      · refine sw_vreturn k_X6_slowDown rfl rfl ?_
        exact ⟨rfl, (fun i j h => by unfold sw_u; (repeat rw [if_neg (by omega)])), (show (((σ 5 7) + (max ((σ 5 8) - (σ 5 12)) 0)) : Int) = sw_sp (σ 1 0) (σ 5 12) (σ 5 7) (σ 5 8) from by unfold sw_sp sw_s1; omega), (show ((max ((σ 5 8) - (σ 5 12)) 0) : Int) = sw_sv (σ 1 0) (σ 5 12) (σ 5 7) (σ 5 8) from by unfold sw_sv sw_s1; omega), (show ((σ 5 9) : Int) = (if sw_sv (σ 1 0) (σ 5 12) (σ 5 7) (σ 5 8) = 0 then 0 else σ 5 9) from by unfold sw_sv sw_s1; omega)⟩
      · refine sw_blk k_X6_slowDown 3 106 [(0, .inr (.inr 5))] [] (sw_u (sw_u (sw_u σ 5 8 (max ((σ 5 8) - (σ 5 12)) 0)) 5 7 ((σ 5 7) + (max ((σ 5 8) - (σ 5 12)) 0))) 5 9 0) rfl ?_
        refine sw_vreturn k_X6_slowDown rfl rfl ?_
        exact ⟨rfl, (fun i j h => by unfold sw_u; (repeat rw [if_neg (by omega)])), (show (((σ 5 7) + (max ((σ 5 8) - (σ 5 12)) 0)) : Int) = sw_sp (σ 1 0) (σ 5 12) (σ 5 7) (σ 5 8) from by unfold sw_sp sw_s1; omega), (show ((max ((σ 5 8) - (σ 5 12)) 0) : Int) = sw_sv (σ 1 0) (σ 5 12) (σ 5 7) (σ 5 8) from by unfold sw_sv sw_s1; omega), (show (0 : Int) = (if sw_sv (σ 1 0) (σ 5 12) (σ 5 7) (σ 5 8) = 0 then 0 else σ 5 9) from by unfold sw_sv sw_s1; omega)⟩
    · have p14 : ¬ (0 ≤ ((σ 5 7) + (max ((σ 5 8) - (σ 5 12)) 0)) ∧ ((σ 5 7) + (max ((σ 5 8) - (σ 5 12)) 0)) ≤ (σ 1 0)) := p14
      refine sw_blk k_X6_slowDown 0 64 [(0, .inr (.inr 5))] [.inl 0] (sw_u (sw_u σ 5 8 (max ((σ 5 8) - (σ 5 12)) 0)) 5 7 ((σ 5 7) + (max ((σ 5 8) - (σ 5 12)) 0))) rfl ?_
      refine sw_if_ne k_X6_slowDown rfl (by decide) 94 67 (by decide) rfl (fun c => absurd (by decide) c) (fun _ => ?_)
      refine sw_blk k_X6_slowDown 3 72 [(0, .inr (.inr 5))] [.inl ((σ 5 7) + (max ((σ 5 8) - (σ 5 12)) 0)), .inr (.inr 5)] (sw_u (sw_u σ 5 8 (max ((σ 5 8) - (σ 5 12)) 0)) 5 7 ((σ 5 7) + (max ((σ 5 8) - (σ 5 12)) 0))) rfl ?_
      refine sw_if_ge k_X6_slowDown rfl (by omega) 79 75 (by decide) rfl (fun c19 => ?_) (fun c19 => ?_)
      · refine sw_blk k_X6_slowDown 9 98 [(0, .inr (.inr 5))] [.inl 0] (sw_u (sw_u (sw_u (sw_u σ 5 8 (max ((σ 5 8) - (σ 5 12)) 0)) 5 7 ((σ 5 7) + (max ((σ 5 8) - (σ 5 12)) 0))) 5 7 (σ 1 0)) 5 8 0) rfl ?_
        refine sw_if_ne k_X6_slowDown rfl (by decide) 106 101 (by decide) rfl (fun c => absurd (by decide) c) (fun _ => ?_)
        refine sw_blk k_X6_slowDown 3 106 [(0, .inr (.inr 5))] [] (sw_u (sw_u (sw_u (sw_u (sw_u σ 5 8 (max ((σ 5 8) - (σ 5 12)) 0)) 5 7 ((σ 5 7) + (max ((σ 5 8) - (σ 5 12)) 0))) 5 7 (σ 1 0)) 5 8 0) 5 9 0) rfl ?_
        refine sw_vreturn k_X6_slowDown rfl rfl ?_
        exact ⟨rfl, (fun i j h => by unfold sw_u; (repeat rw [if_neg (by omega)])), (show ((σ 1 0) : Int) = sw_sp (σ 1 0) (σ 5 12) (σ 5 7) (σ 5 8) from by unfold sw_sp sw_s1; omega), (show (0 : Int) = sw_sv (σ 1 0) (σ 5 12) (σ 5 7) (σ 5 8) from by unfold sw_sv sw_s1; omega), (show (0 : Int) = (if sw_sv (σ 1 0) (σ 5 12) (σ 5 7) (σ 5 8) = 0 then 0 else σ 5 9) from by unfold sw_sv sw_s1; omega)⟩
      · refine sw_blk k_X6_slowDown 8 98 [(0, .inr (.inr 5))] [.inl 0] (sw_u (sw_u (sw_u (sw_u σ 5 8 (max ((σ 5 8) - (σ 5 12)) 0)) 5 7 ((σ 5 7) + (max ((σ 5 8) - (σ 5 12)) 0))) 5 7 0) 5 8 0) rfl ?_
        refine sw_if_ne k_X6_slowDown rfl (by decide) 106 101 (by decide) rfl (fun c => absurd (by decide) c) (fun _ => ?_)
        refine sw_blk k_X6_slowDown 3 106 [(0, .inr (.inr 5))] [] (sw_u (sw_u (sw_u (sw_u (sw_u σ 5 8 (max ((σ 5 8) - (σ 5 12)) 0)) 5 7 ((σ 5 7) + (max ((σ 5 8) - (σ 5 12)) 0))) 5 7 0) 5 8 0) 5 9 0) rfl ?_
        refine sw_vreturn k_X6_slowDown rfl rfl ?_
        exact ⟨rfl, (fun i j h => by unfold sw_u; (repeat rw [if_neg (by omega)])), (show (0 : Int) = sw_sp (σ 1 0) (σ 5 12) (σ 5 7) (σ 5 8) from by unfold sw_sp sw_s1; omega), (show (0 : Int) = sw_sv (σ 1 0) (σ 5 12) (σ 5 7) (σ 5 8) from by unfold sw_sv sw_s1; omega), (show (0 : Int) = (if sw_sv (σ 1 0) (σ 5 12) (σ 5 7) (σ 5 8) = 0 then 0 else σ 5 9) from by unfold sw_sv sw_s1; omega)⟩
theorem sw_cnt_le (f : Nat → Int) : ∀ n : Nat, 0 ≤ sw_cnt f n ∧ sw_cnt f n ≤ n
  | 0 => ⟨Int.le_refl 0, Int.le_refl 0⟩
  | n + 1 => by
    have := sw_cnt_le f n
    unfold sw_cnt
    split <;> omega
theorem sp_mustBrake (σ : sw_S) (hσ : sw_gs σ) (hD : 10 ≤ σ 1 0 ∧ σ 1 0 ≤ 400) (hV : 1 ≤ σ 1 1 ∧ σ 1 1 ≤ 20) (hL : ∀ x : Int, 0 ≤ x → x ≤ σ 1 0 → 1 ≤ σ 2 x.toNat ∧ σ 2 x.toNat ≤ σ 1 1) (hpl : 0 ≤ σ 5 7 ∧ σ 5 7 ≤ σ 1 0) (her : ∀ j, j < 3 → -1000 ≤ σ 9 j ∧ σ 9 j ≤ 1000) (hmg : 0 ≤ σ 5 11 ∧ σ 5 11 ≤ 20) (hrd : 0 ≤ σ 5 6 ∧ σ 5 6 < 400) (hv : -20 ≤ σ 10 (σ 5 6).toNat ∧ σ 10 (σ 5 6).toNat ≤ 20) : sw_Con sw_ly sw_rho M_X6_mustBrake [.inr (.inr 5)] σ (fun r σ' => σ = σ' ∧ ((0 < sw_cnt (σ 8) 8 ∨ sw_la (σ 2) (σ 1 0) (σ 1 1) (sw_told (σ 5 7) (σ 9 0) (σ 9 1) (σ 9 2)) + σ 5 11 < sw_abs (σ 10 (σ 5 6).toNat)) ∧ r = some (.inl 1) ∨ ¬ (0 < sw_cnt (σ 8) 8 ∨ sw_la (σ 2) (σ 1 0) (σ 1 1) (sw_told (σ 5 7) (σ 9 0) (σ 9 1) (σ 9 2)) + σ 5 11 < sw_abs (σ 10 (σ 5 6).toNat)) ∧ r = some (.inl 0))) := by
  refine sw_con (by decide) (Nat.le_of_ble_eq_true rfl) ?_
  have hla : 1 ≤ sw_la (σ 2) (σ 1 0) (σ 1 1) (sw_told (σ 5 7) (σ 9 0) (σ 9 1) (σ 9 2)) ∧ sw_la (σ 2) (σ 1 0) (σ 1 1) (sw_told (σ 5 7) (σ 9 0) (σ 9 1) (σ 9 2)) ≤ 20 := by
    unfold sw_la
    split
    · next zz => have := hL _ zz.1 zz.2; omega
    · exact hV
  refine sw_blk k_X6_mustBrake 1 1 [(0, .inr (.inr 5))] [.inr (.inr 5)] σ rfl ?_
  refine sw_callV k_X6_mustBrake rfl cV_X6_openLinks ml_X6_84 ⟨by decide, by decide⟩ 5 rfl rfl [] [] rfl rfl (Nat.le_of_ble_eq_true rfl) 4 rfl (sp_openLinks σ (fun j => hσ 8 j)) (fun r1 σ2 hq3 => ?_)
  obtain ⟨rfl, rfl⟩ := hq3
  refine sw_blk k_X6_mustBrake 0 4 [(0, .inr (.inr 5))] [.inl (sw_cnt (σ 8) 8)] σ rfl ?_
  refine sw_if_gt k_X6_mustBrake rfl (by have := sw_cnt_le (σ 8) 8; omega) 33 7 (by decide) rfl (fun c4 => ?_) (fun c4 => ?_)
  · refine sw_blk k_X6_mustBrake 2 38 [(0, .inr (.inr 5))] [.inl 1] σ rfl ?_
    refine sw_zreturn k_X6_mustBrake rfl rfl (by decide) ?_
    exact ⟨rfl, Or.inl ⟨by omega, rfl⟩⟩
  · refine sw_blk k_X6_mustBrake 1 8 [(0, .inr (.inr 5))] [.inr (.inr 5)] σ rfl ?_
    refine sw_callV k_X6_mustBrake rfl cV_X6_nextSpeed ml_X6_88 ⟨by decide, by decide⟩ 5 rfl rfl [] [] rfl rfl (Nat.le_of_ble_eq_true rfl) 11 rfl (sp_nextSpeed σ (by omega) (by omega)) (fun r5 σ6 hq7 => ?_)
    obtain ⟨rfl, rfl⟩ := hq7
    refine sw_blk k_X6_mustBrake 0 11 [(0, .inr (.inr 5))] [.inl (σ 10 (σ 5 6).toNat)] σ rfl ?_
    refine sw_callS k_X6_mustBrake rfl cS_J9_abs_0f7a4 ml_X6_91 ⟨by decide, by decide⟩ [.inl (σ 10 (σ 5 6).toNat)] [] rfl rfl (Nat.le_of_ble_eq_true rfl) 14 rfl (sp_abs σ (σ 10 (σ 5 6).toNat) (hσ 10 _)) (fun r8 σ9 hq10 => ?_)
    obtain ⟨rfl, rfl⟩ := hq10
    refine sw_blk k_X6_mustBrake 3 19 [(0, .inr (.inr 5))] [.inr (.inr 5), .inr (.inr 1), .inl (sw_abs (σ 10 (σ 5 6).toNat))] σ rfl ?_
    refine sw_callV k_X6_mustBrake rfl cV_X6_told ml_X6_95 ⟨by decide, by decide⟩ 5 rfl rfl [] [.inr (.inr 1), .inl (sw_abs (σ 10 (σ 5 6).toNat))] rfl rfl (Nat.le_of_ble_eq_true rfl) 22 rfl (sp_told σ (hσ 9 0) (hσ 9 1) (hσ 9 2)) (fun r11 σ12 hq13 => ?_)
    obtain ⟨rfl, rfl⟩ := hq13
    refine sw_blk k_X6_mustBrake 0 22 [(0, .inr (.inr 5))] [.inl (sw_told (σ 5 7) (σ 9 0) (σ 9 1) (σ 9 2)), .inr (.inr 1), .inl (sw_abs (σ 10 (σ 5 6).toNat))] σ rfl ?_
    refine sw_callV k_X6_mustBrake rfl cV_X3_limitAt ml_X6_98 ⟨by decide, by decide⟩ 1 rfl rfl [.inl (sw_told (σ 5 7) (σ 9 0) (σ 9 1) (σ 9 2))] [.inl (sw_abs (σ 10 (σ 5 6).toNat))] rfl rfl (Nat.le_of_ble_eq_true rfl) 25 rfl (sp_limitAt σ (sw_told (σ 5 7) (σ 9 0) (σ 9 1) (σ 9 2)) (by unfold sw_told; have h0 := her 0 (by decide); have h1 := her 1 (by decide); have h2 := her 2 (by decide); omega) (by omega)) (fun r14 σ15 hq16 => ?_)
    obtain ⟨rfl, rfl⟩ := hq16
    refine sw_blk k_X6_mustBrake 3 30 [(0, .inr (.inr 5))] [.inl ((sw_la (σ 2) (σ 1 0) (σ 1 1) (sw_told (σ 5 7) (σ 9 0) (σ 9 1) (σ 9 2))) + (σ 5 11)), .inl (sw_abs (σ 10 (σ 5 6).toNat))] σ rfl ?_
    refine sw_icmp_le k_X6_mustBrake rfl (by unfold sw_abs; omega) (by have := hla; omega) 37 33 (by decide) rfl (fun c17 => ?_) (fun c17 => ?_)
    · refine sw_blk k_X6_mustBrake 1 38 [(0, .inr (.inr 5))] [.inl 0] σ rfl ?_
      refine sw_zreturn k_X6_mustBrake rfl rfl (by decide) ?_
      exact ⟨rfl, Or.inr ⟨by omega, rfl⟩⟩
    · refine sw_blk k_X6_mustBrake 2 38 [(0, .inr (.inr 5))] [.inl 1] σ rfl ?_
      refine sw_zreturn k_X6_mustBrake rfl rfl (by decide) ?_
      exact ⟨rfl, Or.inl ⟨by omega, rfl⟩⟩
theorem sp_rideOn (σ : sw_S) (hσ : sw_gs σ) (hrd : 0 ≤ σ 5 6 ∧ σ 5 6 < 400) : sw_Con sw_ly sw_rho M_X6_rideOn [.inr (.inr 5)] σ (fun r σ' => (σ 5 5 ≤ σ 5 6 + 1 ∧ (sw_u (sw_u (sw_u (sw_u (sw_u (sw_u σ 5 8 (σ 10 (σ 5 6).toNat)) 5 7 (σ 5 7 + (σ 10 (σ 5 6).toNat))) 5 6 (σ 5 6 + 1)) 5 8 0) 5 9 0) 5 13 (σ 5 13 + 1)) = σ' ∨ σ 5 6 + 1 < σ 5 5 ∧ (sw_u (sw_u (sw_u σ 5 8 (σ 10 (σ 5 6).toNat)) 5 7 (σ 5 7 + (σ 10 (σ 5 6).toNat))) 5 6 (σ 5 6 + 1)) = σ') ∧ r = none) := by
  refine sw_con (by decide) (Nat.le_of_ble_eq_true rfl) ?_
  refine sw_blk k_X6_rideOn 2 2 [(0, .inr (.inr 5))] [.inr (.inr 5), .inr (.inr 5)] σ rfl ?_
  refine sw_callV k_X6_rideOn rfl cV_X6_nextSpeed ml_X6_88 ⟨by decide, by decide⟩ 5 rfl rfl [] [.inr (.inr 5)] rfl rfl (Nat.le_of_ble_eq_true rfl) 5 rfl (sp_nextSpeed σ (by omega) (by omega)) (fun r1 σ2 hq3 => ?_)
  obtain ⟨rfl, rfl⟩ := hq3
  refine sw_blk k_X6_rideOn 18 39 [(0, .inr (.inr 5))] [.inl (σ 5 5), .inl ((σ 5 6) + 1)] (sw_u (sw_u (sw_u σ 5 8 (σ 10 (σ 5 6).toNat)) 5 7 ((σ 5 7) + (σ 10 (σ 5 6).toNat))) 5 6 ((σ 5 6) + 1)) rfl ?_
  refine sw_icmp_lt k_X6_rideOn rfl (by omega) (hσ 5 _) 62 42 (by decide) rfl (fun c4 => ?_) (fun c4 => ?_)
  · refine sw_vreturn k_X6_rideOn rfl rfl ?_
    exact ⟨Or.inr ⟨by omega, rfl⟩, rfl⟩
  · refine sw_blk k_X6_rideOn 12 62 [(0, .inr (.inr 5))] [] (sw_u (sw_u (sw_u (sw_u (sw_u (sw_u σ 5 8 (σ 10 (σ 5 6).toNat)) 5 7 ((σ 5 7) + (σ 10 (σ 5 6).toNat))) 5 6 ((σ 5 6) + 1)) 5 8 0) 5 9 0) 5 13 ((σ 5 13) + 1)) rfl ?_
    refine sw_vreturn k_X6_rideOn rfl rfl ?_
    exact ⟨Or.inl ⟨by omega, rfl⟩, rfl⟩
def sw_cNP (σ : sw_S) : Int := (if σ 5 9 = 1 then (if (0 < sw_cnt (σ 8) 8 ∨ sw_la (σ 2) (σ 1 0) (σ 1 1) (sw_told (σ 5 7) (σ 9 0) (σ 9 1) (σ 9 2)) + σ 5 11 < sw_abs (σ 10 (σ 5 6).toNat)) then sw_sp (σ 1 0) (σ 5 12) (σ 5 7) (σ 5 8) else σ 5 7 + (σ 10 (σ 5 6).toNat)) else if σ 5 9 = 2 then sw_sp (σ 1 0) (σ 5 12) (σ 5 7) (σ 5 8) else σ 5 7)
def sw_cNV (σ : sw_S) : Int := (if σ 5 9 = 1 then (if (0 < sw_cnt (σ 8) 8 ∨ sw_la (σ 2) (σ 1 0) (σ 1 1) (sw_told (σ 5 7) (σ 9 0) (σ 9 1) (σ 9 2)) + σ 5 11 < sw_abs (σ 10 (σ 5 6).toNat)) then sw_sv (σ 1 0) (σ 5 12) (σ 5 7) (σ 5 8) else if σ 5 5 ≤ σ 5 6 + 1 then 0 else (σ 10 (σ 5 6).toNat)) else if σ 5 9 = 2 then sw_sv (σ 1 0) (σ 5 12) (σ 5 7) (σ 5 8) else σ 5 8)
def sw_cNH (σ : sw_S) : Int := (if σ 5 9 = 1 then (if (0 < sw_cnt (σ 8) 8 ∨ sw_la (σ 2) (σ 1 0) (σ 1 1) (sw_told (σ 5 7) (σ 9 0) (σ 9 1) (σ 9 2)) + σ 5 11 < sw_abs (σ 10 (σ 5 6).toNat)) then (if sw_sv (σ 1 0) (σ 5 12) (σ 5 7) (σ 5 8) = 0 then 0 else 2) else if σ 5 5 ≤ σ 5 6 + 1 then 0 else 1) else if σ 5 9 = 2 then (if sw_sv (σ 1 0) (σ 5 12) (σ 5 7) (σ 5 8) = 0 then 0 else 2) else σ 5 9)
def sw_cNE (σ : sw_S) : Int := (if σ 5 9 = 1 then (if (0 < sw_cnt (σ 8) 8 ∨ sw_la (σ 2) (σ 1 0) (σ 1 1) (sw_told (σ 5 7) (σ 9 0) (σ 9 1) (σ 9 2)) + σ 5 11 < sw_abs (σ 10 (σ 5 6).toNat)) then σ 5 13 else if σ 5 5 ≤ σ 5 6 + 1 then σ 5 13 + 1 else σ 5 13) else σ 5 13)
def sw_cNB (σ : sw_S) : Int := (if σ 5 9 = 1 then (if (0 < sw_cnt (σ 8) 8 ∨ sw_la (σ 2) (σ 1 0) (σ 1 1) (sw_told (σ 5 7) (σ 9 0) (σ 9 1) (σ 9 2)) + σ 5 11 < sw_abs (σ 10 (σ 5 6).toNat)) then σ 5 14 + 1 else σ 5 14) else σ 5 14)
def sw_cNR (σ : sw_S) : Int := (if σ 5 9 = 1 then (if (0 < sw_cnt (σ 8) 8 ∨ sw_la (σ 2) (σ 1 0) (σ 1 1) (sw_told (σ 5 7) (σ 9 0) (σ 9 1) (σ 9 2)) + σ 5 11 < sw_abs (σ 10 (σ 5 6).toNat)) then σ 5 6 else σ 5 6 + 1) else σ 5 6)
theorem sp_passTick (σ : sw_S) (hσ : sw_gs σ) (hD : 10 ≤ σ 1 0 ∧ σ 1 0 ≤ 400) (hV : 1 ≤ σ 1 1 ∧ σ 1 1 ≤ 20) (hL : ∀ x : Int, 0 ≤ x → x ≤ σ 1 0 → 1 ≤ σ 2 x.toNat ∧ σ 2 x.toNat ≤ σ 1 1) (hpl : 0 ≤ σ 5 7 ∧ σ 5 7 ≤ σ 1 0) (hspd : -20 ≤ σ 5 8 ∧ σ 5 8 ≤ 20) (hbr : 1 ≤ σ 5 12 ∧ σ 5 12 ≤ 10) (her : ∀ j, j < 3 → -1000 ≤ σ 9 j ∧ σ 9 j ≤ 1000) (hmg : 0 ≤ σ 5 11 ∧ σ 5 11 ≤ 20) (hrd : σ 5 9 = 1 → 0 ≤ σ 5 6 ∧ σ 5 6 < 400) (hv : σ 5 9 = 1 → -20 ≤ σ 10 (σ 5 6).toNat ∧ σ 10 (σ 5 6).toNat ≤ 20) (h61 : 0 ≤ σ 6 1 ∧ σ 6 1 < 1000000) (h514 : 0 ≤ σ 5 14 ∧ σ 5 14 < 1000000) : sw_Con sw_ly sw_rho M_X6_passTick [.inr (.inr 5)] σ (fun r σ' => r = none ∧ (∀ i j, i ≠ 7 → ¬ (i = 6 ∧ j = 1) → ¬ (i = 5 ∧ (j = 6 ∨ j = 7 ∨ j = 8 ∨ j = 9 ∨ j = 13 ∨ j = 14)) → σ' i j = σ i j) ∧ σ' 5 7 = sw_cNP σ ∧ σ' 5 8 = sw_cNV σ ∧ σ' 5 9 = sw_cNH σ ∧ σ' 5 13 = sw_cNE σ ∧ σ' 5 14 = sw_cNB σ ∧ σ' 5 6 = sw_cNR σ ∧ σ' 6 1 = σ 6 1 + 1 ∧ ∀ j : Nat, σ' 7 j = (if (j : Int) = (σ 6 1 % 40 * 3) then sw_cNP σ else if (j : Int) = (σ 6 1 % 40 * 3) + 1 then sw_cNV σ else if (j : Int) = (σ 6 1 % 40 * 3) + 2 then sw_cNH σ else σ 7 j)) := by
  refine sw_con (by decide) (Nat.le_of_ble_eq_true rfl) ?_
  refine sw_blk k_X6_passTick 3 5 [(0, .inr (.inr 5))] [.inl 1, .inl (σ 5 9)] σ rfl ?_
  refine sw_icmp_ne k_X6_passTick rfl (hσ 5 _) (by decide) 30 8 (by decide) rfl (fun c1 => ?_) (fun c1 => ?_)
  · refine sw_blk k_X6_passTick 3 35 [(0, .inr (.inr 5))] [.inl 1, .inl (σ 5 9)] σ rfl ?_
    refine sw_icmp_ne k_X6_passTick rfl (hσ 5 _) (by decide) 45 38 (by decide) rfl (fun c2 => ?_) (fun c2 => ?_)
    · refine sw_blk k_X6_passTick 3 50 [(0, .inr (.inr 5))] [.inl 2, .inl (σ 5 9)] σ rfl ?_
      refine sw_icmp_ne k_X6_passTick rfl (hσ 5 _) (by decide) 57 53 (by decide) rfl (fun c3 => ?_) (fun c3 => ?_)
      · refine sw_blk k_X6_passTick 8 73 [(0, .inr (.inr 5))] [.inl (σ 5 9), .inl (σ 5 8), .inl (σ 5 7), .inr (.inr 6)] σ rfl ?_
        refine sw_callV k_X6_passTick rfl cV_X5_note ml_X6_80 ⟨by decide, by decide⟩ 6 rfl rfl [.inl (σ 5 7), .inl (σ 5 8), .inl (σ 5 9)] [] rfl rfl (Nat.le_of_ble_eq_true rfl) 76 rfl (sp_note σ (σ 5 7) (σ 5 8) (σ 5 9) (by have e : (σ 6 1) = σ 6 1 := rfl; show 0 ≤ (σ 6 1); omega) (by have e : (σ 6 1) = σ 6 1 := rfl; show (σ 6 1) < 1000000; omega)) (fun r4 σ5 hq6 => ?_)
        obtain ⟨rfl, rfl⟩ := hq6
        refine sw_blk k_X6_passTick 0 76 [(0, .inr (.inr 5))] [] (sw_u (sw_u (sw_u (sw_u σ 7 (((σ 6 1) % 40 * 3).toNat) (σ 5 7)) 7 (((σ 6 1) % 40 * 3 + 1).toNat) (σ 5 8)) 7 (((σ 6 1) % 40 * 3 + 2).toNat) (σ 5 9)) 6 1 ((σ 6 1) + 1)) rfl ?_
        refine sw_vreturn k_X6_passTick rfl rfl ?_
        have v7 : ((σ 5 7) : Int) = sw_cNP σ := by unfold sw_cNP; omega
        have v8 : ((σ 5 8) : Int) = sw_cNV σ := by unfold sw_cNV; omega
        have v9 : ((σ 5 9) : Int) = sw_cNH σ := by unfold sw_cNH; omega
        refine ⟨rfl, (fun i j h6 h h5 => by unfold sw_u; (repeat rw [if_neg (by omega)])), v7, v8, v9, (show ((σ 5 13) : Int) = sw_cNE σ from by unfold sw_cNE; first | omega | (rw [e14]; unfold sw_u; simp; omega) | (rw [e14]; omega)), (show ((σ 5 14) : Int) = sw_cNB σ from by unfold sw_cNB; first | omega | (rw [e14]; unfold sw_u; simp; omega) | (rw [e14]; omega)), (show ((σ 5 6) : Int) = sw_cNR σ from by unfold sw_cNR; first | omega | (rw [e14]; unfold sw_u; simp; omega) | (rw [e14]; omega)), (show (((σ 6 1) + 1) : Int) = σ 6 1 + 1 from by omega), fun j => ?_⟩
        rw [← v7, ← v8, ← v9]
        unfold sw_u
        simp only [show ¬ ((7 : Nat) = 6) by decide, show ¬ ((7 : Nat) = 5) by decide, false_and, if_false, true_and]
        skip
        split <;> (try split) <;> (try split) <;> first | rfl | (rw [if_pos (by omega)]) | (rw [if_neg (by omega), if_pos (by omega)]) | (rw [if_neg (by omega), if_neg (by omega), if_pos (by omega)]) | (rw [if_neg (by omega), if_neg (by omega), if_neg (by omega)]) | omega
      · refine sw_blk k_X6_passTick 1 54 [(0, .inr (.inr 5))] [.inr (.inr 5)] σ rfl ?_
        refine sw_callV k_X6_passTick rfl cV_X6_slowDown ml_X6_74 ⟨by decide, by decide⟩ 5 rfl rfl [] [] rfl rfl (Nat.le_of_ble_eq_true rfl) 57 rfl (sp_slow σ hσ hD hpl hspd hbr) (fun r7 σ8 hq9 => ?_)
        obtain ⟨rfl, sf, s7, s8, s9⟩ := hq9
        have s7 : _ = sw_sp (σ 1 0) (σ 5 12) (σ 5 7) (σ 5 8) := s7
        have s8 : _ = sw_sv (σ 1 0) (σ 5 12) (σ 5 7) (σ 5 8) := s8
        refine sw_blk k_X6_passTick 8 73 [(0, .inr (.inr 5))] [.inl (σ8 5 9), .inl (σ8 5 8), .inl (σ8 5 7), .inr (.inr 6)] σ8 rfl ?_
        refine sw_callV k_X6_passTick rfl cV_X5_note ml_X6_80 ⟨by decide, by decide⟩ 6 rfl rfl [.inl (σ8 5 7), .inl (σ8 5 8), .inl (σ8 5 9)] [] rfl rfl (Nat.le_of_ble_eq_true rfl) 76 rfl (sp_note σ8 (σ8 5 7) (σ8 5 8) (σ8 5 9) (by have e : (σ8 6 1) = σ 6 1 := sf 6 1 (by omega); show 0 ≤ (σ8 6 1); omega) (by have e : (σ8 6 1) = σ 6 1 := sf 6 1 (by omega); show (σ8 6 1) < 1000000; omega)) (fun r10 σ11 hq12 => ?_)
        obtain ⟨rfl, rfl⟩ := hq12
        refine sw_blk k_X6_passTick 0 76 [(0, .inr (.inr 5))] [] (sw_u (sw_u (sw_u (sw_u σ8 7 (((σ8 6 1) % 40 * 3).toNat) (σ8 5 7)) 7 (((σ8 6 1) % 40 * 3 + 1).toNat) (σ8 5 8)) 7 (((σ8 6 1) % 40 * 3 + 2).toNat) (σ8 5 9)) 6 1 ((σ8 6 1) + 1)) rfl ?_
        refine sw_vreturn k_X6_passTick rfl rfl ?_
        have e61 : σ8 6 1 = σ 6 1 := sf 6 1 (by omega)
        have e7 : ∀ j, σ8 7 j = σ 7 j := fun j => sf 7 j (by omega)
        have e13 : σ8 5 13 = σ 5 13 := sf 5 13 (by omega)
        have e6 : σ8 5 6 = σ 5 6 := sf 5 6 (by omega)
        have e14 := sf 5 14 (by omega)
        have s9 : σ8 5 9 = (if sw_sv (σ 1 0) (σ 5 12) (σ 5 7) (σ 5 8) = 0 then 0 else 2) := s9.trans (by show (if _ = (0 : Int) then (0 : Int) else _) = _; first | rfl | (rw [c2]; done) | (rw [c3]; done) | (rw [c4]; done) | omega)
        have v7 : ((σ8 5 7) : Int) = sw_cNP σ := by unfold sw_cNP; omega
        have v8 : ((σ8 5 8) : Int) = sw_cNV σ := by unfold sw_cNV; omega
        have v9 : ((σ8 5 9) : Int) = sw_cNH σ := by unfold sw_cNH; omega
        refine ⟨rfl, (fun i j h6 h h5 => by unfold sw_u; (repeat rw [if_neg (by omega)]); rw [sf i j (by omega)]; (try (unfold sw_u; (repeat rw [if_neg (by omega)])))), v7, v8, v9, (show ((σ8 5 13) : Int) = sw_cNE σ from by unfold sw_cNE; first | omega | (rw [e14]; unfold sw_u; simp; omega) | (rw [e14]; omega)), (show ((σ8 5 14) : Int) = sw_cNB σ from by unfold sw_cNB; first | omega | (rw [e14]; unfold sw_u; simp; omega) | (rw [e14]; omega)), (show ((σ8 5 6) : Int) = sw_cNR σ from by unfold sw_cNR; first | omega | (rw [e14]; unfold sw_u; simp; omega) | (rw [e14]; omega)), (show (((σ8 6 1) + 1) : Int) = σ 6 1 + 1 from by omega), fun j => ?_⟩
        rw [← v7, ← v8, ← v9]
        unfold sw_u
        simp only [show ¬ ((7 : Nat) = 6) by decide, show ¬ ((7 : Nat) = 5) by decide, false_and, if_false, true_and]
        rw [e7]
        split <;> (try split) <;> (try split) <;> first | rfl | (rw [if_pos (by omega)]) | (rw [if_neg (by omega), if_pos (by omega)]) | (rw [if_neg (by omega), if_neg (by omega), if_pos (by omega)]) | (rw [if_neg (by omega), if_neg (by omega), if_neg (by omega)]) | omega
    · omega
  · refine sw_blk k_X6_passTick 1 9 [(0, .inr (.inr 5))] [.inr (.inr 5)] σ rfl ?_
    refine sw_callV k_X6_passTick rfl cV_X6_mustBrake ml_X6_64 ⟨by decide, by decide⟩ 5 rfl rfl [] [] rfl rfl (Nat.le_of_ble_eq_true rfl) 12 rfl (sp_mustBrake σ hσ hD hV hL hpl her hmg (hrd c1) (hv c1)) (fun r14 σ15 hq16 => ?_)
    obtain ⟨rfl, ⟨p13, rfl⟩ | ⟨p13, rfl⟩⟩ := hq16
    · refine sw_blk k_X6_passTick 0 12 [(0, .inr (.inr 5))] [.inl 1] σ rfl ?_
      refine sw_if_eq k_X6_passTick rfl (by decide) 30 15 (by decide) rfl (fun c => absurd c (by decide)) (fun _ => ?_)
      refine sw_blk k_X6_passTick 12 35 [(0, .inr (.inr 5))] [.inl 1, .inl 2] (sw_u (sw_u σ 5 9 2) 5 14 ((σ 5 14) + 1)) rfl ?_
      refine sw_icmp_ne k_X6_passTick rfl (by decide) (by decide) 45 38 (by decide) rfl (fun _ => ?_) (fun c => absurd c (by decide))
      refine sw_blk k_X6_passTick 3 50 [(0, .inr (.inr 5))] [.inl 2, .inl 2] (sw_u (sw_u σ 5 9 2) 5 14 ((σ 5 14) + 1)) rfl ?_
      refine sw_icmp_ne k_X6_passTick rfl (by decide) (by decide) 57 53 (by decide) rfl (fun c => absurd (by decide) c) (fun _ => ?_)
      refine sw_blk k_X6_passTick 1 54 [(0, .inr (.inr 5))] [.inr (.inr 5)] (sw_u (sw_u σ 5 9 2) 5 14 ((σ 5 14) + 1)) rfl ?_
      refine sw_callV k_X6_passTick rfl cV_X6_slowDown ml_X6_74 ⟨by decide, by decide⟩ 5 rfl rfl [] [] rfl rfl (Nat.le_of_ble_eq_true rfl) 57 rfl (sp_slow (sw_u (sw_u σ 5 9 2) 5 14 ((σ 5 14) + 1)) (sw_gs_u (sw_gs_u hσ 5 9 (by decide)) 5 14 (by omega)) hD hpl hspd hbr) (fun r17 σ18 hq19 => ?_)
      obtain ⟨rfl, sf, s7, s8, s9⟩ := hq19
      have s7 : _ = sw_sp (σ 1 0) (σ 5 12) (σ 5 7) (σ 5 8) := s7
      have s8 : _ = sw_sv (σ 1 0) (σ 5 12) (σ 5 7) (σ 5 8) := s8
      refine sw_blk k_X6_passTick 8 73 [(0, .inr (.inr 5))] [.inl (σ18 5 9), .inl (σ18 5 8), .inl (σ18 5 7), .inr (.inr 6)] σ18 rfl ?_
      refine sw_callV k_X6_passTick rfl cV_X5_note ml_X6_80 ⟨by decide, by decide⟩ 6 rfl rfl [.inl (σ18 5 7), .inl (σ18 5 8), .inl (σ18 5 9)] [] rfl rfl (Nat.le_of_ble_eq_true rfl) 76 rfl (sp_note σ18 (σ18 5 7) (σ18 5 8) (σ18 5 9) (by have e : (σ18 6 1) = σ 6 1 := sf 6 1 (by omega); show 0 ≤ (σ18 6 1); omega) (by have e : (σ18 6 1) = σ 6 1 := sf 6 1 (by omega); show (σ18 6 1) < 1000000; omega)) (fun r20 σ21 hq22 => ?_)
      obtain ⟨rfl, rfl⟩ := hq22
      refine sw_blk k_X6_passTick 0 76 [(0, .inr (.inr 5))] [] (sw_u (sw_u (sw_u (sw_u σ18 7 (((σ18 6 1) % 40 * 3).toNat) (σ18 5 7)) 7 (((σ18 6 1) % 40 * 3 + 1).toNat) (σ18 5 8)) 7 (((σ18 6 1) % 40 * 3 + 2).toNat) (σ18 5 9)) 6 1 ((σ18 6 1) + 1)) rfl ?_
      refine sw_vreturn k_X6_passTick rfl rfl ?_
      have e61 : σ18 6 1 = σ 6 1 := sf 6 1 (by omega)
      have e7 : ∀ j, σ18 7 j = σ 7 j := fun j => sf 7 j (by omega)
      have e13 : σ18 5 13 = σ 5 13 := sf 5 13 (by omega)
      have e6 : σ18 5 6 = σ 5 6 := sf 5 6 (by omega)
      have e14 := sf 5 14 (by omega)
      have s9 : σ18 5 9 = (if sw_sv (σ 1 0) (σ 5 12) (σ 5 7) (σ 5 8) = 0 then 0 else 2) := s9.trans (by show (if _ = (0 : Int) then (0 : Int) else _) = _; first | rfl | (rw [c2]; done) | (rw [c3]; done) | (rw [c4]; done) | omega)
      have v7 : ((σ18 5 7) : Int) = sw_cNP σ := by unfold sw_cNP; omega
      have v8 : ((σ18 5 8) : Int) = sw_cNV σ := by unfold sw_cNV; omega
      have v9 : ((σ18 5 9) : Int) = sw_cNH σ := by unfold sw_cNH; omega
      refine ⟨rfl, (fun i j h6 h h5 => by unfold sw_u; (repeat rw [if_neg (by omega)]); rw [sf i j (by omega)]; (try (unfold sw_u; (repeat rw [if_neg (by omega)])))), v7, v8, v9, (show ((σ18 5 13) : Int) = sw_cNE σ from by unfold sw_cNE; first | omega | (rw [e14]; unfold sw_u; simp; omega) | (rw [e14]; omega)), (show ((σ18 5 14) : Int) = sw_cNB σ from by unfold sw_cNB; first | omega | (rw [e14]; unfold sw_u; simp; omega) | (rw [e14]; omega)), (show ((σ18 5 6) : Int) = sw_cNR σ from by unfold sw_cNR; first | omega | (rw [e14]; unfold sw_u; simp; omega) | (rw [e14]; omega)), (show (((σ18 6 1) + 1) : Int) = σ 6 1 + 1 from by omega), fun j => ?_⟩
      rw [← v7, ← v8, ← v9]
      unfold sw_u
      simp only [show ¬ ((7 : Nat) = 6) by decide, show ¬ ((7 : Nat) = 5) by decide, false_and, if_false, true_and]
      rw [e7]
      split <;> (try split) <;> (try split) <;> first | rfl | (rw [if_pos (by omega)]) | (rw [if_neg (by omega), if_pos (by omega)]) | (rw [if_neg (by omega), if_neg (by omega), if_pos (by omega)]) | (rw [if_neg (by omega), if_neg (by omega), if_neg (by omega)]) | omega
    · refine sw_blk k_X6_passTick 0 12 [(0, .inr (.inr 5))] [.inl 0] σ rfl ?_
      refine sw_if_eq k_X6_passTick rfl (by decide) 30 15 (by decide) rfl (fun _ => ?_) (fun c => absurd (by decide) c)
      refine sw_blk k_X6_passTick 3 35 [(0, .inr (.inr 5))] [.inl 1, .inl (σ 5 9)] σ rfl ?_
      refine sw_icmp_ne k_X6_passTick rfl (hσ 5 _) (by decide) 45 38 (by decide) rfl (fun c23 => ?_) (fun c23 => ?_)
      · omega
      · refine sw_blk k_X6_passTick 1 39 [(0, .inr (.inr 5))] [.inr (.inr 5)] σ rfl ?_
        refine sw_callV k_X6_passTick rfl cV_X6_rideOn ml_X6_71 ⟨by decide, by decide⟩ 5 rfl rfl [] [] rfl rfl (Nat.le_of_ble_eq_true rfl) 42 rfl (sp_rideOn σ hσ (hrd c1)) (fun r25 σ26 hq27 => ?_)
        obtain ⟨⟨q24, rfl⟩ | ⟨q24, rfl⟩, rfl⟩ := hq27
        · refine sw_blk k_X6_passTick 9 73 [(0, .inr (.inr 5))] [.inl 0, .inl 0, .inl (σ 5 7 + (σ 10 (σ 5 6).toNat)), .inr (.inr 6)] (sw_u (sw_u (sw_u (sw_u (sw_u (sw_u σ 5 8 (σ 10 (σ 5 6).toNat)) 5 7 (σ 5 7 + (σ 10 (σ 5 6).toNat))) 5 6 (σ 5 6 + 1)) 5 8 0) 5 9 0) 5 13 (σ 5 13 + 1)) rfl ?_
          refine sw_callV k_X6_passTick rfl cV_X5_note ml_X6_80 ⟨by decide, by decide⟩ 6 rfl rfl [.inl (σ 5 7 + (σ 10 (σ 5 6).toNat)), .inl 0, .inl 0] [] rfl rfl (Nat.le_of_ble_eq_true rfl) 76 rfl (sp_note (sw_u (sw_u (sw_u (sw_u (sw_u (sw_u σ 5 8 (σ 10 (σ 5 6).toNat)) 5 7 (σ 5 7 + (σ 10 (σ 5 6).toNat))) 5 6 (σ 5 6 + 1)) 5 8 0) 5 9 0) 5 13 (σ 5 13 + 1)) (σ 5 7 + (σ 10 (σ 5 6).toNat)) 0 0 (by have e : (σ 6 1) = σ 6 1 := rfl; show 0 ≤ (σ 6 1); omega) (by have e : (σ 6 1) = σ 6 1 := rfl; show (σ 6 1) < 1000000; omega)) (fun r28 σ29 hq30 => ?_)
          obtain ⟨rfl, rfl⟩ := hq30
          refine sw_blk k_X6_passTick 0 76 [(0, .inr (.inr 5))] [] (sw_u (sw_u (sw_u (sw_u (sw_u (sw_u (sw_u (sw_u (sw_u (sw_u σ 5 8 (σ 10 (σ 5 6).toNat)) 5 7 (σ 5 7 + (σ 10 (σ 5 6).toNat))) 5 6 (σ 5 6 + 1)) 5 8 0) 5 9 0) 5 13 (σ 5 13 + 1)) 7 (((σ 6 1) % 40 * 3).toNat) (σ 5 7 + (σ 10 (σ 5 6).toNat))) 7 (((σ 6 1) % 40 * 3 + 1).toNat) 0) 7 (((σ 6 1) % 40 * 3 + 2).toNat) 0) 6 1 ((σ 6 1) + 1)) rfl ?_
          refine sw_vreturn k_X6_passTick rfl rfl ?_
          have v7 : ((σ 5 7 + (σ 10 (σ 5 6).toNat)) : Int) = sw_cNP σ := by unfold sw_cNP; omega
          have v8 : (0 : Int) = sw_cNV σ := by unfold sw_cNV; omega
          have v9 : (0 : Int) = sw_cNH σ := by unfold sw_cNH; omega
          refine ⟨rfl, (fun i j h6 h h5 => by unfold sw_u; (repeat rw [if_neg (by omega)])), v7, v8, v9, (show ((σ 5 13 + 1) : Int) = sw_cNE σ from by unfold sw_cNE; first | omega | (rw [e14]; unfold sw_u; simp; omega) | (rw [e14]; omega)), (show ((σ 5 14) : Int) = sw_cNB σ from by unfold sw_cNB; first | omega | (rw [e14]; unfold sw_u; simp; omega) | (rw [e14]; omega)), (show ((σ 5 6 + 1) : Int) = sw_cNR σ from by unfold sw_cNR; first | omega | (rw [e14]; unfold sw_u; simp; omega) | (rw [e14]; omega)), (show (((σ 6 1) + 1) : Int) = σ 6 1 + 1 from by omega), fun j => ?_⟩
          rw [← v7, ← v8, ← v9]
          unfold sw_u
          simp only [show ¬ ((7 : Nat) = 6) by decide, show ¬ ((7 : Nat) = 5) by decide, false_and, if_false, true_and]
          skip
          split <;> (try split) <;> (try split) <;> first | rfl | (rw [if_pos (by omega)]) | (rw [if_neg (by omega), if_pos (by omega)]) | (rw [if_neg (by omega), if_neg (by omega), if_pos (by omega)]) | (rw [if_neg (by omega), if_neg (by omega), if_neg (by omega)]) | omega
        · refine sw_blk k_X6_passTick 9 73 [(0, .inr (.inr 5))] [.inl (σ 5 9), .inl (σ 10 (σ 5 6).toNat), .inl (σ 5 7 + (σ 10 (σ 5 6).toNat)), .inr (.inr 6)] (sw_u (sw_u (sw_u σ 5 8 (σ 10 (σ 5 6).toNat)) 5 7 (σ 5 7 + (σ 10 (σ 5 6).toNat))) 5 6 (σ 5 6 + 1)) rfl ?_
          refine sw_callV k_X6_passTick rfl cV_X5_note ml_X6_80 ⟨by decide, by decide⟩ 6 rfl rfl [.inl (σ 5 7 + (σ 10 (σ 5 6).toNat)), .inl (σ 10 (σ 5 6).toNat), .inl (σ 5 9)] [] rfl rfl (Nat.le_of_ble_eq_true rfl) 76 rfl (sp_note (sw_u (sw_u (sw_u σ 5 8 (σ 10 (σ 5 6).toNat)) 5 7 (σ 5 7 + (σ 10 (σ 5 6).toNat))) 5 6 (σ 5 6 + 1)) (σ 5 7 + (σ 10 (σ 5 6).toNat)) (σ 10 (σ 5 6).toNat) (σ 5 9) (by have e : (σ 6 1) = σ 6 1 := rfl; show 0 ≤ (σ 6 1); omega) (by have e : (σ 6 1) = σ 6 1 := rfl; show (σ 6 1) < 1000000; omega)) (fun r31 σ32 hq33 => ?_)
          obtain ⟨rfl, rfl⟩ := hq33
          refine sw_blk k_X6_passTick 0 76 [(0, .inr (.inr 5))] [] (sw_u (sw_u (sw_u (sw_u (sw_u (sw_u (sw_u σ 5 8 (σ 10 (σ 5 6).toNat)) 5 7 (σ 5 7 + (σ 10 (σ 5 6).toNat))) 5 6 (σ 5 6 + 1)) 7 (((σ 6 1) % 40 * 3).toNat) (σ 5 7 + (σ 10 (σ 5 6).toNat))) 7 (((σ 6 1) % 40 * 3 + 1).toNat) (σ 10 (σ 5 6).toNat)) 7 (((σ 6 1) % 40 * 3 + 2).toNat) (σ 5 9)) 6 1 ((σ 6 1) + 1)) rfl ?_
          refine sw_vreturn k_X6_passTick rfl rfl ?_
          have v7 : ((σ 5 7 + (σ 10 (σ 5 6).toNat)) : Int) = sw_cNP σ := by unfold sw_cNP; omega
          have v8 : ((σ 10 (σ 5 6).toNat) : Int) = sw_cNV σ := by unfold sw_cNV; omega
          have v9 : ((σ 5 9) : Int) = sw_cNH σ := by unfold sw_cNH; omega
          refine ⟨rfl, (fun i j h6 h h5 => by unfold sw_u; (repeat rw [if_neg (by omega)])), v7, v8, v9, (show ((σ 5 13) : Int) = sw_cNE σ from by unfold sw_cNE; first | omega | (rw [e14]; unfold sw_u; simp; omega) | (rw [e14]; omega)), (show ((σ 5 14) : Int) = sw_cNB σ from by unfold sw_cNB; first | omega | (rw [e14]; unfold sw_u; simp; omega) | (rw [e14]; omega)), (show ((σ 5 6 + 1) : Int) = sw_cNR σ from by unfold sw_cNR; first | omega | (rw [e14]; unfold sw_u; simp; omega) | (rw [e14]; omega)), (show (((σ 6 1) + 1) : Int) = σ 6 1 + 1 from by omega), fun j => ?_⟩
          rw [← v7, ← v8, ← v9]
          unfold sw_u
          simp only [show ¬ ((7 : Nat) = 6) by decide, show ¬ ((7 : Nat) = 5) by decide, false_and, if_false, true_and]
          skip
          split <;> (try split) <;> (try split) <;> first | rfl | (rw [if_pos (by omega)]) | (rw [if_neg (by omega), if_pos (by omega)]) | (rw [if_neg (by omega), if_neg (by omega), if_pos (by omega)]) | (rw [if_neg (by omega), if_neg (by omega), if_neg (by omega)]) | omega
end
section
/-- a row is written from its start on -/
def sw_pf (σ : sw_S) (c : Nat) (g : Nat → Int) (m : Nat) : sw_S := fun i j => if i = c ∧ j < m then g j else σ i j
theorem sw_pf_0 (σ : sw_S) (c : Nat) (g : Nat → Int) : sw_pf σ c g 0 = σ := by funext i j; simp [sw_pf]
theorem sw_pf_s (σ : sw_S) (c : Nat) (g : Nat → Int) (m : Nat) {v : Int} (hv : v = g m) : sw_u (sw_pf σ c g m) c m v = sw_pf σ c g (m + 1) := by
  subst hv
  funext i j
  unfold sw_u sw_pf
  by_cases hi : i = c
  · subst hi
    by_cases hj : j = m
    · subst hj; simp
    · simp only [true_and]
      rw [if_neg hj]
      by_cases h : j < m
      · rw [if_pos h, if_pos (by omega)]
      · rw [if_neg h, if_neg (by omega)]
  · simp [hi]
theorem sw_pf_row (σ : sw_S) {c : Nat} (g : Nat → Int) (m : Nat) {i : Nat} (h : i ≠ c) (j : Nat) : sw_pf σ c g m i j = σ i j := by simp [sw_pf, h]
theorem sw_pf_in (σ : sw_S) (c : Nat) (g : Nat → Int) {m j : Nat} (h : j < m) : sw_pf σ c g m c j = g j := by simp [sw_pf, h]
theorem sw_pf_out (σ : sw_S) (c : Nat) (g : Nat → Int) {m j : Nat} (h : m ≤ j) : sw_pf σ c g m c j = σ c j := by simp [sw_pf]; omega
theorem sw_pf_gs {σ : sw_S} (h : sw_gs σ) (c : Nat) {g : Nat → Int} (m : Nat) (hg : ∀ j, j < m → sw_g (g j)) : sw_gs (sw_pf σ c g m) := by
  intro i j
  unfold sw_pf
  split
  · next z => exact hg j z.2
  · exact h i j
/-- the wires of n lays from a on -/
def sw_sm (f : Nat → Int) (a : Nat) : Nat → Int
  | 0 => 0
  | n + 1 => sw_sm f a n + (if a + n < 60 then f (a + n) else 0)
theorem sw_sm_b {f : Nat → Int} (h : ∀ j, j < 60 → 0 ≤ f j ∧ f j ≤ 99) (a : Nat) : ∀ n : Nat, 0 ≤ sw_sm f a n ∧ sw_sm f a n ≤ 99 * n
  | 0 => ⟨Int.le_refl 0, Int.le_refl 0⟩
  | n + 1 => by
    have i := sw_sm_b h a n
    unfold sw_sm
    split
    · next z => have := h (a + n) z; omega
    · omega
theorem sw_sm_out (f : Nat → Int) {a t : Nat} (h : 60 ≤ a + t) : ∀ n : Nat, sw_sm f a (t + n) = sw_sm f a t
  | 0 => rfl
  | n + 1 => by
    rw [← Nat.add_assoc]
    show sw_sm f a (t + n) + (if a + (t + n) < 60 then f (a + (t + n)) else 0) = _
    rw [if_neg (by omega), sw_sm_out f h n, Int.add_zero]
theorem sw_sm_cong {f g : Nat → Int} (h : ∀ j, j < 60 → f j = g j) (a : Nat) : ∀ n : Nat, sw_sm f a n = sw_sm g a n
  | 0 => rfl
  | n + 1 => by
    unfold sw_sm
    rw [sw_sm_cong h a n]
    split
    · next z => rw [h (a + n) z]
    · rfl
/-- the first of the greatest -/
def sw_wf (S : Int → Int) (w x : Int) : Prop := 0 ≤ x ∧ x + w ≤ 60 ∧ (∀ i, 0 ≤ i → i + w ≤ 60 → S i ≤ S x) ∧ ∀ i, 0 ≤ i → i < x → S i < S x
theorem sw_wf_one {S : Int → Int} {w x y : Int} (h : sw_wf S w x) (k : sw_wf S w y) : x = y := by
  obtain ⟨h1, h2, h3, h4⟩ := h
  obtain ⟨k1, k2, k3, k4⟩ := k
  rcases Int.lt_trichotomy x y with z | z | z
  · have := k4 x h1 z; have := h3 y k1 k2; omega
  · exact z
  · have := h4 y k1 z; have := k3 x h1 h2; omega
theorem lp_wires (σ : sw_S) (hσ : sw_gs σ) (hb : ∀ j, j < 60 → 0 ≤ σ 13 j ∧ σ 13 j ≤ 99) (a w : Int) (ha : 0 ≤ a ∧ a ≤ 200) (hw : 0 ≤ w ∧ w ≤ 60) (Q : Option sw_Vl → sw_S → Prop) (hQ : Q (some (.inl (sw_sm (σ 13) a.toNat w.toNat))) σ) : ∀ (n : Nat) (t : Nat) (lay sm : Int), lay = a + t → (t : Int) ≤ w → sm = sw_sm (σ 13) a.toNat t → 61 - t < n → sw_E sw_ly sw_rho M_X0_wiresIn 9 [(4, .inl lay), (3, .inl sm), (0, .inr (.inr 12)), (1, .inl a), (2, .inl w)] [] σ Q := by
  intro n
  induction n with
  | zero =>
    intro t lay sm hl ht hs hn
    omega
  | succ n ih =>
    intro t lay sm hl ht hs hn
    refine sw_blk k_X0_wiresIn 4 14 [(4, .inl lay), (3, .inl sm), (0, .inr (.inr 12)), (1, .inl a), (2, .inl w)] [.inl (a + w), .inl lay] σ rfl ?_
    refine sw_icmp_ge k_X0_wiresIn rfl (by omega) (by omega) 40 17 (by decide) rfl (fun c1 => ?_) (fun c1 => ?_)
    · refine sw_blk k_X0_wiresIn 1 41 [(4, .inl lay), (3, .inl sm), (0, .inr (.inr 12)), (1, .inl a), (2, .inl w)] [.inl sm] σ rfl ?_
      refine sw_ireturn k_X0_wiresIn rfl rfl ?_
      have e : sw_sm (σ 13) a.toNat w.toNat = sm := by
        rw [hs]
        rcases Int.lt_or_le (t : Int) w with z | z
        · have := sw_sm_out (σ 13) (a := a.toNat) (t := t) (by omega) (w.toNat - t)
          rw [show t + (w.toNat - t) = w.toNat by omega] at this
          exact this
        · rw [show w.toNat = t by omega]
      rw [← e]
      exact hQ
    · refine sw_blk k_X0_wiresIn 2 21 [(4, .inl lay), (3, .inl sm), (0, .inr (.inr 12)), (1, .inl a), (2, .inl w)] [.inl 60, .inl lay] σ rfl ?_
      refine sw_icmp_ge k_X0_wiresIn rfl (by omega) (by decide) 40 24 (by decide) rfl (fun c2 => ?_) (fun c2 => ?_)
      · refine sw_blk k_X0_wiresIn 1 41 [(4, .inl lay), (3, .inl sm), (0, .inr (.inr 12)), (1, .inl a), (2, .inl w)] [.inl sm] σ rfl ?_
        refine sw_ireturn k_X0_wiresIn rfl rfl ?_
        have e : sw_sm (σ 13) a.toNat w.toNat = sm := by
          rw [hs]
          rcases Int.lt_or_le (t : Int) w with z | z
          · have := sw_sm_out (σ 13) (a := a.toNat) (t := t) (by omega) (w.toNat - t)
            rw [show t + (w.toNat - t) = w.toNat by omega] at this
            exact this
          · rw [show w.toNat = t by omega]
        rw [← e]
        exact hQ
      · refine sw_blk k_X0_wiresIn 4 31 [(4, .inl lay), (3, .inl sm), (0, .inr (.inr 12)), (1, .inl a), (2, .inl w)] [.inl lay, .inr (.inr 13), .inl sm] σ rfl ?_
        refine sw_iald k_X0_wiresIn rfl (i := 13) (n := 60) rfl (by decide) (by omega) (by omega) 32 rfl ?_
        refine sw_blk k_X0_wiresIn 4 9 [(4, .inl (lay + 1)), (3, .inl (sm + (σ 13 lay.toNat))), (0, .inr (.inr 12)), (1, .inl a), (2, .inl w)] [] σ rfl ?_
        exact ih (t + 1) _ _ (by omega) (by omega) (by rw [sw_sm, if_pos (by omega), hs, show a.toNat + t = lay.toNat by omega]) (by omega)
theorem sp_wires (σ : sw_S) (hσ : sw_gs σ) (hb : ∀ j, j < 60 → 0 ≤ σ 13 j ∧ σ 13 j ≤ 99) (a w : Int) (ha : 0 ≤ a ∧ a ≤ 200) (hw : 0 ≤ w ∧ w ≤ 60) : sw_Con sw_ly sw_rho M_X0_wiresIn [.inr (.inr 12), .inl a, .inl w] σ (fun r σ' => σ = σ' ∧ r = some (.inl (sw_sm (σ 13) a.toNat w.toNat))) := by
  refine sw_con (by decide) (Nat.le_of_ble_eq_true rfl) ?_
  refine sw_blk k_X0_wiresIn 4 4 [(3, .inl 0), (0, .inr (.inr 12)), (1, .inl a), (2, .inl w)] [.inl 0, .inl a] σ rfl ?_
  refine sw_callS k_X0_wiresIn rfl cS_J9_max_7cf53 ml_X0_21 ⟨by decide, by decide⟩ [.inl a, .inl 0] [] rfl rfl (Nat.le_of_ble_eq_true rfl) 7 rfl (sp_max σ a 0 (by omega) (by decide)) (fun r1 σ1 hq => ?_)
  obtain ⟨rfl, rfl⟩ := hq
  refine sw_blk k_X0_wiresIn 1 9 [(4, .inl (max a 0)), (3, .inl 0), (0, .inr (.inr 12)), (1, .inl a), (2, .inl w)] [] σ rfl ?_
  exact lp_wires σ hσ hb a w ha hw _ ⟨rfl, rfl⟩ 62 0 _ _ (by omega) (by omega) rfl (by omega)
theorem sp_addBroken (σ : sw_S) (hσ : sw_gs σ) (hb : ∀ j, j < 60 → 0 ≤ σ 13 j ∧ σ 13 j ≤ 99) (l k : Int) (hl : 0 ≤ l ∧ l ≤ 59) (hk : 1 ≤ k ∧ k ≤ 99) : sw_Con sw_ly sw_rho M_X0_addBroken [.inr (.inr 12), .inl l, .inl k] σ (fun r σ' => (sw_u σ 13 l.toNat (min (σ 13 l.toNat + k) 99)) = σ' ∧ r = some (.inl (min (σ 13 l.toNat + k) 99))) := by
  refine sw_con (by decide) (Nat.le_of_ble_eq_true rfl) ?_
  refine sw_blk k_X0_addBroken 6 10 [(0, .inr (.inr 12)), (1, .inl l), (2, .inl k)] [.inl l, .inr (.inr 13), .inl l, .inr (.inr 13)] σ rfl ?_
  refine sw_iald k_X0_addBroken rfl (i := 13) (n := 60) rfl (by decide) (by omega) (by omega) 11 rfl ?_
  refine sw_blk k_X0_addBroken 3 15 [(0, .inr (.inr 12)), (1, .inl l), (2, .inl k)] [.inl 99, .inl ((σ 13 l.toNat) + k), .inl l, .inr (.inr 13)] σ rfl ?_
  refine sw_callS k_X0_addBroken rfl cS_J9_min_7cf53 ml_X0_15 ⟨by decide, by decide⟩ [.inl ((σ 13 l.toNat) + k), .inl 99] [.inl l, .inr (.inr 13)] rfl rfl (Nat.le_of_ble_eq_true rfl) 18 rfl (sp_min σ ((σ 13 l.toNat) + k) 99 (by have := hb l.toNat (by omega); omega) (by decide)) (fun r1 σ2 hq3 => ?_)
  obtain ⟨rfl, rfl⟩ := hq3
  refine sw_blk k_X0_addBroken 0 18 [(0, .inr (.inr 12)), (1, .inl l), (2, .inl k)] [.inl (min ((σ 13 l.toNat) + k) 99), .inl l, .inr (.inr 13)] σ rfl ?_
  refine sw_iast k_X0_addBroken rfl (i := 13) (n := 60) rfl (by decide) (by omega) (by omega) 19 rfl ?_
  refine sw_blk k_X0_addBroken 3 24 [(0, .inr (.inr 12)), (1, .inl l), (2, .inl k)] [.inl l, .inr (.inr 13)] (sw_u σ 13 l.toNat (min ((σ 13 l.toNat) + k) 99)) rfl ?_
  refine sw_iald k_X0_addBroken rfl (i := 13) (n := 60) rfl (by decide) (by omega) (by omega) 25 rfl ?_
  refine sw_blk k_X0_addBroken 0 25 [(0, .inr (.inr 12)), (1, .inl l), (2, .inl k)] [.inl ((sw_u σ 13 l.toNat (min ((σ 13 l.toNat) + k) 99)) 13 l.toNat)] (sw_u σ 13 l.toNat (min ((σ 13 l.toNat) + k) 99)) rfl ?_
  refine sw_ireturn k_X0_addBroken rfl rfl ?_
  exact ⟨rfl, congrArg (fun q : Int => some (Sum.inl q)) (sw_u_same _ _ _ _)⟩
theorem lp_worst (σ : sw_S) (hσ : sw_gs σ) (hb : ∀ j, j < 60 → 0 ≤ σ 13 j ∧ σ 13 j ≤ 99) (w : Int) (hw : 1 ≤ w ∧ w ≤ 60) (Q : Option sw_Vl → sw_S → Prop) (hQ : ∀ x, sw_wf (fun i : Int => sw_sm (σ 13) i.toNat w.toNat) w x → Q (some (.inl x)) σ) : ∀ (n : Nat) (lay gr x : Int), 1 ≤ lay → lay + w ≤ 61 → (0 ≤ x ∧ x < lay) → gr = sw_sm (σ 13) x.toNat w.toNat → (∀ i : Int, 0 ≤ i → i < lay → sw_sm (σ 13) i.toNat w.toNat ≤ gr) → (∀ i : Int, 0 ≤ i → i < x → sw_sm (σ 13) i.toNat w.toNat < gr) → (62 - lay).toNat < n → sw_E sw_ly sw_rho M_X0_firstOfWorst 12 [(4, .inl lay), (3, .inl gr), (2, .inl x), (0, .inr (.inr 12)), (1, .inl w)] [] σ Q := by
  intro n
  induction n with
  | zero =>
    intro lay gr x hl hl2 hx hg h3 h4 hn
    omega
  | succ n ih =>
    intro lay gr x hl hl2 hx hg h3 h4 hn
    refine sw_blk k_X0_firstOfWorst 4 18 [(4, .inl lay), (3, .inl gr), (2, .inl x), (0, .inr (.inr 12)), (1, .inl w)] [.inl 60, .inl (lay + w)] σ rfl ?_
    refine sw_icmp_gt k_X0_firstOfWorst rfl (by omega) (by decide) 48 21 (by decide) rfl (fun c1 => ?_) (fun c1 => ?_)
    · refine sw_blk k_X0_firstOfWorst 1 49 [(4, .inl lay), (3, .inl gr), (2, .inl x), (0, .inr (.inr 12)), (1, .inl w)] [.inl x] σ rfl ?_
      refine sw_ireturn k_X0_firstOfWorst rfl rfl ?_
      refine hQ x ⟨hx.1, by omega, fun i i1 i2 => ?_, fun i i1 i2 => ?_⟩
      · have := h3 i i1 (by omega); rw [hg] at this; exact this
      · have := h4 i i1 i2; rw [hg] at this; exact this
    · refine sw_blk k_X0_firstOfWorst 3 25 [(4, .inl lay), (3, .inl gr), (2, .inl x), (0, .inr (.inr 12)), (1, .inl w)] [.inl w, .inl lay, .inr (.inr 12)] σ rfl ?_
      refine sw_callV k_X0_firstOfWorst rfl cV_X0_wiresIn ml_X0_24 ⟨by decide, by decide⟩ 12 rfl rfl [.inl lay, .inl w] [] rfl rfl (Nat.le_of_ble_eq_true rfl) 28 rfl (sp_wires σ hσ hb lay w (by omega) (by omega)) (fun r2 σ3 hq4 => ?_)
      obtain ⟨rfl, rfl⟩ := hq4
      have hbb := sw_sm_b hb (lay : Int).toNat (w : Int).toNat
      refine sw_blk k_X0_firstOfWorst 3 33 [(5, .inl (sw_sm (σ 13) lay.toNat w.toNat)), (4, .inl lay), (3, .inl gr), (2, .inl x), (0, .inr (.inr 12)), (1, .inl w)] [.inl gr, .inl (sw_sm (σ 13) lay.toNat w.toNat)] σ rfl ?_
      refine sw_icmp_le k_X0_firstOfWorst rfl (by omega) (by have := sw_sm_b hb x.toNat w.toNat; omega) 42 36 (by decide) rfl (fun c5 => ?_) (fun c5 => ?_)
      · refine sw_blk k_X0_firstOfWorst 2 12 [(4, .inl (lay + 1)), (5, .inl (sw_sm (σ 13) lay.toNat w.toNat)), (3, .inl gr), (2, .inl x), (0, .inr (.inr 12)), (1, .inl w)] [] σ rfl ?_
        refine sw_Lsub [(4, .inl (lay + 1)), (3, .inl gr), (2, .inl x), (0, .inr (.inr 12)), (1, .inl w)] [0, 2, 3, 4, 5] rfl ?_
        exact ih (lay + 1) gr x (by omega) (by omega) (by omega) hg (fun i i1 i2 => by rcases Int.lt_or_le i lay with z | z; exact h3 i i1 z; (rw [show i = lay by omega]; omega)) h4 (by omega)
      · refine sw_blk k_X0_firstOfWorst 6 12 [(4, .inl (lay + 1)), (2, .inl lay), (3, .inl (sw_sm (σ 13) lay.toNat w.toNat)), (5, .inl (sw_sm (σ 13) lay.toNat w.toNat)), (0, .inr (.inr 12)), (1, .inl w)] [] σ rfl ?_
        refine sw_Lsub [(4, .inl (lay + 1)), (3, .inl (sw_sm (σ 13) lay.toNat w.toNat)), (2, .inl lay), (0, .inr (.inr 12)), (1, .inl w)] [0, 2, 1, 4, 5] rfl ?_
        exact ih (lay + 1) _ lay (by omega) (by omega) (by omega) rfl (fun i i1 i2 => by rcases Int.lt_or_le i lay with z | z; (have := h3 i i1 z; omega); (rw [show i = lay by omega]; omega)) (fun i i1 i2 => by have := h3 i i1 i2; omega) (by omega)
theorem sp_firstOfWorst (σ : sw_S) (hσ : sw_gs σ) (hb : ∀ j, j < 60 → 0 ≤ σ 13 j ∧ σ 13 j ≤ 99) (w : Int) (hw : 1 ≤ w ∧ w ≤ 60) : sw_Con sw_ly sw_rho M_X0_firstOfWorst [.inr (.inr 12), .inl w] σ (fun r σ' => σ = σ' ∧ ∃ x : Int, r = some (.inl x) ∧ sw_wf (fun i : Int => sw_sm (σ 13) i.toNat w.toNat) w x) := by
  refine sw_con (by decide) (Nat.le_of_ble_eq_true rfl) ?_
  refine sw_blk k_X0_firstOfWorst 5 5 [(2, .inl 0), (0, .inr (.inr 12)), (1, .inl w)] [.inl w, .inl 0, .inr (.inr 12)] σ rfl ?_
  refine sw_callV k_X0_firstOfWorst rfl cV_X0_wiresIn ml_X0_24 ⟨by decide, by decide⟩ 12 rfl rfl [.inl 0, .inl w] [] rfl rfl (Nat.le_of_ble_eq_true rfl) 8 rfl (sp_wires σ hσ hb 0 w (by omega) (by omega)) (fun r1 σ2 hq3 => ?_)
  obtain ⟨rfl, rfl⟩ := hq3
  have hbb := sw_sm_b hb (0 : Int).toNat (w : Int).toNat
  refine sw_blk k_X0_firstOfWorst 3 12 [(4, .inl 1), (3, .inl (sw_sm (σ 13) 0 w.toNat)), (2, .inl 0), (0, .inr (.inr 12)), (1, .inl w)] [] σ rfl ?_
  exact lp_worst σ hσ hb w hw _ (fun x hx => ⟨rfl, x, rfl, hx⟩) 63 1 _ 0 (by omega) (by omega) (by omega) rfl (fun i i1 i2 => by rw [show i = 0 by omega]; exact Int.le_refl _) (fun i i1 i2 => by omega) (by omega)
theorem lp_cut (σ : sw_S) (hσ : sw_gs σ) (hb : ∀ j, j < 60 → 0 ≤ σ 13 j ∧ σ 13 j ≤ 99) (k gone : Int) (hk : 1 ≤ k ∧ k ≤ 60) (Q : Option sw_Vl → sw_S → Prop) (hQ : Q (some (.inl gone)) (sw_pf σ 13 (fun j : Nat => if j + k.toNat < 60 then σ 13 (j + k.toNat) else 0) 60)) : ∀ (n : Nat) (i : Nat), i ≤ 60 → 61 - i < n → sw_E sw_ly sw_rho M_X0_cutAway 9 [(3, .inl (i : Int)), (2, .inl gone), (0, .inr (.inr 12)), (1, .inl k)] [] (sw_pf σ 13 (fun j : Nat => if j + k.toNat < 60 then σ 13 (j + k.toNat) else 0) i) Q := by
  intro n
  induction n with
  | zero =>
    intro i hi hn
    omega
  | succ n ih =>
    intro i hi hn
    refine sw_blk k_X0_cutAway 2 12 [(3, .inl (i : Int)), (2, .inl gone), (0, .inr (.inr 12)), (1, .inl k)] [.inl 60, .inl (i : Int)] (sw_pf σ 13 (fun j : Nat => if j + k.toNat < 60 then σ 13 (j + k.toNat) else 0) i) rfl ?_
    refine sw_icmp_ge k_X0_cutAway rfl (by omega) (by decide) 47 15 (by decide) rfl (fun c1 => ?_) (fun c1 => ?_)
    · refine sw_blk k_X0_cutAway 1 48 [(3, .inl (i : Int)), (2, .inl gone), (0, .inr (.inr 12)), (1, .inl k)] [.inl gone] (sw_pf σ 13 (fun j : Nat => if j + k.toNat < 60 then σ 13 (j + k.toNat) else 0) i) rfl ?_
      refine sw_ireturn k_X0_cutAway rfl rfl ?_
      have e : i = 60 := by omega
      subst e
      exact hQ
    · refine sw_blk k_X0_cutAway 7 25 [(3, .inl (i : Int)), (2, .inl gone), (0, .inr (.inr 12)), (1, .inl k)] [.inl 60, .inl ((i : Int) + k), .inl (i : Int), .inr (.inr 13)] (sw_pf σ 13 (fun j : Nat => if j + k.toNat < 60 then σ 13 (j + k.toNat) else 0) i) rfl ?_
      refine sw_icmp_ge k_X0_cutAway rfl (by omega) (by decide) 39 28 (by decide) rfl (fun c2 => ?_) (fun c2 => ?_)
      · refine sw_blk k_X0_cutAway 1 40 [(3, .inl (i : Int)), (2, .inl gone), (0, .inr (.inr 12)), (1, .inl k)] [.inl 0, .inl (i : Int), .inr (.inr 13)] (sw_pf σ 13 (fun j : Nat => if j + k.toNat < 60 then σ 13 (j + k.toNat) else 0) i) rfl ?_
        refine sw_iast k_X0_cutAway rfl (i := 13) (n := 60) rfl (by decide) (by omega) (by omega) 41 rfl ?_
        refine sw_blk k_X0_cutAway 2 9 [(3, .inl ((i : Int) + 1)), (2, .inl gone), (0, .inr (.inr 12)), (1, .inl k)] [] (sw_u (sw_pf σ 13 (fun j : Nat => if j + k.toNat < 60 then σ 13 (j + k.toNat) else 0) i) 13 i 0) rfl ?_
        rw [sw_pf_s σ 13 (fun j : Nat => if j + k.toNat < 60 then σ 13 (j + k.toNat) else 0) (i : Nat) (by first | (rw [if_neg (by omega)]; done) | (rw [if_pos (by omega), show ((i : Int) + k).toNat = i + k.toNat by omega]; exact sw_pf_out σ 13 _ (by omega)))]
        exact ih (i + 1) (by omega) (by omega)
      · refine sw_blk k_X0_cutAway 5 35 [(3, .inl (i : Int)), (2, .inl gone), (0, .inr (.inr 12)), (1, .inl k)] [.inl ((i : Int) + k), .inr (.inr 13), .inl (i : Int), .inr (.inr 13)] (sw_pf σ 13 (fun j : Nat => if j + k.toNat < 60 then σ 13 (j + k.toNat) else 0) i) rfl ?_
        refine sw_iald k_X0_cutAway rfl (i := 13) (n := 60) rfl (by decide) (by omega) (by omega) 36 rfl ?_
        refine sw_blk k_X0_cutAway 1 40 [(3, .inl (i : Int)), (2, .inl gone), (0, .inr (.inr 12)), (1, .inl k)] [.inl ((sw_pf σ 13 (fun j : Nat => if j + k.toNat < 60 then σ 13 (j + k.toNat) else 0) i) 13 (((i : Int) + k).toNat)), .inl (i : Int), .inr (.inr 13)] (sw_pf σ 13 (fun j : Nat => if j + k.toNat < 60 then σ 13 (j + k.toNat) else 0) i) rfl ?_
        refine sw_iast k_X0_cutAway rfl (i := 13) (n := 60) rfl (by decide) (by omega) (by omega) 41 rfl ?_
        refine sw_blk k_X0_cutAway 2 9 [(3, .inl ((i : Int) + 1)), (2, .inl gone), (0, .inr (.inr 12)), (1, .inl k)] [] (sw_u (sw_pf σ 13 (fun j : Nat => if j + k.toNat < 60 then σ 13 (j + k.toNat) else 0) i) 13 i ((sw_pf σ 13 (fun j : Nat => if j + k.toNat < 60 then σ 13 (j + k.toNat) else 0) i) 13 (((i : Int) + k).toNat))) rfl ?_
        rw [sw_pf_s σ 13 (fun j : Nat => if j + k.toNat < 60 then σ 13 (j + k.toNat) else 0) (i : Nat) (by first | (rw [if_neg (by omega)]; done) | (rw [if_pos (by omega), show ((i : Int) + k).toNat = i + k.toNat by omega]; exact sw_pf_out σ 13 _ (by omega)))]
        exact ih (i + 1) (by omega) (by omega)
theorem sp_cutAway (σ : sw_S) (hσ : sw_gs σ) (hb : ∀ j, j < 60 → 0 ≤ σ 13 j ∧ σ 13 j ≤ 99) (k : Int) (hk : 1 ≤ k ∧ k ≤ 60) : sw_Con sw_ly sw_rho M_X0_cutAway [.inr (.inr 12), .inl k] σ (fun r σ' => sw_pf σ 13 (fun j : Nat => if j + k.toNat < 60 then σ 13 (j + k.toNat) else 0) 60 = σ' ∧ r = some (.inl (sw_sm (σ 13) 0 k.toNat))) := by
  refine sw_con (by decide) (Nat.le_of_ble_eq_true rfl) ?_
  refine sw_blk k_X0_cutAway 3 3 [(0, .inr (.inr 12)), (1, .inl k)] [.inl k, .inl 0, .inr (.inr 12)] σ rfl ?_
  refine sw_callV k_X0_cutAway rfl cV_X0_wiresIn ml_X0_24 ⟨by decide, by decide⟩ 12 rfl rfl [.inl 0, .inl k] [] rfl rfl (Nat.le_of_ble_eq_true rfl) 6 rfl (sp_wires σ hσ hb 0 k (by omega) (by omega)) (fun r1 σ2 hq3 => ?_)
  obtain ⟨rfl, rfl⟩ := hq3
  have hbb := sw_sm_b hb (0 : Int).toNat (k : Int).toNat
  refine sw_blk k_X0_cutAway 3 9 [(3, .inl 0), (2, .inl (sw_sm (σ 13) 0 k.toNat)), (0, .inr (.inr 12)), (1, .inl k)] [] σ rfl ?_
  have h := lp_cut σ hσ hb k (sw_sm (σ 13) 0 k.toNat) hk (fun r σ' => sw_pf σ 13 (fun j : Nat => if j + k.toNat < 60 then σ 13 (j + k.toNat) else 0) 60 = σ' ∧ r = some (.inl (sw_sm (σ 13) 0 k.toNat))) ⟨rfl, rfl⟩ 62 0 (by omega) (by omega)
  rw [sw_pf_0] at h
  exact h
theorem lp_mend (σ : sw_S) (hσ : sw_gs σ) (hb : ∀ j, j < 60 → 0 ≤ σ 13 j ∧ σ 13 j ≤ 99) (w m : Int) (hw : 1 ≤ w ∧ w ≤ 60) (gm : sw_g m) (Q : Option sw_Vl → sw_S → Prop) (hQ : ∀ x : Int, ((x = 0 ∧ ∀ i : Int, 0 ≤ i → i ≤ 59 → sw_sm (σ 13) i.toNat w.toNat ≤ m) ∨ (1 ≤ x ∧ x ≤ 60 ∧ m < sw_sm (σ 13) (x - 1).toNat w.toNat ∧ ∀ i : Int, x ≤ i → i ≤ 59 → sw_sm (σ 13) i.toNat w.toNat ≤ m)) → Q (some (.inl x)) σ) : ∀ (n : Nat) (lay : Int), -1 ≤ lay → lay ≤ 59 → (∀ i : Int, lay < i → i ≤ 59 → sw_sm (σ 13) i.toNat w.toNat ≤ m) → (lay + 1).toNat < n → sw_E sw_ly sw_rho M_X0_fewestToCut 3 [(3, .inl lay), (0, .inr (.inr 12)), (1, .inl w), (2, .inl m)] [] σ Q := by
  intro n
  induction n with
  | zero =>
    intro lay hl hl2 h3 hn
    omega
  | succ n ih =>
    intro lay hl hl2 h3 hn
    refine sw_blk k_X0_fewestToCut 1 4 [(3, .inl lay), (0, .inr (.inr 12)), (1, .inl w), (2, .inl m)] [.inl lay] σ rfl ?_
    refine sw_if_lt k_X0_fewestToCut rfl (by omega) 27 7 (by decide) rfl (fun c1 => ?_) (fun c1 => ?_)
    · refine sw_blk k_X0_fewestToCut 1 28 [(3, .inl lay), (0, .inr (.inr 12)), (1, .inl w), (2, .inl m)] [.inl 0] σ rfl ?_
      refine sw_ireturn k_X0_fewestToCut rfl rfl ?_
      exact hQ 0 (Or.inl ⟨rfl, fun i i1 i2 => h3 i (by omega) i2⟩)
    · refine sw_blk k_X0_fewestToCut 3 10 [(3, .inl lay), (0, .inr (.inr 12)), (1, .inl w), (2, .inl m)] [.inl w, .inl lay, .inr (.inr 12)] σ rfl ?_
      refine sw_callV k_X0_fewestToCut rfl cV_X0_wiresIn ml_X0_24 ⟨by decide, by decide⟩ 12 rfl rfl [.inl lay, .inl w] [] rfl rfl (Nat.le_of_ble_eq_true rfl) 13 rfl (sp_wires σ hσ hb lay w (by omega) (by omega)) (fun r2 σ3 hq4 => ?_)
      obtain ⟨rfl, rfl⟩ := hq4
      have hbb := sw_sm_b hb (lay : Int).toNat (w : Int).toNat
      refine sw_blk k_X0_fewestToCut 1 14 [(3, .inl lay), (0, .inr (.inr 12)), (1, .inl w), (2, .inl m)] [.inl m, .inl (sw_sm (σ 13) lay.toNat w.toNat)] σ rfl ?_
      refine sw_icmp_le k_X0_fewestToCut rfl (by omega) (by omega) 21 17 (by decide) rfl (fun c5 => ?_) (fun c5 => ?_)
      · refine sw_blk k_X0_fewestToCut 2 3 [(3, .inl (lay + (-1))), (0, .inr (.inr 12)), (1, .inl w), (2, .inl m)] [] σ rfl ?_
        exact ih (lay + (-1)) (by omega) (by omega) (fun i i1 i2 => by rcases Int.lt_or_le lay i with z | z; exact h3 i z i2; (rw [show i = lay by omega]; omega)) (by omega)
      · refine sw_blk k_X0_fewestToCut 3 20 [(3, .inl lay), (0, .inr (.inr 12)), (1, .inl w), (2, .inl m)] [.inl (lay + 1)] σ rfl ?_
        refine sw_ireturn k_X0_fewestToCut rfl rfl ?_
        exact hQ (lay + 1) (Or.inr ⟨by omega, by omega, by rw [show lay + 1 - 1 = lay by omega]; omega, fun i i1 i2 => h3 i (by omega) i2⟩)
theorem sp_fewest (σ : sw_S) (hσ : sw_gs σ) (hb : ∀ j, j < 60 → 0 ≤ σ 13 j ∧ σ 13 j ≤ 99) (w m : Int) (hw : 1 ≤ w ∧ w ≤ 60) (gm : sw_g m) : sw_Con sw_ly sw_rho M_X0_fewestToCut [.inr (.inr 12), .inl w, .inl m] σ (fun r σ' => σ = σ' ∧ ∃ x : Int, r = some (.inl x) ∧ ((x = 0 ∧ ∀ i : Int, 0 ≤ i → i ≤ 59 → sw_sm (σ 13) i.toNat w.toNat ≤ m) ∨ (1 ≤ x ∧ x ≤ 60 ∧ m < sw_sm (σ 13) (x - 1).toNat w.toNat ∧ ∀ i : Int, x ≤ i → i ≤ 59 → sw_sm (σ 13) i.toNat w.toNat ≤ m))) := by
  refine sw_con (by decide) (Nat.le_of_ble_eq_true rfl) ?_
  refine sw_blk k_X0_fewestToCut 2 3 [(3, .inl 59), (0, .inr (.inr 12)), (1, .inl w), (2, .inl m)] [] σ rfl ?_
  exact lp_mend σ hσ hb w m hw gm _ (fun x hx => ⟨rfl, x, rfl, hx⟩) 61 59 (by omega) (by omega) (fun i i1 i2 => by omega) (by omega)
theorem lp_take0 (σ : sw_S) (hσ : sw_gs σ) (k : Int) (hk : 0 ≤ k ∧ k ≤ 60) (Q : Option sw_Vl → sw_S → Prop) (hQ : Q none (sw_pf σ 13 (fun j : Nat => max 0 (min (σ 16 j) 99)) k.toNat)) : ∀ (n : Nat) (i : Nat), (i : Int) ≤ k → 61 - i < n → sw_E sw_ly sw_rho M_X0_take 2 [(3, .inl (i : Int)), (0, .inr (.inr 12)), (1, .inr (.inr 16)), (2, .inl k)] [] (sw_pf σ 13 (fun j : Nat => max 0 (min (σ 16 j) 99)) i) Q := by
  intro n
  induction n with
  | zero =>
    intro i hi hn
    omega
  | succ n ih =>
    intro i hi hn
    refine sw_blk k_X0_take 2 4 [(3, .inl (i : Int)), (0, .inr (.inr 12)), (1, .inr (.inr 16)), (2, .inl k)] [.inl k, .inl (i : Int)] (sw_pf σ 13 (fun j : Nat => max 0 (min (σ 16 j) 99)) i) rfl ?_
    refine sw_icmp_ge k_X0_take rfl (by omega) (by omega) 43 7 (by decide) rfl (fun c1 => ?_) (fun c1 => ?_)
    · refine sw_vreturn k_X0_take rfl rfl ?_
      have e : k.toNat = i := by omega
      rw [e] at hQ
      exact hQ
    · refine sw_blk k_X0_take 2 10 [(3, .inl (i : Int)), (0, .inr (.inr 12)), (1, .inr (.inr 16)), (2, .inl k)] [.inl 60, .inl (i : Int)] (sw_pf σ 13 (fun j : Nat => max 0 (min (σ 16 j) 99)) i) rfl ?_
      refine sw_icmp_ge k_X0_take rfl (by omega) (by decide) 43 13 (by decide) rfl (fun c2 => ?_) (fun c2 => ?_)
      · refine sw_vreturn k_X0_take rfl rfl ?_
        have e : k.toNat = i := by omega
        rw [e] at hQ
        exact hQ
      · refine sw_blk k_X0_take 3 16 [(3, .inl (i : Int)), (0, .inr (.inr 12)), (1, .inr (.inr 16)), (2, .inl k)] [.inl 60, .inl (i : Int)] (sw_pf σ 13 (fun j : Nat => max 0 (min (σ 16 j) 99)) i) rfl ?_
        refine sw_icmp_ge k_X0_take rfl (by omega) (by decide) 43 19 (by decide) rfl (fun c3 => ?_) (fun c3 => ?_)
        · refine sw_vreturn k_X0_take rfl rfl ?_
          have e : k.toNat = i := by omega
          rw [e] at hQ
          exact hQ
        · refine sw_blk k_X0_take 6 27 [(3, .inl (i : Int)), (0, .inr (.inr 12)), (1, .inr (.inr 16)), (2, .inl k)] [.inl (i : Int), .inr (.inr 16), .inl 0, .inl (i : Int), .inr (.inr 13)] (sw_pf σ 13 (fun j : Nat => max 0 (min (σ 16 j) 99)) i) rfl ?_
          refine sw_iald k_X0_take rfl (i := 16) (n := 60) rfl (by decide) (by omega) (by omega) 28 rfl ?_
          refine sw_blk k_X0_take 1 30 [(3, .inl (i : Int)), (0, .inr (.inr 12)), (1, .inr (.inr 16)), (2, .inl k)] [.inl 99, .inl ((sw_pf σ 13 (fun j : Nat => max 0 (min (σ 16 j) 99)) i) 16 i), .inl 0, .inl (i : Int), .inr (.inr 13)] (sw_pf σ 13 (fun j : Nat => max 0 (min (σ 16 j) 99)) i) rfl ?_
          refine sw_callS k_X0_take rfl cS_J9_min_7cf53 ml_X0_15 ⟨by decide, by decide⟩ [.inl ((sw_pf σ 13 (fun j : Nat => max 0 (min (σ 16 j) 99)) i) 16 i), .inl 99] [.inl 0, .inl (i : Int), .inr (.inr 13)] rfl rfl (Nat.le_of_ble_eq_true rfl) 33 rfl (sp_min (sw_pf σ 13 (fun j : Nat => max 0 (min (σ 16 j) 99)) i) ((sw_pf σ 13 (fun j : Nat => max 0 (min (σ 16 j) 99)) i) 16 i) 99 (by have := hσ 16 i; show sw_g (σ 16 i); exact this) (by decide)) (fun r4 σ5 hq6 => ?_)
          obtain ⟨rfl, rfl⟩ := hq6
          refine sw_blk k_X0_take 0 33 [(3, .inl (i : Int)), (0, .inr (.inr 12)), (1, .inr (.inr 16)), (2, .inl k)] [.inl (min ((sw_pf σ 13 (fun j : Nat => max 0 (min (σ 16 j) 99)) i) 16 i) 99), .inl 0, .inl (i : Int), .inr (.inr 13)] (sw_pf σ 13 (fun j : Nat => max 0 (min (σ 16 j) 99)) i) rfl ?_
          refine sw_callS k_X0_take rfl cS_J9_max_7cf53 ml_X0_21 ⟨by decide, by decide⟩ [.inl 0, .inl (min ((sw_pf σ 13 (fun j : Nat => max 0 (min (σ 16 j) 99)) i) 16 i) 99)] [.inl (i : Int), .inr (.inr 13)] rfl rfl (Nat.le_of_ble_eq_true rfl) 36 rfl (sp_max (sw_pf σ 13 (fun j : Nat => max 0 (min (σ 16 j) 99)) i) 0 (min ((sw_pf σ 13 (fun j : Nat => max 0 (min (σ 16 j) 99)) i) 16 i) 99) (by decide) (by have := hσ 16 i; show sw_g (min (σ 16 i) 99); omega)) (fun r7 σ8 hq9 => ?_)
          obtain ⟨rfl, rfl⟩ := hq9
          refine sw_blk k_X0_take 0 36 [(3, .inl (i : Int)), (0, .inr (.inr 12)), (1, .inr (.inr 16)), (2, .inl k)] [.inl (max 0 (min ((sw_pf σ 13 (fun j : Nat => max 0 (min (σ 16 j) 99)) i) 16 i) 99)), .inl (i : Int), .inr (.inr 13)] (sw_pf σ 13 (fun j : Nat => max 0 (min (σ 16 j) 99)) i) rfl ?_
          refine sw_iast k_X0_take rfl (i := 13) (n := 60) rfl (by decide) (by omega) (by omega) 37 rfl ?_
          refine sw_blk k_X0_take 2 2 [(3, .inl ((i : Int) + 1)), (0, .inr (.inr 12)), (1, .inr (.inr 16)), (2, .inl k)] [] (sw_u (sw_pf σ 13 (fun j : Nat => max 0 (min (σ 16 j) 99)) i) 13 i (max 0 (min ((sw_pf σ 13 (fun j : Nat => max 0 (min (σ 16 j) 99)) i) 16 i) 99))) rfl ?_
          rw [sw_pf_s σ 13 (fun j : Nat => max 0 (min (σ 16 j) 99)) i (by rw [sw_pf_row σ _ _ (by decide)])]
          exact ih (i + 1) (by omega) (by omega)
theorem sp_take0 (σ : sw_S) (hσ : sw_gs σ) (k : Int) (hk : 0 ≤ k ∧ k ≤ 60) : sw_Con sw_ly sw_rho M_X0_take [.inr (.inr 12), .inr (.inr 16), .inl k] σ (fun r σ' => sw_pf σ 13 (fun j : Nat => max 0 (min (σ 16 j) 99)) k.toNat = σ' ∧ r = none) := by
  refine sw_con (by decide) (Nat.le_of_ble_eq_true rfl) ?_
  refine sw_blk k_X0_take 2 2 [(3, .inl 0), (0, .inr (.inr 12)), (1, .inr (.inr 16)), (2, .inl k)] [] σ rfl ?_
  have h := lp_take0 σ hσ k hk (fun r σ' => sw_pf σ 13 (fun j : Nat => max 0 (min (σ 16 j) 99)) k.toNat = σ' ∧ r = none) ⟨rfl, rfl⟩ 62 0 (by omega) (by omega)
  rw [sw_pf_0] at h
  exact h
theorem lp_take1 (σ : sw_S) (hσ : sw_gs σ) (k : Int) (hk : 0 ≤ k ∧ k ≤ 60) (Q : Option sw_Vl → sw_S → Prop) (hQ : Q none (sw_pf σ 13 (fun j : Nat => max 0 (min (σ 18 j) 99)) k.toNat)) : ∀ (n : Nat) (i : Nat), (i : Int) ≤ k → 61 - i < n → sw_E sw_ly sw_rho M_X0_take 2 [(3, .inl (i : Int)), (0, .inr (.inr 12)), (1, .inr (.inr 18)), (2, .inl k)] [] (sw_pf σ 13 (fun j : Nat => max 0 (min (σ 18 j) 99)) i) Q := by
  intro n
  induction n with
  | zero =>
    intro i hi hn
    omega
  | succ n ih =>
    intro i hi hn
    refine sw_blk k_X0_take 2 4 [(3, .inl (i : Int)), (0, .inr (.inr 12)), (1, .inr (.inr 18)), (2, .inl k)] [.inl k, .inl (i : Int)] (sw_pf σ 13 (fun j : Nat => max 0 (min (σ 18 j) 99)) i) rfl ?_
    refine sw_icmp_ge k_X0_take rfl (by omega) (by omega) 43 7 (by decide) rfl (fun c1 => ?_) (fun c1 => ?_)
    · refine sw_vreturn k_X0_take rfl rfl ?_
      have e : k.toNat = i := by omega
      rw [e] at hQ
      exact hQ
    · refine sw_blk k_X0_take 2 10 [(3, .inl (i : Int)), (0, .inr (.inr 12)), (1, .inr (.inr 18)), (2, .inl k)] [.inl 60, .inl (i : Int)] (sw_pf σ 13 (fun j : Nat => max 0 (min (σ 18 j) 99)) i) rfl ?_
      refine sw_icmp_ge k_X0_take rfl (by omega) (by decide) 43 13 (by decide) rfl (fun c2 => ?_) (fun c2 => ?_)
      · refine sw_vreturn k_X0_take rfl rfl ?_
        have e : k.toNat = i := by omega
        rw [e] at hQ
        exact hQ
      · refine sw_blk k_X0_take 3 16 [(3, .inl (i : Int)), (0, .inr (.inr 12)), (1, .inr (.inr 18)), (2, .inl k)] [.inl 60, .inl (i : Int)] (sw_pf σ 13 (fun j : Nat => max 0 (min (σ 18 j) 99)) i) rfl ?_
        refine sw_icmp_ge k_X0_take rfl (by omega) (by decide) 43 19 (by decide) rfl (fun c3 => ?_) (fun c3 => ?_)
        · refine sw_vreturn k_X0_take rfl rfl ?_
          have e : k.toNat = i := by omega
          rw [e] at hQ
          exact hQ
        · refine sw_blk k_X0_take 6 27 [(3, .inl (i : Int)), (0, .inr (.inr 12)), (1, .inr (.inr 18)), (2, .inl k)] [.inl (i : Int), .inr (.inr 18), .inl 0, .inl (i : Int), .inr (.inr 13)] (sw_pf σ 13 (fun j : Nat => max 0 (min (σ 18 j) 99)) i) rfl ?_
          refine sw_iald k_X0_take rfl (i := 18) (n := 60) rfl (by decide) (by omega) (by omega) 28 rfl ?_
          refine sw_blk k_X0_take 1 30 [(3, .inl (i : Int)), (0, .inr (.inr 12)), (1, .inr (.inr 18)), (2, .inl k)] [.inl 99, .inl ((sw_pf σ 13 (fun j : Nat => max 0 (min (σ 18 j) 99)) i) 18 i), .inl 0, .inl (i : Int), .inr (.inr 13)] (sw_pf σ 13 (fun j : Nat => max 0 (min (σ 18 j) 99)) i) rfl ?_
          refine sw_callS k_X0_take rfl cS_J9_min_7cf53 ml_X0_15 ⟨by decide, by decide⟩ [.inl ((sw_pf σ 13 (fun j : Nat => max 0 (min (σ 18 j) 99)) i) 18 i), .inl 99] [.inl 0, .inl (i : Int), .inr (.inr 13)] rfl rfl (Nat.le_of_ble_eq_true rfl) 33 rfl (sp_min (sw_pf σ 13 (fun j : Nat => max 0 (min (σ 18 j) 99)) i) ((sw_pf σ 13 (fun j : Nat => max 0 (min (σ 18 j) 99)) i) 18 i) 99 (by have := hσ 18 i; show sw_g (σ 18 i); exact this) (by decide)) (fun r4 σ5 hq6 => ?_)
          obtain ⟨rfl, rfl⟩ := hq6
          refine sw_blk k_X0_take 0 33 [(3, .inl (i : Int)), (0, .inr (.inr 12)), (1, .inr (.inr 18)), (2, .inl k)] [.inl (min ((sw_pf σ 13 (fun j : Nat => max 0 (min (σ 18 j) 99)) i) 18 i) 99), .inl 0, .inl (i : Int), .inr (.inr 13)] (sw_pf σ 13 (fun j : Nat => max 0 (min (σ 18 j) 99)) i) rfl ?_
          refine sw_callS k_X0_take rfl cS_J9_max_7cf53 ml_X0_21 ⟨by decide, by decide⟩ [.inl 0, .inl (min ((sw_pf σ 13 (fun j : Nat => max 0 (min (σ 18 j) 99)) i) 18 i) 99)] [.inl (i : Int), .inr (.inr 13)] rfl rfl (Nat.le_of_ble_eq_true rfl) 36 rfl (sp_max (sw_pf σ 13 (fun j : Nat => max 0 (min (σ 18 j) 99)) i) 0 (min ((sw_pf σ 13 (fun j : Nat => max 0 (min (σ 18 j) 99)) i) 18 i) 99) (by decide) (by have := hσ 18 i; show sw_g (min (σ 18 i) 99); omega)) (fun r7 σ8 hq9 => ?_)
          obtain ⟨rfl, rfl⟩ := hq9
          refine sw_blk k_X0_take 0 36 [(3, .inl (i : Int)), (0, .inr (.inr 12)), (1, .inr (.inr 18)), (2, .inl k)] [.inl (max 0 (min ((sw_pf σ 13 (fun j : Nat => max 0 (min (σ 18 j) 99)) i) 18 i) 99)), .inl (i : Int), .inr (.inr 13)] (sw_pf σ 13 (fun j : Nat => max 0 (min (σ 18 j) 99)) i) rfl ?_
          refine sw_iast k_X0_take rfl (i := 13) (n := 60) rfl (by decide) (by omega) (by omega) 37 rfl ?_
          refine sw_blk k_X0_take 2 2 [(3, .inl ((i : Int) + 1)), (0, .inr (.inr 12)), (1, .inr (.inr 18)), (2, .inl k)] [] (sw_u (sw_pf σ 13 (fun j : Nat => max 0 (min (σ 18 j) 99)) i) 13 i (max 0 (min ((sw_pf σ 13 (fun j : Nat => max 0 (min (σ 18 j) 99)) i) 18 i) 99))) rfl ?_
          rw [sw_pf_s σ 13 (fun j : Nat => max 0 (min (σ 18 j) 99)) i (by rw [sw_pf_row σ _ _ (by decide)])]
          exact ih (i + 1) (by omega) (by omega)
theorem sp_take1 (σ : sw_S) (hσ : sw_gs σ) (k : Int) (hk : 0 ≤ k ∧ k ≤ 60) : sw_Con sw_ly sw_rho M_X0_take [.inr (.inr 12), .inr (.inr 18), .inl k] σ (fun r σ' => sw_pf σ 13 (fun j : Nat => max 0 (min (σ 18 j) 99)) k.toNat = σ' ∧ r = none) := by
  refine sw_con (by decide) (Nat.le_of_ble_eq_true rfl) ?_
  refine sw_blk k_X0_take 2 2 [(3, .inl 0), (0, .inr (.inr 12)), (1, .inr (.inr 18)), (2, .inl k)] [] σ rfl ?_
  have h := lp_take1 σ hσ k hk (fun r σ' => sw_pf σ 13 (fun j : Nat => max 0 (min (σ 18 j) 99)) k.toNat = σ' ∧ r = none) ⟨rfl, rfl⟩ 62 0 (by omega) (by omega)
  rw [sw_pf_0] at h
  exact h
theorem lp_take2 (σ : sw_S) (hσ : sw_gs σ) (k : Int) (hk : 0 ≤ k ∧ k ≤ 60) (Q : Option sw_Vl → sw_S → Prop) (hQ : Q none (sw_pf σ 13 (fun j : Nat => max 0 (min (σ 20 j) 99)) k.toNat)) : ∀ (n : Nat) (i : Nat), (i : Int) ≤ k → 61 - i < n → sw_E sw_ly sw_rho M_X0_take 2 [(3, .inl (i : Int)), (0, .inr (.inr 12)), (1, .inr (.inr 20)), (2, .inl k)] [] (sw_pf σ 13 (fun j : Nat => max 0 (min (σ 20 j) 99)) i) Q := by
  intro n
  induction n with
  | zero =>
    intro i hi hn
    omega
  | succ n ih =>
    intro i hi hn
    refine sw_blk k_X0_take 2 4 [(3, .inl (i : Int)), (0, .inr (.inr 12)), (1, .inr (.inr 20)), (2, .inl k)] [.inl k, .inl (i : Int)] (sw_pf σ 13 (fun j : Nat => max 0 (min (σ 20 j) 99)) i) rfl ?_
    refine sw_icmp_ge k_X0_take rfl (by omega) (by omega) 43 7 (by decide) rfl (fun c1 => ?_) (fun c1 => ?_)
    · refine sw_vreturn k_X0_take rfl rfl ?_
      have e : k.toNat = i := by omega
      rw [e] at hQ
      exact hQ
    · refine sw_blk k_X0_take 2 10 [(3, .inl (i : Int)), (0, .inr (.inr 12)), (1, .inr (.inr 20)), (2, .inl k)] [.inl 60, .inl (i : Int)] (sw_pf σ 13 (fun j : Nat => max 0 (min (σ 20 j) 99)) i) rfl ?_
      refine sw_icmp_ge k_X0_take rfl (by omega) (by decide) 43 13 (by decide) rfl (fun c2 => ?_) (fun c2 => ?_)
      · refine sw_vreturn k_X0_take rfl rfl ?_
        have e : k.toNat = i := by omega
        rw [e] at hQ
        exact hQ
      · refine sw_blk k_X0_take 3 16 [(3, .inl (i : Int)), (0, .inr (.inr 12)), (1, .inr (.inr 20)), (2, .inl k)] [.inl 60, .inl (i : Int)] (sw_pf σ 13 (fun j : Nat => max 0 (min (σ 20 j) 99)) i) rfl ?_
        refine sw_icmp_ge k_X0_take rfl (by omega) (by decide) 43 19 (by decide) rfl (fun c3 => ?_) (fun c3 => ?_)
        · refine sw_vreturn k_X0_take rfl rfl ?_
          have e : k.toNat = i := by omega
          rw [e] at hQ
          exact hQ
        · refine sw_blk k_X0_take 6 27 [(3, .inl (i : Int)), (0, .inr (.inr 12)), (1, .inr (.inr 20)), (2, .inl k)] [.inl (i : Int), .inr (.inr 20), .inl 0, .inl (i : Int), .inr (.inr 13)] (sw_pf σ 13 (fun j : Nat => max 0 (min (σ 20 j) 99)) i) rfl ?_
          refine sw_iald k_X0_take rfl (i := 20) (n := 60) rfl (by decide) (by omega) (by omega) 28 rfl ?_
          refine sw_blk k_X0_take 1 30 [(3, .inl (i : Int)), (0, .inr (.inr 12)), (1, .inr (.inr 20)), (2, .inl k)] [.inl 99, .inl ((sw_pf σ 13 (fun j : Nat => max 0 (min (σ 20 j) 99)) i) 20 i), .inl 0, .inl (i : Int), .inr (.inr 13)] (sw_pf σ 13 (fun j : Nat => max 0 (min (σ 20 j) 99)) i) rfl ?_
          refine sw_callS k_X0_take rfl cS_J9_min_7cf53 ml_X0_15 ⟨by decide, by decide⟩ [.inl ((sw_pf σ 13 (fun j : Nat => max 0 (min (σ 20 j) 99)) i) 20 i), .inl 99] [.inl 0, .inl (i : Int), .inr (.inr 13)] rfl rfl (Nat.le_of_ble_eq_true rfl) 33 rfl (sp_min (sw_pf σ 13 (fun j : Nat => max 0 (min (σ 20 j) 99)) i) ((sw_pf σ 13 (fun j : Nat => max 0 (min (σ 20 j) 99)) i) 20 i) 99 (by have := hσ 20 i; show sw_g (σ 20 i); exact this) (by decide)) (fun r4 σ5 hq6 => ?_)
          obtain ⟨rfl, rfl⟩ := hq6
          refine sw_blk k_X0_take 0 33 [(3, .inl (i : Int)), (0, .inr (.inr 12)), (1, .inr (.inr 20)), (2, .inl k)] [.inl (min ((sw_pf σ 13 (fun j : Nat => max 0 (min (σ 20 j) 99)) i) 20 i) 99), .inl 0, .inl (i : Int), .inr (.inr 13)] (sw_pf σ 13 (fun j : Nat => max 0 (min (σ 20 j) 99)) i) rfl ?_
          refine sw_callS k_X0_take rfl cS_J9_max_7cf53 ml_X0_21 ⟨by decide, by decide⟩ [.inl 0, .inl (min ((sw_pf σ 13 (fun j : Nat => max 0 (min (σ 20 j) 99)) i) 20 i) 99)] [.inl (i : Int), .inr (.inr 13)] rfl rfl (Nat.le_of_ble_eq_true rfl) 36 rfl (sp_max (sw_pf σ 13 (fun j : Nat => max 0 (min (σ 20 j) 99)) i) 0 (min ((sw_pf σ 13 (fun j : Nat => max 0 (min (σ 20 j) 99)) i) 20 i) 99) (by decide) (by have := hσ 20 i; show sw_g (min (σ 20 i) 99); omega)) (fun r7 σ8 hq9 => ?_)
          obtain ⟨rfl, rfl⟩ := hq9
          refine sw_blk k_X0_take 0 36 [(3, .inl (i : Int)), (0, .inr (.inr 12)), (1, .inr (.inr 20)), (2, .inl k)] [.inl (max 0 (min ((sw_pf σ 13 (fun j : Nat => max 0 (min (σ 20 j) 99)) i) 20 i) 99)), .inl (i : Int), .inr (.inr 13)] (sw_pf σ 13 (fun j : Nat => max 0 (min (σ 20 j) 99)) i) rfl ?_
          refine sw_iast k_X0_take rfl (i := 13) (n := 60) rfl (by decide) (by omega) (by omega) 37 rfl ?_
          refine sw_blk k_X0_take 2 2 [(3, .inl ((i : Int) + 1)), (0, .inr (.inr 12)), (1, .inr (.inr 20)), (2, .inl k)] [] (sw_u (sw_pf σ 13 (fun j : Nat => max 0 (min (σ 20 j) 99)) i) 13 i (max 0 (min ((sw_pf σ 13 (fun j : Nat => max 0 (min (σ 20 j) 99)) i) 20 i) 99))) rfl ?_
          rw [sw_pf_s σ 13 (fun j : Nat => max 0 (min (σ 20 j) 99)) i (by rw [sw_pf_row σ _ _ (by decide)])]
          exact ih (i + 1) (by omega) (by omega)
theorem sp_take2 (σ : sw_S) (hσ : sw_gs σ) (k : Int) (hk : 0 ≤ k ∧ k ≤ 60) : sw_Con sw_ly sw_rho M_X0_take [.inr (.inr 12), .inr (.inr 20), .inl k] σ (fun r σ' => sw_pf σ 13 (fun j : Nat => max 0 (min (σ 20 j) 99)) k.toNat = σ' ∧ r = none) := by
  refine sw_con (by decide) (Nat.le_of_ble_eq_true rfl) ?_
  refine sw_blk k_X0_take 2 2 [(3, .inl 0), (0, .inr (.inr 12)), (1, .inr (.inr 20)), (2, .inl k)] [] σ rfl ?_
  have h := lp_take2 σ hσ k hk (fun r σ' => sw_pf σ 13 (fun j : Nat => max 0 (min (σ 20 j) 99)) k.toNat = σ' ∧ r = none) ⟨rfl, rfl⟩ 62 0 (by omega) (by omega)
  rw [sw_pf_0] at h
  exact h
theorem lp_take3 (σ : sw_S) (hσ : sw_gs σ) (k : Int) (hk : 0 ≤ k ∧ k ≤ 60) (Q : Option sw_Vl → sw_S → Prop) (hQ : Q none (sw_pf σ 13 (fun j : Nat => max 0 (min (σ 22 j) 99)) k.toNat)) : ∀ (n : Nat) (i : Nat), (i : Int) ≤ k → 61 - i < n → sw_E sw_ly sw_rho M_X0_take 2 [(3, .inl (i : Int)), (0, .inr (.inr 12)), (1, .inr (.inr 22)), (2, .inl k)] [] (sw_pf σ 13 (fun j : Nat => max 0 (min (σ 22 j) 99)) i) Q := by
  intro n
  induction n with
  | zero =>
    intro i hi hn
    omega
  | succ n ih =>
    intro i hi hn
    refine sw_blk k_X0_take 2 4 [(3, .inl (i : Int)), (0, .inr (.inr 12)), (1, .inr (.inr 22)), (2, .inl k)] [.inl k, .inl (i : Int)] (sw_pf σ 13 (fun j : Nat => max 0 (min (σ 22 j) 99)) i) rfl ?_
    refine sw_icmp_ge k_X0_take rfl (by omega) (by omega) 43 7 (by decide) rfl (fun c1 => ?_) (fun c1 => ?_)
    · refine sw_vreturn k_X0_take rfl rfl ?_
      have e : k.toNat = i := by omega
      rw [e] at hQ
      exact hQ
    · refine sw_blk k_X0_take 2 10 [(3, .inl (i : Int)), (0, .inr (.inr 12)), (1, .inr (.inr 22)), (2, .inl k)] [.inl 60, .inl (i : Int)] (sw_pf σ 13 (fun j : Nat => max 0 (min (σ 22 j) 99)) i) rfl ?_
      refine sw_icmp_ge k_X0_take rfl (by omega) (by decide) 43 13 (by decide) rfl (fun c2 => ?_) (fun c2 => ?_)
      · refine sw_vreturn k_X0_take rfl rfl ?_
        have e : k.toNat = i := by omega
        rw [e] at hQ
        exact hQ
      · refine sw_blk k_X0_take 3 16 [(3, .inl (i : Int)), (0, .inr (.inr 12)), (1, .inr (.inr 22)), (2, .inl k)] [.inl 60, .inl (i : Int)] (sw_pf σ 13 (fun j : Nat => max 0 (min (σ 22 j) 99)) i) rfl ?_
        refine sw_icmp_ge k_X0_take rfl (by omega) (by decide) 43 19 (by decide) rfl (fun c3 => ?_) (fun c3 => ?_)
        · refine sw_vreturn k_X0_take rfl rfl ?_
          have e : k.toNat = i := by omega
          rw [e] at hQ
          exact hQ
        · refine sw_blk k_X0_take 6 27 [(3, .inl (i : Int)), (0, .inr (.inr 12)), (1, .inr (.inr 22)), (2, .inl k)] [.inl (i : Int), .inr (.inr 22), .inl 0, .inl (i : Int), .inr (.inr 13)] (sw_pf σ 13 (fun j : Nat => max 0 (min (σ 22 j) 99)) i) rfl ?_
          refine sw_iald k_X0_take rfl (i := 22) (n := 60) rfl (by decide) (by omega) (by omega) 28 rfl ?_
          refine sw_blk k_X0_take 1 30 [(3, .inl (i : Int)), (0, .inr (.inr 12)), (1, .inr (.inr 22)), (2, .inl k)] [.inl 99, .inl ((sw_pf σ 13 (fun j : Nat => max 0 (min (σ 22 j) 99)) i) 22 i), .inl 0, .inl (i : Int), .inr (.inr 13)] (sw_pf σ 13 (fun j : Nat => max 0 (min (σ 22 j) 99)) i) rfl ?_
          refine sw_callS k_X0_take rfl cS_J9_min_7cf53 ml_X0_15 ⟨by decide, by decide⟩ [.inl ((sw_pf σ 13 (fun j : Nat => max 0 (min (σ 22 j) 99)) i) 22 i), .inl 99] [.inl 0, .inl (i : Int), .inr (.inr 13)] rfl rfl (Nat.le_of_ble_eq_true rfl) 33 rfl (sp_min (sw_pf σ 13 (fun j : Nat => max 0 (min (σ 22 j) 99)) i) ((sw_pf σ 13 (fun j : Nat => max 0 (min (σ 22 j) 99)) i) 22 i) 99 (by have := hσ 22 i; show sw_g (σ 22 i); exact this) (by decide)) (fun r4 σ5 hq6 => ?_)
          obtain ⟨rfl, rfl⟩ := hq6
          refine sw_blk k_X0_take 0 33 [(3, .inl (i : Int)), (0, .inr (.inr 12)), (1, .inr (.inr 22)), (2, .inl k)] [.inl (min ((sw_pf σ 13 (fun j : Nat => max 0 (min (σ 22 j) 99)) i) 22 i) 99), .inl 0, .inl (i : Int), .inr (.inr 13)] (sw_pf σ 13 (fun j : Nat => max 0 (min (σ 22 j) 99)) i) rfl ?_
          refine sw_callS k_X0_take rfl cS_J9_max_7cf53 ml_X0_21 ⟨by decide, by decide⟩ [.inl 0, .inl (min ((sw_pf σ 13 (fun j : Nat => max 0 (min (σ 22 j) 99)) i) 22 i) 99)] [.inl (i : Int), .inr (.inr 13)] rfl rfl (Nat.le_of_ble_eq_true rfl) 36 rfl (sp_max (sw_pf σ 13 (fun j : Nat => max 0 (min (σ 22 j) 99)) i) 0 (min ((sw_pf σ 13 (fun j : Nat => max 0 (min (σ 22 j) 99)) i) 22 i) 99) (by decide) (by have := hσ 22 i; show sw_g (min (σ 22 i) 99); omega)) (fun r7 σ8 hq9 => ?_)
          obtain ⟨rfl, rfl⟩ := hq9
          refine sw_blk k_X0_take 0 36 [(3, .inl (i : Int)), (0, .inr (.inr 12)), (1, .inr (.inr 22)), (2, .inl k)] [.inl (max 0 (min ((sw_pf σ 13 (fun j : Nat => max 0 (min (σ 22 j) 99)) i) 22 i) 99)), .inl (i : Int), .inr (.inr 13)] (sw_pf σ 13 (fun j : Nat => max 0 (min (σ 22 j) 99)) i) rfl ?_
          refine sw_iast k_X0_take rfl (i := 13) (n := 60) rfl (by decide) (by omega) (by omega) 37 rfl ?_
          refine sw_blk k_X0_take 2 2 [(3, .inl ((i : Int) + 1)), (0, .inr (.inr 12)), (1, .inr (.inr 22)), (2, .inl k)] [] (sw_u (sw_pf σ 13 (fun j : Nat => max 0 (min (σ 22 j) 99)) i) 13 i (max 0 (min ((sw_pf σ 13 (fun j : Nat => max 0 (min (σ 22 j) 99)) i) 22 i) 99))) rfl ?_
          rw [sw_pf_s σ 13 (fun j : Nat => max 0 (min (σ 22 j) 99)) i (by rw [sw_pf_row σ _ _ (by decide)])]
          exact ih (i + 1) (by omega) (by omega)
theorem sp_take3 (σ : sw_S) (hσ : sw_gs σ) (k : Int) (hk : 0 ≤ k ∧ k ≤ 60) : sw_Con sw_ly sw_rho M_X0_take [.inr (.inr 12), .inr (.inr 22), .inl k] σ (fun r σ' => sw_pf σ 13 (fun j : Nat => max 0 (min (σ 22 j) 99)) k.toNat = σ' ∧ r = none) := by
  refine sw_con (by decide) (Nat.le_of_ble_eq_true rfl) ?_
  refine sw_blk k_X0_take 2 2 [(3, .inl 0), (0, .inr (.inr 12)), (1, .inr (.inr 22)), (2, .inl k)] [] σ rfl ?_
  have h := lp_take3 σ hσ k hk (fun r σ' => sw_pf σ 13 (fun j : Nat => max 0 (min (σ 22 j) 99)) k.toNat = σ' ∧ r = none) ⟨rfl, rfl⟩ 62 0 (by omega) (by omega)
  rw [sw_pf_0] at h
  exact h
theorem sp_srenew0 (σ : sw_S) (f k : Int) : sw_Con sw_ly sw_rho M_X4_renew [.inr (.inr 15), .inl f, .inl k] σ (fun r σ' => (sw_fl (sw_u (sw_u (sw_u σ 15 2 f) 15 3 k) 15 1 0) 16 60 0) = σ' ∧ r = none) := by
  refine sw_con (by decide) (Nat.le_of_ble_eq_true rfl) ?_
  refine sw_blk k_X4_renew 12 20 [(0, .inr (.inr 15)), (1, .inl f), (2, .inl k)] [.inl 0, .inr (.inr 16)] (sw_u (sw_u (sw_u σ 15 2 f) 15 3 k) 15 1 0) rfl ?_
  refine sw_callS k_X4_renew rfl cS_J7_fill_53178 ml_X4_26 ⟨by decide, by decide⟩ [.inr (.inr 16), .inl 0] [] rfl rfl (Nat.le_of_ble_eq_true rfl) 23 rfl (sp_fill (sw_u (sw_u (sw_u σ 15 2 f) 15 3 k) 15 1 0) 16 60 0 rfl (by decide)) (fun r1 σ2 hq3 => ?_)
  obtain ⟨rfl, rfl⟩ := hq3
  refine sw_blk k_X4_renew 0 23 [(0, .inr (.inr 15)), (1, .inl f), (2, .inl k)] [] (sw_fl (sw_u (sw_u (sw_u σ 15 2 f) 15 3 k) 15 1 0) 16 60 0) rfl ?_
  refine sw_vreturn k_X4_renew rfl rfl ?_
  exact ⟨rfl, rfl⟩
theorem sp_store0 (σ : sw_S) (hσ : sw_gs σ) (i v : Int) (hi : 0 ≤ i ∧ i < 60) (hf : 0 ≤ σ 15 2 ∧ σ 15 2 ≤ 2) : sw_Con sw_ly sw_rho M_X4_store [.inr (.inr 15), .inl i, .inl v] σ (fun r σ' => (sw_u σ 16 i.toNat (if σ 15 2 = 0 then sw_b v else if σ 15 2 = 1 then sw_h v else v)) = σ' ∧ r = none) := by
  refine sw_con (by decide) (Nat.le_of_ble_eq_true rfl) ?_
  refine sw_blk k_X4_store 2 4 [(0, .inr (.inr 15)), (1, .inl i), (2, .inl v)] [.inl (σ 15 2)] σ rfl ?_
  have h3 : σ 15 2 = 0 ∨ σ 15 2 = 1 ∨ σ 15 2 = 2 := by omega
  rcases h3 with h3 | h3 | h3 <;> rw [h3]
  · refine sw_look k_X4_store rfl (by decide) (by decide) rfl 32 (by decide) ?_
    refine sw_blk k_X4_store 5 39 [(0, .inr (.inr 15)), (1, .inl i), (2, .inl v)] [.inl (sw_b v), .inl i, .inr (.inr 16)] σ rfl ?_
    refine sw_iast k_X4_store rfl (i := 16) (n := 60) rfl (by decide) (by omega) (by omega) 40 rfl ?_
    refine sw_blk k_X4_store 1 61 [(0, .inr (.inr 15)), (1, .inl i), (2, .inl v)] [] (sw_u σ 16 i.toNat (sw_b v)) rfl ?_
    refine sw_vreturn k_X4_store rfl rfl ?_
    exact ⟨rfl, rfl⟩
  · refine sw_look k_X4_store rfl (by decide) (by decide) rfl 43 (by decide) ?_
    refine sw_blk k_X4_store 5 50 [(0, .inr (.inr 15)), (1, .inl i), (2, .inl v)] [.inl (sw_h v), .inl i, .inr (.inr 16)] σ rfl ?_
    refine sw_iast k_X4_store rfl (i := 16) (n := 60) rfl (by decide) (by omega) (by omega) 51 rfl ?_
    refine sw_blk k_X4_store 1 61 [(0, .inr (.inr 15)), (1, .inl i), (2, .inl v)] [] (sw_u σ 16 i.toNat (sw_h v)) rfl ?_
    refine sw_vreturn k_X4_store rfl rfl ?_
    exact ⟨rfl, rfl⟩
  · refine sw_look k_X4_store rfl (by decide) (by decide) rfl 54 (by decide) ?_
    refine sw_blk k_X4_store 4 60 [(0, .inr (.inr 15)), (1, .inl i), (2, .inl v)] [.inl v, .inl i, .inr (.inr 16)] σ rfl ?_
    refine sw_iast k_X4_store rfl (i := 16) (n := 60) rfl (by decide) (by omega) (by omega) 61 rfl ?_
    refine sw_blk k_X4_store 0 61 [(0, .inr (.inr 15)), (1, .inl i), (2, .inl v)] [] (sw_u σ 16 i.toNat v) rfl ?_
    refine sw_vreturn k_X4_store rfl rfl ?_
    exact ⟨rfl, rfl⟩
theorem sp_wrong0 (σ : sw_S) (hσ : sw_gs σ) (f i : Int) (gf : sw_g f) (gi : sw_g i) (hs0 : 0 ≤ σ 15 3) (hs1 : σ 15 3 ≤ 60) : sw_Con sw_ly sw_rho M_X7_wrongOfItem [.inr (.inr 15), .inl f, .inl i] σ (fun r σ' => σ = σ' ∧ r = some (.inl ((if σ 15 1 = 0 then (if σ 15 2 = f then (if 0 ≤ i ∧ i < σ 15 3 then 0 else 2) else 3) else 1)))) := by
  refine sw_con (by decide) (Nat.le_of_ble_eq_true rfl) ?_
  refine sw_blk k_X7_wrongOfItem 2 4 [(0, .inr (.inr 15)), (1, .inl f), (2, .inl i)] [.inl (σ 15 1)] σ rfl ?_
  refine sw_if_eq k_X7_wrongOfItem rfl (hσ 15 _) 9 7 (by decide) rfl (fun c1 => ?_) (fun c1 => ?_)
  · refine sw_blk k_X7_wrongOfItem 3 14 [(0, .inr (.inr 15)), (1, .inl f), (2, .inl i)] [.inl f, .inl (σ 15 2)] σ rfl ?_
    refine sw_icmp_eq k_X7_wrongOfItem rfl (hσ 15 _) (by omega) 19 17 (by decide) rfl (fun c2 => ?_) (fun c2 => ?_)
    · refine sw_blk k_X7_wrongOfItem 3 22 [(0, .inr (.inr 15)), (1, .inl f), (2, .inl i)] [.inl 1, .inl i, .inr (.inr 15)] σ rfl ?_
      refine sw_callV k_X7_wrongOfItem rfl cV_X4_hasItems ml_X7_251 ⟨by decide, by decide⟩ 15 rfl rfl [.inl i, .inl 1] [] rfl rfl (Nat.le_of_ble_eq_true rfl) 25 rfl (sp_hasItems0 σ i 1 (by omega) (by decide) (by omega) (by omega)) (fun r4 σ5 hq6 => ?_)
      obtain ⟨rfl, ⟨p3, rfl⟩ | ⟨p3, rfl⟩⟩ := hq6
      · refine sw_blk k_X7_wrongOfItem 0 25 [(0, .inr (.inr 15)), (1, .inl f), (2, .inl i)] [.inl 1] σ rfl ?_
        refine sw_if_eq k_X7_wrongOfItem rfl (by decide) 32 28 (by decide) rfl (fun c => absurd c (by decide)) (fun _ => ?_)
        refine sw_blk k_X7_wrongOfItem 2 33 [(0, .inr (.inr 15)), (1, .inl f), (2, .inl i)] [.inl 0] σ rfl ?_
        refine sw_ireturn k_X7_wrongOfItem rfl rfl ?_
        exact ⟨rfl, congrArg (fun q : Int => some (Sum.inl q)) (show (0 : Int) = (if σ 15 1 = 0 then (if σ 15 2 = f then (if 0 ≤ i ∧ i < σ 15 3 then 0 else 2) else 3) else 1) from by omega)⟩
      · refine sw_blk k_X7_wrongOfItem 0 25 [(0, .inr (.inr 15)), (1, .inl f), (2, .inl i)] [.inl 0] σ rfl ?_
        refine sw_if_eq k_X7_wrongOfItem rfl (by decide) 32 28 (by decide) rfl (fun _ => ?_) (fun c => absurd (by decide) c)
        refine sw_blk k_X7_wrongOfItem 1 33 [(0, .inr (.inr 15)), (1, .inl f), (2, .inl i)] [.inl 2] σ rfl ?_
        refine sw_ireturn k_X7_wrongOfItem rfl rfl ?_
        exact ⟨rfl, congrArg (fun q : Int => some (Sum.inl q)) (show (2 : Int) = (if σ 15 1 = 0 then (if σ 15 2 = f then (if 0 ≤ i ∧ i < σ 15 3 then 0 else 2) else 3) else 1) from by omega)⟩
    · refine sw_blk k_X7_wrongOfItem 1 18 [(0, .inr (.inr 15)), (1, .inl f), (2, .inl i)] [.inl 3] σ rfl ?_
      refine sw_ireturn k_X7_wrongOfItem rfl rfl ?_
      exact ⟨rfl, congrArg (fun q : Int => some (Sum.inl q)) (show (3 : Int) = (if σ 15 1 = 0 then (if σ 15 2 = f then (if 0 ≤ i ∧ i < σ 15 3 then 0 else 2) else 3) else 1) from by omega)⟩
  · refine sw_blk k_X7_wrongOfItem 1 8 [(0, .inr (.inr 15)), (1, .inl f), (2, .inl i)] [.inl 1] σ rfl ?_
    refine sw_ireturn k_X7_wrongOfItem rfl rfl ?_
    exact ⟨rfl, congrArg (fun q : Int => some (Sum.inl q)) (show (1 : Int) = (if σ 15 1 = 0 then (if σ 15 2 = f then (if 0 ≤ i ∧ i < σ 15 3 then 0 else 2) else 3) else 1) from by omega)⟩
theorem sp_srenew1 (σ : sw_S) (f k : Int) : sw_Con sw_ly sw_rho M_X4_renew [.inr (.inr 17), .inl f, .inl k] σ (fun r σ' => (sw_fl (sw_u (sw_u (sw_u σ 17 2 f) 17 3 k) 17 1 0) 18 60 0) = σ' ∧ r = none) := by
  refine sw_con (by decide) (Nat.le_of_ble_eq_true rfl) ?_
  refine sw_blk k_X4_renew 12 20 [(0, .inr (.inr 17)), (1, .inl f), (2, .inl k)] [.inl 0, .inr (.inr 18)] (sw_u (sw_u (sw_u σ 17 2 f) 17 3 k) 17 1 0) rfl ?_
  refine sw_callS k_X4_renew rfl cS_J7_fill_53178 ml_X4_26 ⟨by decide, by decide⟩ [.inr (.inr 18), .inl 0] [] rfl rfl (Nat.le_of_ble_eq_true rfl) 23 rfl (sp_fill (sw_u (sw_u (sw_u σ 17 2 f) 17 3 k) 17 1 0) 18 60 0 rfl (by decide)) (fun r1 σ2 hq3 => ?_)
  obtain ⟨rfl, rfl⟩ := hq3
  refine sw_blk k_X4_renew 0 23 [(0, .inr (.inr 17)), (1, .inl f), (2, .inl k)] [] (sw_fl (sw_u (sw_u (sw_u σ 17 2 f) 17 3 k) 17 1 0) 18 60 0) rfl ?_
  refine sw_vreturn k_X4_renew rfl rfl ?_
  exact ⟨rfl, rfl⟩
theorem sp_store1 (σ : sw_S) (hσ : sw_gs σ) (i v : Int) (hi : 0 ≤ i ∧ i < 60) (hf : 0 ≤ σ 17 2 ∧ σ 17 2 ≤ 2) : sw_Con sw_ly sw_rho M_X4_store [.inr (.inr 17), .inl i, .inl v] σ (fun r σ' => (sw_u σ 18 i.toNat (if σ 17 2 = 0 then sw_b v else if σ 17 2 = 1 then sw_h v else v)) = σ' ∧ r = none) := by
  refine sw_con (by decide) (Nat.le_of_ble_eq_true rfl) ?_
  refine sw_blk k_X4_store 2 4 [(0, .inr (.inr 17)), (1, .inl i), (2, .inl v)] [.inl (σ 17 2)] σ rfl ?_
  have h3 : σ 17 2 = 0 ∨ σ 17 2 = 1 ∨ σ 17 2 = 2 := by omega
  rcases h3 with h3 | h3 | h3 <;> rw [h3]
  · refine sw_look k_X4_store rfl (by decide) (by decide) rfl 32 (by decide) ?_
    refine sw_blk k_X4_store 5 39 [(0, .inr (.inr 17)), (1, .inl i), (2, .inl v)] [.inl (sw_b v), .inl i, .inr (.inr 18)] σ rfl ?_
    refine sw_iast k_X4_store rfl (i := 18) (n := 60) rfl (by decide) (by omega) (by omega) 40 rfl ?_
    refine sw_blk k_X4_store 1 61 [(0, .inr (.inr 17)), (1, .inl i), (2, .inl v)] [] (sw_u σ 18 i.toNat (sw_b v)) rfl ?_
    refine sw_vreturn k_X4_store rfl rfl ?_
    exact ⟨rfl, rfl⟩
  · refine sw_look k_X4_store rfl (by decide) (by decide) rfl 43 (by decide) ?_
    refine sw_blk k_X4_store 5 50 [(0, .inr (.inr 17)), (1, .inl i), (2, .inl v)] [.inl (sw_h v), .inl i, .inr (.inr 18)] σ rfl ?_
    refine sw_iast k_X4_store rfl (i := 18) (n := 60) rfl (by decide) (by omega) (by omega) 51 rfl ?_
    refine sw_blk k_X4_store 1 61 [(0, .inr (.inr 17)), (1, .inl i), (2, .inl v)] [] (sw_u σ 18 i.toNat (sw_h v)) rfl ?_
    refine sw_vreturn k_X4_store rfl rfl ?_
    exact ⟨rfl, rfl⟩
  · refine sw_look k_X4_store rfl (by decide) (by decide) rfl 54 (by decide) ?_
    refine sw_blk k_X4_store 4 60 [(0, .inr (.inr 17)), (1, .inl i), (2, .inl v)] [.inl v, .inl i, .inr (.inr 18)] σ rfl ?_
    refine sw_iast k_X4_store rfl (i := 18) (n := 60) rfl (by decide) (by omega) (by omega) 61 rfl ?_
    refine sw_blk k_X4_store 0 61 [(0, .inr (.inr 17)), (1, .inl i), (2, .inl v)] [] (sw_u σ 18 i.toNat v) rfl ?_
    refine sw_vreturn k_X4_store rfl rfl ?_
    exact ⟨rfl, rfl⟩
theorem sp_wrong1 (σ : sw_S) (hσ : sw_gs σ) (f i : Int) (gf : sw_g f) (gi : sw_g i) (hs0 : 0 ≤ σ 17 3) (hs1 : σ 17 3 ≤ 60) : sw_Con sw_ly sw_rho M_X7_wrongOfItem [.inr (.inr 17), .inl f, .inl i] σ (fun r σ' => σ = σ' ∧ r = some (.inl ((if σ 17 1 = 0 then (if σ 17 2 = f then (if 0 ≤ i ∧ i < σ 17 3 then 0 else 2) else 3) else 1)))) := by
  refine sw_con (by decide) (Nat.le_of_ble_eq_true rfl) ?_
  refine sw_blk k_X7_wrongOfItem 2 4 [(0, .inr (.inr 17)), (1, .inl f), (2, .inl i)] [.inl (σ 17 1)] σ rfl ?_
  refine sw_if_eq k_X7_wrongOfItem rfl (hσ 17 _) 9 7 (by decide) rfl (fun c1 => ?_) (fun c1 => ?_)
  · refine sw_blk k_X7_wrongOfItem 3 14 [(0, .inr (.inr 17)), (1, .inl f), (2, .inl i)] [.inl f, .inl (σ 17 2)] σ rfl ?_
    refine sw_icmp_eq k_X7_wrongOfItem rfl (hσ 17 _) (by omega) 19 17 (by decide) rfl (fun c2 => ?_) (fun c2 => ?_)
    · refine sw_blk k_X7_wrongOfItem 3 22 [(0, .inr (.inr 17)), (1, .inl f), (2, .inl i)] [.inl 1, .inl i, .inr (.inr 17)] σ rfl ?_
      refine sw_callV k_X7_wrongOfItem rfl cV_X4_hasItems ml_X7_251 ⟨by decide, by decide⟩ 17 rfl rfl [.inl i, .inl 1] [] rfl rfl (Nat.le_of_ble_eq_true rfl) 25 rfl (sp_hasItems1 σ i 1 (by omega) (by decide) (by omega) (by omega)) (fun r4 σ5 hq6 => ?_)
      obtain ⟨rfl, ⟨p3, rfl⟩ | ⟨p3, rfl⟩⟩ := hq6
      · refine sw_blk k_X7_wrongOfItem 0 25 [(0, .inr (.inr 17)), (1, .inl f), (2, .inl i)] [.inl 1] σ rfl ?_
        refine sw_if_eq k_X7_wrongOfItem rfl (by decide) 32 28 (by decide) rfl (fun c => absurd c (by decide)) (fun _ => ?_)
        refine sw_blk k_X7_wrongOfItem 2 33 [(0, .inr (.inr 17)), (1, .inl f), (2, .inl i)] [.inl 0] σ rfl ?_
        refine sw_ireturn k_X7_wrongOfItem rfl rfl ?_
        exact ⟨rfl, congrArg (fun q : Int => some (Sum.inl q)) (show (0 : Int) = (if σ 17 1 = 0 then (if σ 17 2 = f then (if 0 ≤ i ∧ i < σ 17 3 then 0 else 2) else 3) else 1) from by omega)⟩
      · refine sw_blk k_X7_wrongOfItem 0 25 [(0, .inr (.inr 17)), (1, .inl f), (2, .inl i)] [.inl 0] σ rfl ?_
        refine sw_if_eq k_X7_wrongOfItem rfl (by decide) 32 28 (by decide) rfl (fun _ => ?_) (fun c => absurd (by decide) c)
        refine sw_blk k_X7_wrongOfItem 1 33 [(0, .inr (.inr 17)), (1, .inl f), (2, .inl i)] [.inl 2] σ rfl ?_
        refine sw_ireturn k_X7_wrongOfItem rfl rfl ?_
        exact ⟨rfl, congrArg (fun q : Int => some (Sum.inl q)) (show (2 : Int) = (if σ 17 1 = 0 then (if σ 17 2 = f then (if 0 ≤ i ∧ i < σ 17 3 then 0 else 2) else 3) else 1) from by omega)⟩
    · refine sw_blk k_X7_wrongOfItem 1 18 [(0, .inr (.inr 17)), (1, .inl f), (2, .inl i)] [.inl 3] σ rfl ?_
      refine sw_ireturn k_X7_wrongOfItem rfl rfl ?_
      exact ⟨rfl, congrArg (fun q : Int => some (Sum.inl q)) (show (3 : Int) = (if σ 17 1 = 0 then (if σ 17 2 = f then (if 0 ≤ i ∧ i < σ 17 3 then 0 else 2) else 3) else 1) from by omega)⟩
  · refine sw_blk k_X7_wrongOfItem 1 8 [(0, .inr (.inr 17)), (1, .inl f), (2, .inl i)] [.inl 1] σ rfl ?_
    refine sw_ireturn k_X7_wrongOfItem rfl rfl ?_
    exact ⟨rfl, congrArg (fun q : Int => some (Sum.inl q)) (show (1 : Int) = (if σ 17 1 = 0 then (if σ 17 2 = f then (if 0 ≤ i ∧ i < σ 17 3 then 0 else 2) else 3) else 1) from by omega)⟩
theorem sp_srenew2 (σ : sw_S) (f k : Int) : sw_Con sw_ly sw_rho M_X4_renew [.inr (.inr 19), .inl f, .inl k] σ (fun r σ' => (sw_fl (sw_u (sw_u (sw_u σ 19 2 f) 19 3 k) 19 1 0) 20 60 0) = σ' ∧ r = none) := by
  refine sw_con (by decide) (Nat.le_of_ble_eq_true rfl) ?_
  refine sw_blk k_X4_renew 12 20 [(0, .inr (.inr 19)), (1, .inl f), (2, .inl k)] [.inl 0, .inr (.inr 20)] (sw_u (sw_u (sw_u σ 19 2 f) 19 3 k) 19 1 0) rfl ?_
  refine sw_callS k_X4_renew rfl cS_J7_fill_53178 ml_X4_26 ⟨by decide, by decide⟩ [.inr (.inr 20), .inl 0] [] rfl rfl (Nat.le_of_ble_eq_true rfl) 23 rfl (sp_fill (sw_u (sw_u (sw_u σ 19 2 f) 19 3 k) 19 1 0) 20 60 0 rfl (by decide)) (fun r1 σ2 hq3 => ?_)
  obtain ⟨rfl, rfl⟩ := hq3
  refine sw_blk k_X4_renew 0 23 [(0, .inr (.inr 19)), (1, .inl f), (2, .inl k)] [] (sw_fl (sw_u (sw_u (sw_u σ 19 2 f) 19 3 k) 19 1 0) 20 60 0) rfl ?_
  refine sw_vreturn k_X4_renew rfl rfl ?_
  exact ⟨rfl, rfl⟩
theorem sp_store2 (σ : sw_S) (hσ : sw_gs σ) (i v : Int) (hi : 0 ≤ i ∧ i < 60) (hf : 0 ≤ σ 19 2 ∧ σ 19 2 ≤ 2) : sw_Con sw_ly sw_rho M_X4_store [.inr (.inr 19), .inl i, .inl v] σ (fun r σ' => (sw_u σ 20 i.toNat (if σ 19 2 = 0 then sw_b v else if σ 19 2 = 1 then sw_h v else v)) = σ' ∧ r = none) := by
  refine sw_con (by decide) (Nat.le_of_ble_eq_true rfl) ?_
  refine sw_blk k_X4_store 2 4 [(0, .inr (.inr 19)), (1, .inl i), (2, .inl v)] [.inl (σ 19 2)] σ rfl ?_
  have h3 : σ 19 2 = 0 ∨ σ 19 2 = 1 ∨ σ 19 2 = 2 := by omega
  rcases h3 with h3 | h3 | h3 <;> rw [h3]
  · refine sw_look k_X4_store rfl (by decide) (by decide) rfl 32 (by decide) ?_
    refine sw_blk k_X4_store 5 39 [(0, .inr (.inr 19)), (1, .inl i), (2, .inl v)] [.inl (sw_b v), .inl i, .inr (.inr 20)] σ rfl ?_
    refine sw_iast k_X4_store rfl (i := 20) (n := 60) rfl (by decide) (by omega) (by omega) 40 rfl ?_
    refine sw_blk k_X4_store 1 61 [(0, .inr (.inr 19)), (1, .inl i), (2, .inl v)] [] (sw_u σ 20 i.toNat (sw_b v)) rfl ?_
    refine sw_vreturn k_X4_store rfl rfl ?_
    exact ⟨rfl, rfl⟩
  · refine sw_look k_X4_store rfl (by decide) (by decide) rfl 43 (by decide) ?_
    refine sw_blk k_X4_store 5 50 [(0, .inr (.inr 19)), (1, .inl i), (2, .inl v)] [.inl (sw_h v), .inl i, .inr (.inr 20)] σ rfl ?_
    refine sw_iast k_X4_store rfl (i := 20) (n := 60) rfl (by decide) (by omega) (by omega) 51 rfl ?_
    refine sw_blk k_X4_store 1 61 [(0, .inr (.inr 19)), (1, .inl i), (2, .inl v)] [] (sw_u σ 20 i.toNat (sw_h v)) rfl ?_
    refine sw_vreturn k_X4_store rfl rfl ?_
    exact ⟨rfl, rfl⟩
  · refine sw_look k_X4_store rfl (by decide) (by decide) rfl 54 (by decide) ?_
    refine sw_blk k_X4_store 4 60 [(0, .inr (.inr 19)), (1, .inl i), (2, .inl v)] [.inl v, .inl i, .inr (.inr 20)] σ rfl ?_
    refine sw_iast k_X4_store rfl (i := 20) (n := 60) rfl (by decide) (by omega) (by omega) 61 rfl ?_
    refine sw_blk k_X4_store 0 61 [(0, .inr (.inr 19)), (1, .inl i), (2, .inl v)] [] (sw_u σ 20 i.toNat v) rfl ?_
    refine sw_vreturn k_X4_store rfl rfl ?_
    exact ⟨rfl, rfl⟩
theorem sp_wrong2 (σ : sw_S) (hσ : sw_gs σ) (f i : Int) (gf : sw_g f) (gi : sw_g i) (hs0 : 0 ≤ σ 19 3) (hs1 : σ 19 3 ≤ 60) : sw_Con sw_ly sw_rho M_X7_wrongOfItem [.inr (.inr 19), .inl f, .inl i] σ (fun r σ' => σ = σ' ∧ r = some (.inl ((if σ 19 1 = 0 then (if σ 19 2 = f then (if 0 ≤ i ∧ i < σ 19 3 then 0 else 2) else 3) else 1)))) := by
  refine sw_con (by decide) (Nat.le_of_ble_eq_true rfl) ?_
  refine sw_blk k_X7_wrongOfItem 2 4 [(0, .inr (.inr 19)), (1, .inl f), (2, .inl i)] [.inl (σ 19 1)] σ rfl ?_
  refine sw_if_eq k_X7_wrongOfItem rfl (hσ 19 _) 9 7 (by decide) rfl (fun c1 => ?_) (fun c1 => ?_)
  · refine sw_blk k_X7_wrongOfItem 3 14 [(0, .inr (.inr 19)), (1, .inl f), (2, .inl i)] [.inl f, .inl (σ 19 2)] σ rfl ?_
    refine sw_icmp_eq k_X7_wrongOfItem rfl (hσ 19 _) (by omega) 19 17 (by decide) rfl (fun c2 => ?_) (fun c2 => ?_)
    · refine sw_blk k_X7_wrongOfItem 3 22 [(0, .inr (.inr 19)), (1, .inl f), (2, .inl i)] [.inl 1, .inl i, .inr (.inr 19)] σ rfl ?_
      refine sw_callV k_X7_wrongOfItem rfl cV_X4_hasItems ml_X7_251 ⟨by decide, by decide⟩ 19 rfl rfl [.inl i, .inl 1] [] rfl rfl (Nat.le_of_ble_eq_true rfl) 25 rfl (sp_hasItems2 σ i 1 (by omega) (by decide) (by omega) (by omega)) (fun r4 σ5 hq6 => ?_)
      obtain ⟨rfl, ⟨p3, rfl⟩ | ⟨p3, rfl⟩⟩ := hq6
      · refine sw_blk k_X7_wrongOfItem 0 25 [(0, .inr (.inr 19)), (1, .inl f), (2, .inl i)] [.inl 1] σ rfl ?_
        refine sw_if_eq k_X7_wrongOfItem rfl (by decide) 32 28 (by decide) rfl (fun c => absurd c (by decide)) (fun _ => ?_)
        refine sw_blk k_X7_wrongOfItem 2 33 [(0, .inr (.inr 19)), (1, .inl f), (2, .inl i)] [.inl 0] σ rfl ?_
        refine sw_ireturn k_X7_wrongOfItem rfl rfl ?_
        exact ⟨rfl, congrArg (fun q : Int => some (Sum.inl q)) (show (0 : Int) = (if σ 19 1 = 0 then (if σ 19 2 = f then (if 0 ≤ i ∧ i < σ 19 3 then 0 else 2) else 3) else 1) from by omega)⟩
      · refine sw_blk k_X7_wrongOfItem 0 25 [(0, .inr (.inr 19)), (1, .inl f), (2, .inl i)] [.inl 0] σ rfl ?_
        refine sw_if_eq k_X7_wrongOfItem rfl (by decide) 32 28 (by decide) rfl (fun _ => ?_) (fun c => absurd (by decide) c)
        refine sw_blk k_X7_wrongOfItem 1 33 [(0, .inr (.inr 19)), (1, .inl f), (2, .inl i)] [.inl 2] σ rfl ?_
        refine sw_ireturn k_X7_wrongOfItem rfl rfl ?_
        exact ⟨rfl, congrArg (fun q : Int => some (Sum.inl q)) (show (2 : Int) = (if σ 19 1 = 0 then (if σ 19 2 = f then (if 0 ≤ i ∧ i < σ 19 3 then 0 else 2) else 3) else 1) from by omega)⟩
    · refine sw_blk k_X7_wrongOfItem 1 18 [(0, .inr (.inr 19)), (1, .inl f), (2, .inl i)] [.inl 3] σ rfl ?_
      refine sw_ireturn k_X7_wrongOfItem rfl rfl ?_
      exact ⟨rfl, congrArg (fun q : Int => some (Sum.inl q)) (show (3 : Int) = (if σ 19 1 = 0 then (if σ 19 2 = f then (if 0 ≤ i ∧ i < σ 19 3 then 0 else 2) else 3) else 1) from by omega)⟩
  · refine sw_blk k_X7_wrongOfItem 1 8 [(0, .inr (.inr 19)), (1, .inl f), (2, .inl i)] [.inl 1] σ rfl ?_
    refine sw_ireturn k_X7_wrongOfItem rfl rfl ?_
    exact ⟨rfl, congrArg (fun q : Int => some (Sum.inl q)) (show (1 : Int) = (if σ 19 1 = 0 then (if σ 19 2 = f then (if 0 ≤ i ∧ i < σ 19 3 then 0 else 2) else 3) else 1) from by omega)⟩
theorem sp_srenew3 (σ : sw_S) (f k : Int) : sw_Con sw_ly sw_rho M_X4_renew [.inr (.inr 21), .inl f, .inl k] σ (fun r σ' => (sw_fl (sw_u (sw_u (sw_u σ 21 2 f) 21 3 k) 21 1 0) 22 60 0) = σ' ∧ r = none) := by
  refine sw_con (by decide) (Nat.le_of_ble_eq_true rfl) ?_
  refine sw_blk k_X4_renew 12 20 [(0, .inr (.inr 21)), (1, .inl f), (2, .inl k)] [.inl 0, .inr (.inr 22)] (sw_u (sw_u (sw_u σ 21 2 f) 21 3 k) 21 1 0) rfl ?_
  refine sw_callS k_X4_renew rfl cS_J7_fill_53178 ml_X4_26 ⟨by decide, by decide⟩ [.inr (.inr 22), .inl 0] [] rfl rfl (Nat.le_of_ble_eq_true rfl) 23 rfl (sp_fill (sw_u (sw_u (sw_u σ 21 2 f) 21 3 k) 21 1 0) 22 60 0 rfl (by decide)) (fun r1 σ2 hq3 => ?_)
  obtain ⟨rfl, rfl⟩ := hq3
  refine sw_blk k_X4_renew 0 23 [(0, .inr (.inr 21)), (1, .inl f), (2, .inl k)] [] (sw_fl (sw_u (sw_u (sw_u σ 21 2 f) 21 3 k) 21 1 0) 22 60 0) rfl ?_
  refine sw_vreturn k_X4_renew rfl rfl ?_
  exact ⟨rfl, rfl⟩
theorem sp_store3 (σ : sw_S) (hσ : sw_gs σ) (i v : Int) (hi : 0 ≤ i ∧ i < 60) (hf : 0 ≤ σ 21 2 ∧ σ 21 2 ≤ 2) : sw_Con sw_ly sw_rho M_X4_store [.inr (.inr 21), .inl i, .inl v] σ (fun r σ' => (sw_u σ 22 i.toNat (if σ 21 2 = 0 then sw_b v else if σ 21 2 = 1 then sw_h v else v)) = σ' ∧ r = none) := by
  refine sw_con (by decide) (Nat.le_of_ble_eq_true rfl) ?_
  refine sw_blk k_X4_store 2 4 [(0, .inr (.inr 21)), (1, .inl i), (2, .inl v)] [.inl (σ 21 2)] σ rfl ?_
  have h3 : σ 21 2 = 0 ∨ σ 21 2 = 1 ∨ σ 21 2 = 2 := by omega
  rcases h3 with h3 | h3 | h3 <;> rw [h3]
  · refine sw_look k_X4_store rfl (by decide) (by decide) rfl 32 (by decide) ?_
    refine sw_blk k_X4_store 5 39 [(0, .inr (.inr 21)), (1, .inl i), (2, .inl v)] [.inl (sw_b v), .inl i, .inr (.inr 22)] σ rfl ?_
    refine sw_iast k_X4_store rfl (i := 22) (n := 60) rfl (by decide) (by omega) (by omega) 40 rfl ?_
    refine sw_blk k_X4_store 1 61 [(0, .inr (.inr 21)), (1, .inl i), (2, .inl v)] [] (sw_u σ 22 i.toNat (sw_b v)) rfl ?_
    refine sw_vreturn k_X4_store rfl rfl ?_
    exact ⟨rfl, rfl⟩
  · refine sw_look k_X4_store rfl (by decide) (by decide) rfl 43 (by decide) ?_
    refine sw_blk k_X4_store 5 50 [(0, .inr (.inr 21)), (1, .inl i), (2, .inl v)] [.inl (sw_h v), .inl i, .inr (.inr 22)] σ rfl ?_
    refine sw_iast k_X4_store rfl (i := 22) (n := 60) rfl (by decide) (by omega) (by omega) 51 rfl ?_
    refine sw_blk k_X4_store 1 61 [(0, .inr (.inr 21)), (1, .inl i), (2, .inl v)] [] (sw_u σ 22 i.toNat (sw_h v)) rfl ?_
    refine sw_vreturn k_X4_store rfl rfl ?_
    exact ⟨rfl, rfl⟩
  · refine sw_look k_X4_store rfl (by decide) (by decide) rfl 54 (by decide) ?_
    refine sw_blk k_X4_store 4 60 [(0, .inr (.inr 21)), (1, .inl i), (2, .inl v)] [.inl v, .inl i, .inr (.inr 22)] σ rfl ?_
    refine sw_iast k_X4_store rfl (i := 22) (n := 60) rfl (by decide) (by omega) (by omega) 61 rfl ?_
    refine sw_blk k_X4_store 0 61 [(0, .inr (.inr 21)), (1, .inl i), (2, .inl v)] [] (sw_u σ 22 i.toNat v) rfl ?_
    refine sw_vreturn k_X4_store rfl rfl ?_
    exact ⟨rfl, rfl⟩
theorem sp_wrong3 (σ : sw_S) (hσ : sw_gs σ) (f i : Int) (gf : sw_g f) (gi : sw_g i) (hs0 : 0 ≤ σ 21 3) (hs1 : σ 21 3 ≤ 60) : sw_Con sw_ly sw_rho M_X7_wrongOfItem [.inr (.inr 21), .inl f, .inl i] σ (fun r σ' => σ = σ' ∧ r = some (.inl ((if σ 21 1 = 0 then (if σ 21 2 = f then (if 0 ≤ i ∧ i < σ 21 3 then 0 else 2) else 3) else 1)))) := by
  refine sw_con (by decide) (Nat.le_of_ble_eq_true rfl) ?_
  refine sw_blk k_X7_wrongOfItem 2 4 [(0, .inr (.inr 21)), (1, .inl f), (2, .inl i)] [.inl (σ 21 1)] σ rfl ?_
  refine sw_if_eq k_X7_wrongOfItem rfl (hσ 21 _) 9 7 (by decide) rfl (fun c1 => ?_) (fun c1 => ?_)
  · refine sw_blk k_X7_wrongOfItem 3 14 [(0, .inr (.inr 21)), (1, .inl f), (2, .inl i)] [.inl f, .inl (σ 21 2)] σ rfl ?_
    refine sw_icmp_eq k_X7_wrongOfItem rfl (hσ 21 _) (by omega) 19 17 (by decide) rfl (fun c2 => ?_) (fun c2 => ?_)
    · refine sw_blk k_X7_wrongOfItem 3 22 [(0, .inr (.inr 21)), (1, .inl f), (2, .inl i)] [.inl 1, .inl i, .inr (.inr 21)] σ rfl ?_
      refine sw_callV k_X7_wrongOfItem rfl cV_X4_hasItems ml_X7_251 ⟨by decide, by decide⟩ 21 rfl rfl [.inl i, .inl 1] [] rfl rfl (Nat.le_of_ble_eq_true rfl) 25 rfl (sp_hasItems3 σ i 1 (by omega) (by decide) (by omega) (by omega)) (fun r4 σ5 hq6 => ?_)
      obtain ⟨rfl, ⟨p3, rfl⟩ | ⟨p3, rfl⟩⟩ := hq6
      · refine sw_blk k_X7_wrongOfItem 0 25 [(0, .inr (.inr 21)), (1, .inl f), (2, .inl i)] [.inl 1] σ rfl ?_
        refine sw_if_eq k_X7_wrongOfItem rfl (by decide) 32 28 (by decide) rfl (fun c => absurd c (by decide)) (fun _ => ?_)
        refine sw_blk k_X7_wrongOfItem 2 33 [(0, .inr (.inr 21)), (1, .inl f), (2, .inl i)] [.inl 0] σ rfl ?_
        refine sw_ireturn k_X7_wrongOfItem rfl rfl ?_
        exact ⟨rfl, congrArg (fun q : Int => some (Sum.inl q)) (show (0 : Int) = (if σ 21 1 = 0 then (if σ 21 2 = f then (if 0 ≤ i ∧ i < σ 21 3 then 0 else 2) else 3) else 1) from by omega)⟩
      · refine sw_blk k_X7_wrongOfItem 0 25 [(0, .inr (.inr 21)), (1, .inl f), (2, .inl i)] [.inl 0] σ rfl ?_
        refine sw_if_eq k_X7_wrongOfItem rfl (by decide) 32 28 (by decide) rfl (fun _ => ?_) (fun c => absurd (by decide) c)
        refine sw_blk k_X7_wrongOfItem 1 33 [(0, .inr (.inr 21)), (1, .inl f), (2, .inl i)] [.inl 2] σ rfl ?_
        refine sw_ireturn k_X7_wrongOfItem rfl rfl ?_
        exact ⟨rfl, congrArg (fun q : Int => some (Sum.inl q)) (show (2 : Int) = (if σ 21 1 = 0 then (if σ 21 2 = f then (if 0 ≤ i ∧ i < σ 21 3 then 0 else 2) else 3) else 1) from by omega)⟩
    · refine sw_blk k_X7_wrongOfItem 1 18 [(0, .inr (.inr 21)), (1, .inl f), (2, .inl i)] [.inl 3] σ rfl ?_
      refine sw_ireturn k_X7_wrongOfItem rfl rfl ?_
      exact ⟨rfl, congrArg (fun q : Int => some (Sum.inl q)) (show (3 : Int) = (if σ 21 1 = 0 then (if σ 21 2 = f then (if 0 ≤ i ∧ i < σ 21 3 then 0 else 2) else 3) else 1) from by omega)⟩
  · refine sw_blk k_X7_wrongOfItem 1 8 [(0, .inr (.inr 21)), (1, .inl f), (2, .inl i)] [.inl 1] σ rfl ?_
    refine sw_ireturn k_X7_wrongOfItem rfl rfl ?_
    exact ⟨rfl, congrArg (fun q : Int => some (Sum.inl q)) (show (1 : Int) = (if σ 21 1 = 0 then (if σ 21 2 = f then (if 0 ≤ i ∧ i < σ 21 3 then 0 else 2) else 3) else 1) from by omega)⟩
theorem sp_trips (σ : sw_S) (n c : Int) (hn : 1 ≤ n ∧ n ≤ 500) (hc : 1 ≤ c ∧ c ≤ 50) : sw_Con sw_ly sw_rho M_X7_tripsFor [.inl n, .inl c] σ (fun r σ' => σ = σ' ∧ r = some (.inl ((n + c - 1) / c))) := by
  refine sw_con (by decide) (Nat.le_of_ble_eq_true rfl) ?_
  refine sw_blk k_X7_tripsFor 2 2 [(0, .inl n), (1, .inl c)] [.inl 1, .inl c] σ rfl ?_
  refine sw_icmp_ge k_X7_tripsFor rfl (by omega) (by decide) 9 5 (by decide) rfl (fun c1 => ?_) (fun c1 => ?_)
  · refine sw_blk k_X7_tripsFor 6 15 [(0, .inl n), (1, .inl c)] [.inl c, .inl ((n + c) - 1)] σ rfl ?_
    refine sw_idiv k_X7_tripsFor rfl (by omega) (by omega) (by omega) (by omega) 16 rfl ?_
    refine sw_ireturn k_X7_tripsFor rfl rfl ?_
    exact ⟨rfl, rfl⟩
  · omega
def sw_q0 (l0 wt p c : Int) : Int := (l0 + wt * p + 1) * (10 - c)
def sw_q1 (l1 wt D p c : Int) : Int := (l1 + wt * (D - p) + 1) * (10 + c)
def sw_slp (l0 l1 wt D p c k : Int) : Prop := k * min (sw_q0 l0 wt p c) (sw_q1 l1 wt D p c) < 100 * max (sw_q0 l0 wt p c) (sw_q1 l1 wt D p c)
theorem sw_mulb {x y X Y : Int} (h1 : 0 ≤ x) (h2 : x ≤ X) (h3 : 0 ≤ y) (h4 : y ≤ Y) : 0 ≤ x * y ∧ x * y ≤ X * Y := ⟨Int.mul_nonneg h1 h3, Int.mul_le_mul h2 h4 h3 (by omega)⟩
theorem sw_q0b {l wt p c : Int} (hl : 0 ≤ l ∧ l ≤ 1000) (hw : 0 ≤ wt ∧ wt ≤ 10) (hp : 0 ≤ p ∧ p ≤ 400) (hc : -9 ≤ c ∧ c ≤ 9) : 0 ≤ sw_q0 l wt p c ∧ sw_q0 l wt p c ≤ 95019 := by
  have h1 := sw_mulb hw.1 hw.2 hp.1 hp.2
  have h2 := sw_mulb (x := l + wt * p + 1) (X := 5001) (y := 10 - c) (Y := 19) (by omega) (by omega) (by omega) (by omega)
  unfold sw_q0
  omega
theorem sw_q1b {l wt D p c : Int} (hl : 0 ≤ l ∧ l ≤ 1000) (hw : 0 ≤ wt ∧ wt ≤ 10) (hp : 0 ≤ D - p ∧ D - p ≤ 400) (hc : -9 ≤ c ∧ c ≤ 9) : 0 ≤ sw_q1 l wt D p c ∧ sw_q1 l wt D p c ≤ 95019 := by
  have h1 := sw_mulb hw.1 hw.2 hp.1 hp.2
  have h2 := sw_mulb (x := l + wt * (D - p) + 1) (X := 5001) (y := 10 + c) (Y := 19) (by omega) (by omega) (by omega) (by omega)
  unfold sw_q1
  omega
theorem sp_slipsAt (σ : sw_S) (hl0 : 0 ≤ σ 11 1 ∧ σ 11 1 ≤ 1000) (hl1 : 0 ≤ σ 11 2 ∧ σ 11 2 ≤ 1000) (hwt : 0 ≤ σ 11 3 ∧ σ 11 3 ≤ 10) (hD : 10 ≤ σ 1 0 ∧ σ 1 0 ≤ 400) (p c k : Int) (hp : 0 ≤ p ∧ p ≤ σ 1 0) (hc : -9 ≤ c ∧ c ≤ 9) (hk : 100 ≤ k ∧ k ≤ 401) : sw_Con sw_ly sw_rho M_X2_slipsAt [.inr (.inr 11), .inl p, .inl c, .inl k] σ (fun r σ' => σ = σ' ∧ ((sw_slp (σ 11 1) (σ 11 2) (σ 11 3) (σ 1 0) p c k) ∧ r = some (.inl 1) ∨ ¬ (sw_slp (σ 11 1) (σ 11 2) (σ 11 3) (σ 1 0) p c k) ∧ r = some (.inl 0))) := by
  refine sw_con (by decide) (Nat.le_of_ble_eq_true rfl) ?_
  have b0 := sw_q0b hl0 hwt (p := p) (by omega) hc
  have b1 := sw_q1b (D := σ 1 0) (p := p) hl1 hwt (by omega) hc
  have b2 := sw_mulb (x := k) (X := 401) (y := min (sw_q0 (σ 11 1) (σ 11 3) p c) (sw_q1 (σ 11 2) (σ 11 3) (σ 1 0) p c)) (Y := 95019) (by omega) (by omega) (by omega) (by omega)
  refine sw_blk k_X2_slipsAt 35 54 [(5, .inl ((((σ 11 2) + ((σ 11 3) * ((σ 1 0) - p))) + 1) * (10 + c))), (4, .inl ((((σ 11 1) + ((σ 11 3) * p)) + 1) * (10 - c))), (0, .inr (.inr 11)), (1, .inl p), (2, .inl c), (3, .inl k)] [.inl ((((σ 11 2) + ((σ 11 3) * ((σ 1 0) - p))) + 1) * (10 + c)), .inl ((((σ 11 1) + ((σ 11 3) * p)) + 1) * (10 - c)), .inl 100] σ rfl ?_
  refine sw_callS k_X2_slipsAt rfl cS_J9_max_7cf53 ml_X2_33 ⟨by decide, by decide⟩ [.inl ((((σ 11 1) + ((σ 11 3) * p)) + 1) * (10 - c)), .inl ((((σ 11 2) + ((σ 11 3) * ((σ 1 0) - p))) + 1) * (10 + c))] [.inl 100] rfl rfl (Nat.le_of_ble_eq_true rfl) 57 rfl (sp_max σ (sw_q0 (σ 11 1) (σ 11 3) p c) (sw_q1 (σ 11 2) (σ 11 3) (σ 1 0) p c) (by omega) (by omega)) (fun r1 σ2 hq3 => ?_)
  obtain ⟨rfl, rfl⟩ := hq3
  refine sw_blk k_X2_slipsAt 4 63 [(5, .inl ((((σ 11 2) + ((σ 11 3) * ((σ 1 0) - p))) + 1) * (10 + c))), (4, .inl ((((σ 11 1) + ((σ 11 3) * p)) + 1) * (10 - c))), (0, .inr (.inr 11)), (1, .inl p), (2, .inl c), (3, .inl k)] [.inl ((((σ 11 2) + ((σ 11 3) * ((σ 1 0) - p))) + 1) * (10 + c)), .inl ((((σ 11 1) + ((σ 11 3) * p)) + 1) * (10 - c)), .inl k, .inl (100 * (max (sw_q0 (σ 11 1) (σ 11 3) p c) (sw_q1 (σ 11 2) (σ 11 3) (σ 1 0) p c)))] σ rfl ?_
  refine sw_callS k_X2_slipsAt rfl cS_J9_min_7cf53 ml_X2_39 ⟨by decide, by decide⟩ [.inl ((((σ 11 1) + ((σ 11 3) * p)) + 1) * (10 - c)), .inl ((((σ 11 2) + ((σ 11 3) * ((σ 1 0) - p))) + 1) * (10 + c))] [.inl k, .inl (100 * (max (sw_q0 (σ 11 1) (σ 11 3) p c) (sw_q1 (σ 11 2) (σ 11 3) (σ 1 0) p c)))] rfl rfl (Nat.le_of_ble_eq_true rfl) 66 rfl (sp_min σ (sw_q0 (σ 11 1) (σ 11 3) p c) (sw_q1 (σ 11 2) (σ 11 3) (σ 1 0) p c) (by omega) (by omega)) (fun r4 σ5 hq6 => ?_)
  obtain ⟨rfl, rfl⟩ := hq6
  refine sw_blk k_X2_slipsAt 1 67 [(5, .inl ((((σ 11 2) + ((σ 11 3) * ((σ 1 0) - p))) + 1) * (10 + c))), (4, .inl ((((σ 11 1) + ((σ 11 3) * p)) + 1) * (10 - c))), (0, .inr (.inr 11)), (1, .inl p), (2, .inl c), (3, .inl k)] [.inl (k * (min (sw_q0 (σ 11 1) (σ 11 3) p c) (sw_q1 (σ 11 2) (σ 11 3) (σ 1 0) p c))), .inl (100 * (max (sw_q0 (σ 11 1) (σ 11 3) p c) (sw_q1 (σ 11 2) (σ 11 3) (σ 1 0) p c)))] σ rfl ?_
  refine sw_icmp_le k_X2_slipsAt rfl (by omega) (by omega) 74 70 (by decide) rfl (fun c7 => ?_) (fun c7 => ?_)
  · refine sw_blk k_X2_slipsAt 1 75 [(5, .inl ((((σ 11 2) + ((σ 11 3) * ((σ 1 0) - p))) + 1) * (10 + c))), (4, .inl ((((σ 11 1) + ((σ 11 3) * p)) + 1) * (10 - c))), (0, .inr (.inr 11)), (1, .inl p), (2, .inl c), (3, .inl k)] [.inl 0] σ rfl ?_
    refine sw_zreturn k_X2_slipsAt rfl rfl (by decide) ?_
    exact ⟨rfl, Or.inr ⟨by unfold sw_slp; omega, rfl⟩⟩
  · refine sw_blk k_X2_slipsAt 2 75 [(5, .inl ((((σ 11 2) + ((σ 11 3) * ((σ 1 0) - p))) + 1) * (10 + c))), (4, .inl ((((σ 11 1) + ((σ 11 3) * p)) + 1) * (10 - c))), (0, .inr (.inr 11)), (1, .inl p), (2, .inl c), (3, .inl k)] [.inl 1] σ rfl ?_
    refine sw_zreturn k_X2_slipsAt rfl rfl (by decide) ?_
    exact ⟨rfl, Or.inl ⟨by unfold sw_slp; omega, rfl⟩⟩
end
section
def sw_gx (f : Nat → Int) (n j : Nat) : Int := if j < n then f j else 0
/-- it slips at the j-th tick of a row of n speeds, or as it comes to stand (j = n) -/
def sw_sl (l0 l1 wt D : Int) (f : Nat → Int) (n : Nat) (p k : Int) (j : Nat) : Prop := sw_slp l0 l1 wt D (sw_pl f p j) (sw_gx f n j - sw_pv f j) k
/-- a row of n speeds keeps within the shaft, its changes small -/
def sw_rk (D : Int) (f : Nat → Int) (n : Nat) (p : Int) : Prop := ∀ j, j ≤ n → (0 ≤ sw_pl f p j ∧ sw_pl f p j ≤ D) ∧ (-9 ≤ sw_gx f n j - sw_pv f j ∧ sw_gx f n j - sw_pv f j ≤ 9)
def sw_fs (sl : Nat → Prop) (n : Nat) (x : Int) : Prop := (n = 0 ∧ x = -1) ∨ (0 < n ∧ ((∃ j : Nat, j ≤ n ∧ sl j ∧ (∀ i, i < j → ¬ sl i) ∧ x = (j : Int) + 1) ∨ ((∀ j, j ≤ n → ¬ sl j) ∧ x = -1)))
theorem sw_fs_one {sl : Nat → Prop} {n : Nat} {x y : Int} (h : sw_fs sl n x) (k : sw_fs sl n y) : x = y := by
  rcases h with ⟨h1, h2⟩ | ⟨h0, ⟨j, h1, h2, h3, h4⟩ | ⟨h1, h2⟩⟩ <;> rcases k with ⟨k1, k2⟩ | ⟨k0, ⟨i, k1, k2, k3, k4⟩ | ⟨k1, k2⟩⟩
  · omega
  · omega
  · omega
  · omega
  · rcases Nat.lt_trichotomy i j with z | z | z
    · exact absurd k2 (h3 i z)
    · omega
    · exact absurd h2 (k3 j z)
  · exact absurd h2 (k1 j h1)
  · omega
  · exact absurd k2 (h1 i k1)
  · omega
def sw_lr (sl : Int → Nat → Prop) (n : Nat) (x : Int) : Prop := (100 ≤ x ∧ x ≤ 400 ∧ (∀ j, 0 < n → j ≤ n → ¬ sl x j) ∧ ∀ k, 100 ≤ k → k < x → ∃ j, 0 < n ∧ j ≤ n ∧ sl k j) ∨ (x = -1 ∧ ∀ k, 100 ≤ k → k ≤ 400 → ∃ j, 0 < n ∧ j ≤ n ∧ sl k j)
theorem sw_lr_one {sl : Int → Nat → Prop} {n : Nat} {x y : Int} (h : sw_lr sl n x) (k : sw_lr sl n y) : x = y := by
  rcases h with ⟨h1, h2, h3, h4⟩ | ⟨h1, h2⟩ <;> rcases k with ⟨k1, k2, k3, k4⟩ | ⟨k1, k2⟩
  · rcases Int.lt_trichotomy x y with z | z | z
    · obtain ⟨j, a, b, c⟩ := k4 x h1 z; exact absurd c (h3 j a b)
    · exact z
    · obtain ⟨j, a, b, c⟩ := h4 y k1 z; exact absurd c (k3 j a b)
  · obtain ⟨j, a, b, c⟩ := k2 x h1 h2; exact absurd c (h3 j a b)
  · obtain ⟨j, a, b, c⟩ := h2 y k1 k2; exact absurd c (k3 j a b)
  · omega
theorem sw_slp_mono {l0 l1 wt D p c k k' : Int} (h0 : 0 ≤ sw_q0 l0 wt p c) (h1 : 0 ≤ sw_q1 l1 wt D p c) (hk : k' ≤ k) (h : sw_slp l0 l1 wt D p c k) : sw_slp l0 l1 wt D p c k' := by
  unfold sw_slp at *
  have := Int.mul_le_mul_of_nonneg_right hk (show 0 ≤ min (sw_q0 l0 wt p c) (sw_q1 l1 wt D p c) by omega)
  omega
theorem lp_fslip (σ : sw_S) (hσ : sw_gs σ) (hl0 : 0 ≤ σ 11 1 ∧ σ 11 1 ≤ 1000) (hl1 : 0 ≤ σ 11 2 ∧ σ 11 2 ≤ 1000) (hwt : 0 ≤ σ 11 3 ∧ σ 11 3 ≤ 10) (hD : 10 ≤ σ 1 0 ∧ σ 1 0 ≤ 400) (hkp : 100 ≤ σ 11 4 ∧ σ 11 4 ≤ 400) (N : Nat) (p : Int) (hN : N ≤ 400) (hr : sw_rk (σ 1 0) (σ 25) N p) (Q : Option sw_Vl → sw_S → Prop) (hQ : ∀ x : Int, sw_fs (sw_sl (σ 11 1) (σ 11 2) (σ 11 3) (σ 1 0) (σ 25) N p (σ 11 4)) N x → Q (some (.inl x)) σ) : ∀ (n : Nat) (i : Nat) (q b : Int), i ≤ N + 1 → (i ≤ N → q = sw_pl (σ 25) p i) → (i ≤ N → b = sw_pv (σ 25) i) → (∀ j, j < i → ¬ (sw_sl (σ 11 1) (σ 11 2) (σ 11 3) (σ 1 0) (σ 25) N p (σ 11 4)) j) → 402 - i < n → sw_E sw_ly sw_rho M_X2_firstSlip 9 [(6, .inl (i : Int)), (5, .inl b), (4, .inl q), (0, .inr (.inr 11)), (1, .inl p), (2, .inr (.inr 25)), (3, .inl (N : Int))] [] σ Q := by
  intro n
  induction n with
  | zero =>
    intro i q b hi eq_ eb_ hno hn
    omega
  | succ n ih =>
    intro i q b hi eq_ eb_ hno hn
    refine sw_blk k_X2_firstSlip 2 12 [(6, .inl (i : Int)), (5, .inl b), (4, .inl q), (0, .inr (.inr 11)), (1, .inl p), (2, .inr (.inr 25)), (3, .inl (N : Int))] [.inl (N : Int), .inl (i : Int)] σ rfl ?_
    refine sw_icmp_gt k_X2_firstSlip rfl (by omega) (by omega) 75 15 (by decide) rfl (fun c1 => ?_) (fun c1 => ?_)
    · refine sw_blk k_X2_firstSlip 1 76 [(6, .inl (i : Int)), (5, .inl b), (4, .inl q), (0, .inr (.inr 11)), (1, .inl p), (2, .inr (.inr 25)), (3, .inl (N : Int))] [.inl (-1)] σ rfl ?_
      refine sw_ireturn k_X2_firstSlip rfl rfl ?_
      rcases Nat.eq_zero_or_pos N with z | z
      · exact hQ _ (Or.inl ⟨z, rfl⟩)
      · exact hQ _ (Or.inr ⟨z, Or.inr ⟨fun j hj => hno j (by omega), rfl⟩⟩)
    · refine sw_blk k_X2_firstSlip 1 16 [(6, .inl (i : Int)), (5, .inl b), (4, .inl q), (0, .inr (.inr 11)), (1, .inl p), (2, .inr (.inr 25)), (3, .inl (N : Int))] [.inl (N : Int)] σ rfl ?_
      refine sw_if_le k_X2_firstSlip rfl (by omega) 75 19 (by decide) rfl (fun c2 => ?_) (fun c2 => ?_)
      · refine sw_blk k_X2_firstSlip 1 76 [(6, .inl (i : Int)), (5, .inl b), (4, .inl q), (0, .inr (.inr 11)), (1, .inl p), (2, .inr (.inr 25)), (3, .inl (N : Int))] [.inl (-1)] σ rfl ?_
        refine sw_ireturn k_X2_firstSlip rfl rfl ?_
        rcases Nat.eq_zero_or_pos N with z | z
        · exact hQ _ (Or.inl ⟨z, rfl⟩)
        · exact hQ _ (Or.inr ⟨z, Or.inr ⟨fun j hj => hno j (by omega), rfl⟩⟩)
      · refine sw_blk k_X2_firstSlip 2 22 [(6, .inl (i : Int)), (5, .inl b), (4, .inl q), (0, .inr (.inr 11)), (1, .inl p), (2, .inr (.inr 25)), (3, .inl (N : Int))] [.inl (N : Int), .inl (i : Int)] σ rfl ?_
        refine sw_icmp_ge k_X2_firstSlip rfl (by omega) (by omega) 32 25 (by decide) rfl (fun c3 => ?_) (fun c3 => ?_)
        · have egx : sw_gx (σ 25) N i = 0 := by unfold sw_gx; rw [if_neg (by omega)]
          have hri := hr i (by omega)
          rw [← eq_ (by omega), ← eb_ (by omega), egx] at hri
          refine sw_blk k_X2_firstSlip 9 47 [(7, .inl 0), (6, .inl (i : Int)), (5, .inl b), (4, .inl q), (0, .inr (.inr 11)), (1, .inl p), (2, .inr (.inr 25)), (3, .inl (N : Int))] [.inl (σ 11 4), .inl (0 - b), .inl q, .inr (.inr 11)] σ rfl ?_
          refine sw_callV k_X2_firstSlip rfl cV_X2_slipsAt ml_X2_42 ⟨by decide, by decide⟩ 11 rfl rfl [.inl q, .inl (0 - b), .inl (σ 11 4)] [] rfl rfl (Nat.le_of_ble_eq_true rfl) 50 rfl (sp_slipsAt σ hl0 hl1 hwt hD q (0 - b) (σ 11 4) (by omega) (by omega) (by omega)) (fun r5 σ6 hq7 => ?_)
          obtain ⟨rfl, ⟨p4, rfl⟩ | ⟨p4, rfl⟩⟩ := hq7
          · have hsl : (sw_sl (σ 11 1) (σ 11 2) (σ 11 3) (σ 1 0) (σ 25) N p (σ 11 4)) i := by unfold sw_sl; rw [← eq_ (by omega), ← eb_ (by omega), egx]; (exact p4)
            refine sw_blk k_X2_firstSlip 0 50 [(7, .inl 0), (6, .inl (i : Int)), (5, .inl b), (4, .inl q), (0, .inr (.inr 11)), (1, .inl p), (2, .inr (.inr 25)), (3, .inl (N : Int))] [.inl 1] σ rfl ?_
            refine sw_if_eq k_X2_firstSlip rfl (by decide) 58 53 (by decide) rfl (fun c => absurd c (by decide)) (fun _ => ?_)
            refine sw_blk k_X2_firstSlip 3 57 [(7, .inl 0), (6, .inl (i : Int)), (5, .inl b), (4, .inl q), (0, .inr (.inr 11)), (1, .inl p), (2, .inr (.inr 25)), (3, .inl (N : Int))] [.inl ((i : Int) + 1)] σ rfl ?_
            refine sw_ireturn k_X2_firstSlip rfl rfl ?_
            exact hQ _ (Or.inr ⟨by omega, Or.inl ⟨i, by omega, hsl, hno, rfl⟩⟩)
          · have hsl : ¬ (sw_sl (σ 11 1) (σ 11 2) (σ 11 3) (σ 1 0) (σ 25) N p (σ 11 4)) i := by unfold sw_sl; rw [← eq_ (by omega), ← eb_ (by omega), egx]; (exact p4)
            refine sw_blk k_X2_firstSlip 0 50 [(7, .inl 0), (6, .inl (i : Int)), (5, .inl b), (4, .inl q), (0, .inr (.inr 11)), (1, .inl p), (2, .inr (.inr 25)), (3, .inl (N : Int))] [.inl 0] σ rfl ?_
            refine sw_if_eq k_X2_firstSlip rfl (by decide) 58 53 (by decide) rfl (fun _ => ?_) (fun c => absurd (by decide) c)
            refine sw_blk k_X2_firstSlip 8 9 [(6, .inl ((i : Int) + 1)), (5, .inl 0), (4, .inl (q + 0)), (7, .inl 0), (0, .inr (.inr 11)), (1, .inl p), (2, .inr (.inr 25)), (3, .inl (N : Int))] [] σ rfl ?_
            refine sw_Lsub [(6, .inl ((i : Int) + 1)), (5, .inl 0), (4, .inl (q + 0)), (0, .inr (.inr 11)), (1, .inl p), (2, .inr (.inr 25)), (3, .inl (N : Int))] [0, 1, 2, 4, 5, 6, 7] rfl ?_
            rcases Nat.lt_or_ge i N with zz | zz
            · exact ih (i + 1) _ _ (by omega) (fun z => by rw [sw_pl, ← eq_ (by omega)] <;> omega) (fun z => by first | rfl | omega) (fun j hj => by rcases Nat.lt_or_ge j i with y | y; exact hno j y; rw [show j = i by omega]; exact hsl) (by omega)
            · exact ih (i + 1) _ _ (by omega) (fun z => by omega) (fun z => by omega) (fun j hj => by rcases Nat.lt_or_ge j i with y | y; exact hno j y; rw [show j = i by omega]; exact hsl) (by omega)
        · have egx : sw_gx (σ 25) N i = (σ 25 i) := by unfold sw_gx; rw [if_pos (by omega)]
          have hri := hr i (by omega)
          rw [← eq_ (by omega), ← eb_ (by omega), egx] at hri
          refine sw_blk k_X2_firstSlip 2 28 [(6, .inl (i : Int)), (5, .inl b), (4, .inl q), (0, .inr (.inr 11)), (1, .inl p), (2, .inr (.inr 25)), (3, .inl (N : Int))] [.inl (i : Int), .inr (.inr 25)] σ rfl ?_
          refine sw_iald k_X2_firstSlip rfl (i := 25) (n := 400) rfl (by decide) (by omega) (by omega) 29 rfl ?_
          refine sw_blk k_X2_firstSlip 9 47 [(7, .inl (σ 25 i)), (6, .inl (i : Int)), (5, .inl b), (4, .inl q), (0, .inr (.inr 11)), (1, .inl p), (2, .inr (.inr 25)), (3, .inl (N : Int))] [.inl (σ 11 4), .inl ((σ 25 i) - b), .inl q, .inr (.inr 11)] σ rfl ?_
          refine sw_callV k_X2_firstSlip rfl cV_X2_slipsAt ml_X2_42 ⟨by decide, by decide⟩ 11 rfl rfl [.inl q, .inl ((σ 25 i) - b), .inl (σ 11 4)] [] rfl rfl (Nat.le_of_ble_eq_true rfl) 50 rfl (sp_slipsAt σ hl0 hl1 hwt hD q ((σ 25 i) - b) (σ 11 4) (by omega) (by omega) (by omega)) (fun r9 σ10 hq11 => ?_)
          obtain ⟨rfl, ⟨p8, rfl⟩ | ⟨p8, rfl⟩⟩ := hq11
          · have hsl : (sw_sl (σ 11 1) (σ 11 2) (σ 11 3) (σ 1 0) (σ 25) N p (σ 11 4)) i := by unfold sw_sl; rw [← eq_ (by omega), ← eb_ (by omega), egx]; (exact p8)
            refine sw_blk k_X2_firstSlip 0 50 [(7, .inl (σ 25 i)), (6, .inl (i : Int)), (5, .inl b), (4, .inl q), (0, .inr (.inr 11)), (1, .inl p), (2, .inr (.inr 25)), (3, .inl (N : Int))] [.inl 1] σ rfl ?_
            refine sw_if_eq k_X2_firstSlip rfl (by decide) 58 53 (by decide) rfl (fun c => absurd c (by decide)) (fun _ => ?_)
            refine sw_blk k_X2_firstSlip 3 57 [(7, .inl (σ 25 i)), (6, .inl (i : Int)), (5, .inl b), (4, .inl q), (0, .inr (.inr 11)), (1, .inl p), (2, .inr (.inr 25)), (3, .inl (N : Int))] [.inl ((i : Int) + 1)] σ rfl ?_
            refine sw_ireturn k_X2_firstSlip rfl rfl ?_
            exact hQ _ (Or.inr ⟨by omega, Or.inl ⟨i, by omega, hsl, hno, rfl⟩⟩)
          · have hsl : ¬ (sw_sl (σ 11 1) (σ 11 2) (σ 11 3) (σ 1 0) (σ 25) N p (σ 11 4)) i := by unfold sw_sl; rw [← eq_ (by omega), ← eb_ (by omega), egx]; (exact p8)
            refine sw_blk k_X2_firstSlip 0 50 [(7, .inl (σ 25 i)), (6, .inl (i : Int)), (5, .inl b), (4, .inl q), (0, .inr (.inr 11)), (1, .inl p), (2, .inr (.inr 25)), (3, .inl (N : Int))] [.inl 0] σ rfl ?_
            refine sw_if_eq k_X2_firstSlip rfl (by decide) 58 53 (by decide) rfl (fun _ => ?_) (fun c => absurd (by decide) c)
            refine sw_blk k_X2_firstSlip 8 9 [(6, .inl ((i : Int) + 1)), (5, .inl (σ 25 i)), (4, .inl (q + (σ 25 i))), (7, .inl (σ 25 i)), (0, .inr (.inr 11)), (1, .inl p), (2, .inr (.inr 25)), (3, .inl (N : Int))] [] σ rfl ?_
            refine sw_Lsub [(6, .inl ((i : Int) + 1)), (5, .inl (σ 25 i)), (4, .inl (q + (σ 25 i))), (0, .inr (.inr 11)), (1, .inl p), (2, .inr (.inr 25)), (3, .inl (N : Int))] [0, 1, 2, 4, 5, 6, 7] rfl ?_
            rcases Nat.lt_or_ge i N with zz | zz
            · exact ih (i + 1) _ _ (by omega) (fun z => by rw [sw_pl, ← eq_ (by omega)] <;> omega) (fun z => by first | rfl | omega) (fun j hj => by rcases Nat.lt_or_ge j i with y | y; exact hno j y; rw [show j = i by omega]; exact hsl) (by omega)
            · exact ih (i + 1) _ _ (by omega) (fun z => by omega) (fun z => by omega) (fun j hj => by rcases Nat.lt_or_ge j i with y | y; exact hno j y; rw [show j = i by omega]; exact hsl) (by omega)
theorem sp_fslip (σ : sw_S) (hσ : sw_gs σ) (hl0 : 0 ≤ σ 11 1 ∧ σ 11 1 ≤ 1000) (hl1 : 0 ≤ σ 11 2 ∧ σ 11 2 ≤ 1000) (hwt : 0 ≤ σ 11 3 ∧ σ 11 3 ≤ 10) (hD : 10 ≤ σ 1 0 ∧ σ 1 0 ≤ 400) (hkp : 100 ≤ σ 11 4 ∧ σ 11 4 ≤ 400) (N : Nat) (p : Int) (hN : N ≤ 400) (hr : sw_rk (σ 1 0) (σ 25) N p) : sw_Con sw_ly sw_rho M_X2_firstSlip [.inr (.inr 11), .inl p, .inr (.inr 25), .inl (N : Int)] σ (fun r σ' => σ = σ' ∧ ∃ x : Int, r = some (.inl x) ∧ sw_fs (sw_sl (σ 11 1) (σ 11 2) (σ 11 3) (σ 1 0) (σ 25) N p (σ 11 4)) N x) := by
  refine sw_con (by decide) (Nat.le_of_ble_eq_true rfl) ?_
  refine sw_blk k_X2_firstSlip 6 9 [(6, .inl 0), (5, .inl 0), (4, .inl p), (0, .inr (.inr 11)), (1, .inl p), (2, .inr (.inr 25)), (3, .inl (N : Int))] [] σ rfl ?_
  exact lp_fslip σ hσ hl0 hl1 hwt hD hkp N p hN hr _ (fun x hx => ⟨rfl, x, rfl, hx⟩) 403 0 p 0 (by omega) (fun _ => rfl) (fun _ => rfl) (fun j hj => absurd hj (Nat.not_lt_zero j)) (by omega)
theorem lp_lrIn (σ : sw_S) (hσ : sw_gs σ) (hl0 : 0 ≤ σ 11 1 ∧ σ 11 1 ≤ 1000) (hl1 : 0 ≤ σ 11 2 ∧ σ 11 2 ≤ 1000) (hwt : 0 ≤ σ 11 3 ∧ σ 11 3 ≤ 10) (hD : 10 ≤ σ 1 0 ∧ σ 1 0 ≤ 400) (N : Nat) (p : Int) (hN : N ≤ 400) (hr : sw_rk (σ 1 0) (σ 25) N p) (i : Nat) (hi : i ≤ N) (q b sp : Int) (eq_ : q = sw_pl (σ 25) p i) (eb_ : b = sw_pv (σ 25) i) (egx : sw_gx (σ 25) N i = sp) (m0 : Int) (Q : Option sw_Vl → sw_S → Prop) (hQ : ∀ m : Int, m0 ≤ m → 100 ≤ m → m ≤ 401 → (m ≤ 400 → ¬ (sw_sl (σ 11 1) (σ 11 2) (σ 11 3) (σ 1 0) (σ 25) N p m) i) → (∀ k, m0 ≤ k → k < m → (sw_sl (σ 11 1) (σ 11 2) (σ 11 3) (σ 1 0) (σ 25) N p k) i) → sw_E sw_ly sw_rho M_X2_leastRatio 69 [(4, .inl m), (8, .inl sp), (7, .inl (i : Int)), (6, .inl b), (5, .inl q), (0, .inr (.inr 11)), (1, .inl p), (2, .inr (.inr 25)), (3, .inl (N : Int))] [] σ Q) : ∀ (n : Nat) (m : Int), m0 ≤ m → 100 ≤ m → m ≤ 401 → (∀ k, m0 ≤ k → k < m → (sw_sl (σ 11 1) (σ 11 2) (σ 11 3) (σ 1 0) (σ 25) N p k) i) → (402 - m).toNat < n → sw_E sw_ly sw_rho M_X2_leastRatio 39 [(4, .inl m), (8, .inl sp), (7, .inl (i : Int)), (6, .inl b), (5, .inl q), (0, .inr (.inr 11)), (1, .inl p), (2, .inr (.inr 25)), (3, .inl (N : Int))] [] σ Q := by
  intro n
  induction n with
  | zero =>
    intro m h0 h1 h2 h3 hn
    omega
  | succ n ih =>
    intro m h0 h1 h2 h3 hn
    have hri := hr i hi
    rw [← eq_, ← eb_, egx] at hri
    refine sw_blk k_X2_leastRatio 2 44 [(4, .inl m), (8, .inl sp), (7, .inl (i : Int)), (6, .inl b), (5, .inl q), (0, .inr (.inr 11)), (1, .inl p), (2, .inr (.inr 25)), (3, .inl (N : Int))] [.inl 400, .inl m] σ rfl ?_
    refine sw_icmp_gt k_X2_leastRatio rfl (by omega) (by decide) 69 47 (by decide) rfl (fun c1 => ?_) (fun c1 => ?_)
    · exact hQ m h0 h1 h2 (fun z => by first | omega | exact hsl) h3
    · refine sw_blk k_X2_leastRatio 6 57 [(4, .inl m), (8, .inl sp), (7, .inl (i : Int)), (6, .inl b), (5, .inl q), (0, .inr (.inr 11)), (1, .inl p), (2, .inr (.inr 25)), (3, .inl (N : Int))] [.inl m, .inl (sp - b), .inl q, .inr (.inr 11)] σ rfl ?_
      refine sw_callV k_X2_leastRatio rfl cV_X2_slipsAt ml_X2_42 ⟨by decide, by decide⟩ 11 rfl rfl [.inl q, .inl (sp - b), .inl m] [] rfl rfl (Nat.le_of_ble_eq_true rfl) 60 rfl (sp_slipsAt σ hl0 hl1 hwt hD q (sp - b) m (by omega) (by omega) (by omega)) (fun r3 σ4 hq5 => ?_)
      obtain ⟨rfl, ⟨p2, rfl⟩ | ⟨p2, rfl⟩⟩ := hq5
      · have hsl : (sw_sl (σ 11 1) (σ 11 2) (σ 11 3) (σ 1 0) (σ 25) N p m) i := by unfold sw_sl; rw [← eq_, ← eb_, egx]; exact p2
        refine sw_blk k_X2_leastRatio 0 60 [(4, .inl m), (8, .inl sp), (7, .inl (i : Int)), (6, .inl b), (5, .inl q), (0, .inr (.inr 11)), (1, .inl p), (2, .inr (.inr 25)), (3, .inl (N : Int))] [.inl 1] σ rfl ?_
        refine sw_if_eq k_X2_leastRatio rfl (by decide) 69 63 (by decide) rfl (fun c => absurd c (by decide)) (fun _ => ?_)
        refine sw_blk k_X2_leastRatio 2 39 [(4, .inl (m + 1)), (8, .inl sp), (7, .inl (i : Int)), (6, .inl b), (5, .inl q), (0, .inr (.inr 11)), (1, .inl p), (2, .inr (.inr 25)), (3, .inl (N : Int))] [] σ rfl ?_
        exact ih (m + 1) (by omega) (by omega) (by omega) (fun k k1 k2 => by rcases Int.lt_or_le k m with y | y; exact h3 k k1 y; rw [show k = m by omega]; exact hsl) (by omega)
      · have hsl : ¬ (sw_sl (σ 11 1) (σ 11 2) (σ 11 3) (σ 1 0) (σ 25) N p m) i := by unfold sw_sl; rw [← eq_, ← eb_, egx]; exact p2
        refine sw_blk k_X2_leastRatio 0 60 [(4, .inl m), (8, .inl sp), (7, .inl (i : Int)), (6, .inl b), (5, .inl q), (0, .inr (.inr 11)), (1, .inl p), (2, .inr (.inr 25)), (3, .inl (N : Int))] [.inl 0] σ rfl ?_
        refine sw_if_eq k_X2_leastRatio rfl (by decide) 69 63 (by decide) rfl (fun _ => ?_) (fun c => absurd (by decide) c)
        exact hQ m h0 h1 h2 (fun z => by first | omega | exact hsl) h3
theorem lp_lrOut (σ : sw_S) (hσ : sw_gs σ) (hl0 : 0 ≤ σ 11 1 ∧ σ 11 1 ≤ 1000) (hl1 : 0 ≤ σ 11 2 ∧ σ 11 2 ≤ 1000) (hwt : 0 ≤ σ 11 3 ∧ σ 11 3 ≤ 10) (hD : 10 ≤ σ 1 0 ∧ σ 1 0 ≤ 400) (N : Nat) (p : Int) (hN : N ≤ 400) (hr : sw_rk (σ 1 0) (σ 25) N p) (Q : Option sw_Vl → sw_S → Prop) (hQ : ∀ x : Int, sw_lr (fun k => (sw_sl (σ 11 1) (σ 11 2) (σ 11 3) (σ 1 0) (σ 25) N p k)) N x → Q (some (.inl x)) σ) : ∀ (n : Nat) (i : Nat) (q b m : Int), (i ≤ N + 1 ∧ (N = 0 → i = 0)) → (i ≤ N → q = sw_pl (σ 25) p i) → (i ≤ N → b = sw_pv (σ 25) i) → 100 ≤ m → m ≤ 401 → (m ≤ 400 → ∀ j, j < i → ¬ (sw_sl (σ 11 1) (σ 11 2) (σ 11 3) (σ 1 0) (σ 25) N p m) j) → (∀ k, 100 ≤ k → k < m → ∃ j, j < i ∧ (sw_sl (σ 11 1) (σ 11 2) (σ 11 3) (σ 1 0) (σ 25) N p k) j) → 402 - i < n → sw_E sw_ly sw_rho M_X2_leastRatio 13 [(7, .inl (i : Int)), (6, .inl b), (5, .inl q), (4, .inl m), (0, .inr (.inr 11)), (1, .inl p), (2, .inr (.inr 25)), (3, .inl (N : Int))] [] σ Q := by
  intro n
  induction n with
  | zero =>
    intro i q b m hi eq_ eb_ h1 h2 hok hbad hn
    omega
  | succ n ih =>
    intro i q b m hi eq_ eb_ h1 h2 hok hbad hn
    refine sw_blk k_X2_leastRatio 2 16 [(7, .inl (i : Int)), (6, .inl b), (5, .inl q), (4, .inl m), (0, .inr (.inr 11)), (1, .inl p), (2, .inr (.inr 25)), (3, .inl (N : Int))] [.inl (N : Int), .inl (i : Int)] σ rfl ?_
    refine sw_icmp_gt k_X2_leastRatio rfl (by omega) (by omega) 86 19 (by decide) rfl (fun c1 => ?_) (fun c1 => ?_)
    · refine sw_blk k_X2_leastRatio 2 91 [(7, .inl (i : Int)), (6, .inl b), (5, .inl q), (4, .inl m), (0, .inr (.inr 11)), (1, .inl p), (2, .inr (.inr 25)), (3, .inl (N : Int))] [.inl 400, .inl m] σ rfl ?_
      refine sw_icmp_le k_X2_leastRatio rfl (by omega) (by decide) 98 94 (by decide) rfl (fun c2 => ?_) (fun c2 => ?_)
      · refine sw_blk k_X2_leastRatio 1 100 [(7, .inl (i : Int)), (6, .inl b), (5, .inl q), (4, .inl m), (0, .inr (.inr 11)), (1, .inl p), (2, .inr (.inr 25)), (3, .inl (N : Int))] [.inl m] σ rfl ?_
        refine sw_ireturn k_X2_leastRatio rfl rfl ?_
        refine hQ _ (Or.inl ⟨h1, by omega, fun j j0 j1 => hok (by omega) j (by omega), fun k k1 k2 => ?_⟩)
        obtain ⟨j, j1, j2⟩ := hbad k k1 k2
        exact ⟨j, by omega, by omega, j2⟩
      · refine sw_blk k_X2_leastRatio 2 100 [(7, .inl (i : Int)), (6, .inl b), (5, .inl q), (4, .inl m), (0, .inr (.inr 11)), (1, .inl p), (2, .inr (.inr 25)), (3, .inl (N : Int))] [.inl (-1)] σ rfl ?_
        refine sw_ireturn k_X2_leastRatio rfl rfl ?_
        refine hQ _ (Or.inr ⟨rfl, fun k k1 k2 => ?_⟩)
        obtain ⟨j, j1, j2⟩ := hbad k k1 (by omega)
        exact ⟨j, by omega, by omega, j2⟩
    · refine sw_blk k_X2_leastRatio 1 20 [(7, .inl (i : Int)), (6, .inl b), (5, .inl q), (4, .inl m), (0, .inr (.inr 11)), (1, .inl p), (2, .inr (.inr 25)), (3, .inl (N : Int))] [.inl (N : Int)] σ rfl ?_
      refine sw_if_le k_X2_leastRatio rfl (by omega) 86 23 (by decide) rfl (fun c3 => ?_) (fun c3 => ?_)
      · refine sw_blk k_X2_leastRatio 2 91 [(7, .inl (i : Int)), (6, .inl b), (5, .inl q), (4, .inl m), (0, .inr (.inr 11)), (1, .inl p), (2, .inr (.inr 25)), (3, .inl (N : Int))] [.inl 400, .inl m] σ rfl ?_
        refine sw_icmp_le k_X2_leastRatio rfl (by omega) (by decide) 98 94 (by decide) rfl (fun c4 => ?_) (fun c4 => ?_)
        · refine sw_blk k_X2_leastRatio 1 100 [(7, .inl (i : Int)), (6, .inl b), (5, .inl q), (4, .inl m), (0, .inr (.inr 11)), (1, .inl p), (2, .inr (.inr 25)), (3, .inl (N : Int))] [.inl m] σ rfl ?_
          refine sw_ireturn k_X2_leastRatio rfl rfl ?_
          refine hQ _ (Or.inl ⟨h1, by omega, fun j j0 j1 => hok (by omega) j (by omega), fun k k1 k2 => ?_⟩)
          obtain ⟨j, j1, j2⟩ := hbad k k1 k2
          exact ⟨j, by omega, by omega, j2⟩
        · refine sw_blk k_X2_leastRatio 2 100 [(7, .inl (i : Int)), (6, .inl b), (5, .inl q), (4, .inl m), (0, .inr (.inr 11)), (1, .inl p), (2, .inr (.inr 25)), (3, .inl (N : Int))] [.inl (-1)] σ rfl ?_
          refine sw_ireturn k_X2_leastRatio rfl rfl ?_
          refine hQ _ (Or.inr ⟨rfl, fun k k1 k2 => ?_⟩)
          obtain ⟨j, j1, j2⟩ := hbad k k1 (by omega)
          exact ⟨j, by omega, by omega, j2⟩
      · refine sw_blk k_X2_leastRatio 2 26 [(7, .inl (i : Int)), (6, .inl b), (5, .inl q), (4, .inl m), (0, .inr (.inr 11)), (1, .inl p), (2, .inr (.inr 25)), (3, .inl (N : Int))] [.inl (N : Int), .inl (i : Int)] σ rfl ?_
        refine sw_icmp_ge k_X2_leastRatio rfl (by omega) (by omega) 36 29 (by decide) rfl (fun c5 => ?_) (fun c5 => ?_)
        · have egx : sw_gx (σ 25) N i = 0 := by unfold sw_gx; rw [if_neg (by omega)]
          refine sw_blk k_X2_leastRatio 2 39 [(8, .inl 0), (7, .inl (i : Int)), (6, .inl b), (5, .inl q), (4, .inl m), (0, .inr (.inr 11)), (1, .inl p), (2, .inr (.inr 25)), (3, .inl (N : Int))] [] σ rfl ?_
          refine sw_Lsub [(4, .inl m), (8, .inl 0), (7, .inl (i : Int)), (6, .inl b), (5, .inl q), (0, .inr (.inr 11)), (1, .inl p), (2, .inr (.inr 25)), (3, .inl (N : Int))] [4, 0, 1, 2, 3, 5, 6, 7, 8] rfl ?_
          refine lp_lrIn σ hσ hl0 hl1 hwt hD N p hN hr i (by omega) q b 0 (eq_ (by omega)) (eb_ (by omega)) egx m Q (fun m2 y0 y1 y2 y3 y4 => ?_) 303 m (by omega) h1 h2 (fun k k1 k2 => by omega) (by omega)
          refine sw_blk k_X2_leastRatio 8 13 [(7, .inl ((i : Int) + 1)), (6, .inl 0), (5, .inl (q + 0)), (4, .inl m2), (8, .inl 0), (0, .inr (.inr 11)), (1, .inl p), (2, .inr (.inr 25)), (3, .inl (N : Int))] [] σ rfl ?_
          refine sw_Lsub [(7, .inl ((i : Int) + 1)), (6, .inl 0), (5, .inl (q + 0)), (4, .inl m2), (0, .inr (.inr 11)), (1, .inl p), (2, .inr (.inr 25)), (3, .inl (N : Int))] [0, 1, 2, 3, 5, 6, 7, 8] rfl ?_
          have bnd : ∀ j, j ≤ N → 0 ≤ sw_q0 (σ 11 1) (σ 11 3) (sw_pl (σ 25) p j) (sw_gx (σ 25) N j - sw_pv (σ 25) j) ∧ 0 ≤ sw_q1 (σ 11 2) (σ 11 3) (σ 1 0) (sw_pl (σ 25) p j) (sw_gx (σ 25) N j - sw_pv (σ 25) j) := fun j hj => by
            have z := hr j hj
            exact ⟨(sw_q0b hl0 hwt (by omega) z.2).1, (sw_q1b hl1 hwt (by omega) z.2).1⟩
          refine ih (i + 1) _ _ m2 (by omega) (fun z => by omega) (fun z => by omega) y1 y2 (fun z j hj => ?_) (fun k k1 k2 => ?_) (by omega)
          · rcases Nat.lt_or_ge j i with y | y
            · intro w1; exact hok (by omega) j y (sw_slp_mono (bnd j (by omega)).1 (bnd j (by omega)).2 y0 w1)
            · rw [show j = i by omega]; exact y3 z
          · rcases Int.lt_or_le k m with y | y
            · obtain ⟨j, j1, j2⟩ := hbad k k1 y; exact ⟨j, by omega, j2⟩
            · exact ⟨i, by omega, y4 k y k2⟩
        · have egx : sw_gx (σ 25) N i = (σ 25 i) := by unfold sw_gx; rw [if_pos (by omega)]
          refine sw_blk k_X2_leastRatio 2 32 [(7, .inl (i : Int)), (6, .inl b), (5, .inl q), (4, .inl m), (0, .inr (.inr 11)), (1, .inl p), (2, .inr (.inr 25)), (3, .inl (N : Int))] [.inl (i : Int), .inr (.inr 25)] σ rfl ?_
          refine sw_iald k_X2_leastRatio rfl (i := 25) (n := 400) rfl (by decide) (by omega) (by omega) 33 rfl ?_
          refine sw_blk k_X2_leastRatio 2 39 [(8, .inl (σ 25 i)), (7, .inl (i : Int)), (6, .inl b), (5, .inl q), (4, .inl m), (0, .inr (.inr 11)), (1, .inl p), (2, .inr (.inr 25)), (3, .inl (N : Int))] [] σ rfl ?_
          refine sw_Lsub [(4, .inl m), (8, .inl (σ 25 i)), (7, .inl (i : Int)), (6, .inl b), (5, .inl q), (0, .inr (.inr 11)), (1, .inl p), (2, .inr (.inr 25)), (3, .inl (N : Int))] [4, 0, 1, 2, 3, 5, 6, 7, 8] rfl ?_
          refine lp_lrIn σ hσ hl0 hl1 hwt hD N p hN hr i (by omega) q b (σ 25 i) (eq_ (by omega)) (eb_ (by omega)) egx m Q (fun m2 y0 y1 y2 y3 y4 => ?_) 303 m (by omega) h1 h2 (fun k k1 k2 => by omega) (by omega)
          refine sw_blk k_X2_leastRatio 8 13 [(7, .inl ((i : Int) + 1)), (6, .inl (σ 25 i)), (5, .inl (q + (σ 25 i))), (4, .inl m2), (8, .inl (σ 25 i)), (0, .inr (.inr 11)), (1, .inl p), (2, .inr (.inr 25)), (3, .inl (N : Int))] [] σ rfl ?_
          refine sw_Lsub [(7, .inl ((i : Int) + 1)), (6, .inl (σ 25 i)), (5, .inl (q + (σ 25 i))), (4, .inl m2), (0, .inr (.inr 11)), (1, .inl p), (2, .inr (.inr 25)), (3, .inl (N : Int))] [0, 1, 2, 3, 5, 6, 7, 8] rfl ?_
          have bnd : ∀ j, j ≤ N → 0 ≤ sw_q0 (σ 11 1) (σ 11 3) (sw_pl (σ 25) p j) (sw_gx (σ 25) N j - sw_pv (σ 25) j) ∧ 0 ≤ sw_q1 (σ 11 2) (σ 11 3) (σ 1 0) (sw_pl (σ 25) p j) (sw_gx (σ 25) N j - sw_pv (σ 25) j) := fun j hj => by
            have z := hr j hj
            exact ⟨(sw_q0b hl0 hwt (by omega) z.2).1, (sw_q1b hl1 hwt (by omega) z.2).1⟩
          refine ih (i + 1) _ _ m2 (by omega) (fun z => by rw [sw_pl, ← eq_ (by omega)]) (fun z => by rfl) y1 y2 (fun z j hj => ?_) (fun k k1 k2 => ?_) (by omega)
          · rcases Nat.lt_or_ge j i with y | y
            · intro w1; exact hok (by omega) j y (sw_slp_mono (bnd j (by omega)).1 (bnd j (by omega)).2 y0 w1)
            · rw [show j = i by omega]; exact y3 z
          · rcases Int.lt_or_le k m with y | y
            · obtain ⟨j, j1, j2⟩ := hbad k k1 y; exact ⟨j, by omega, j2⟩
            · exact ⟨i, by omega, y4 k y k2⟩
theorem sp_lratio (σ : sw_S) (hσ : sw_gs σ) (hl0 : 0 ≤ σ 11 1 ∧ σ 11 1 ≤ 1000) (hl1 : 0 ≤ σ 11 2 ∧ σ 11 2 ≤ 1000) (hwt : 0 ≤ σ 11 3 ∧ σ 11 3 ≤ 10) (hD : 10 ≤ σ 1 0 ∧ σ 1 0 ≤ 400) (N : Nat) (p : Int) (hN : N ≤ 400) (hr : sw_rk (σ 1 0) (σ 25) N p) : sw_Con sw_ly sw_rho M_X2_leastRatio [.inr (.inr 11), .inl p, .inr (.inr 25), .inl (N : Int)] σ (fun r σ' => σ = σ' ∧ ∃ x : Int, r = some (.inl x) ∧ sw_lr (fun k => (sw_sl (σ 11 1) (σ 11 2) (σ 11 3) (σ 1 0) (σ 25) N p k)) N x) := by
  refine sw_con (by decide) (Nat.le_of_ble_eq_true rfl) ?_
  refine sw_blk k_X2_leastRatio 8 13 [(7, .inl 0), (6, .inl 0), (5, .inl p), (4, .inl 100), (0, .inr (.inr 11)), (1, .inl p), (2, .inr (.inr 25)), (3, .inl (N : Int))] [] σ rfl ?_
  exact lp_lrOut σ hσ hl0 hl1 hwt hD N p hN hr _ (fun x hx => ⟨rfl, x, rfl, hx⟩) 403 0 p 0 100 ⟨by omega, fun _ => rfl⟩ (fun _ => rfl) (fun _ => rfl) (by omega) (by omega) (fun _ j hj => absurd hj (Nat.not_lt_zero j)) (fun k k1 k2 => by omega) (by omega)
end
section
theorem cc_shaft (σ : sw_S) (hσ : sw_gs σ) (d v a : Int) (gd : sw_g d) (gv : sw_g v) (ga : sw_g a) : sw_Con sw_ly sw_rho M_X7_shaft [.inr (.inr 0), .inl d, .inl v, .inl a] σ (fun r σ' => (¬ ((10 ≤ d ∧ d ≤ 400) ∧ (1 ≤ v ∧ v ≤ 20) ∧ (1 ≤ a ∧ a ≤ 5)) ∧ r = some (.inl (-2)) ∧ σ = σ') ∨ ((((10 ≤ d ∧ d ≤ 400) ∧ (1 ≤ v ∧ v ≤ 20) ∧ (1 ≤ a ∧ a ≤ 5)) ∧ ¬ σ 5 9 = 0) ∧ r = some (.inl (-4)) ∧ σ = σ') ∨ ((((10 ≤ d ∧ d ≤ 400) ∧ (1 ≤ v ∧ v ≤ 20) ∧ (1 ≤ a ∧ a ≤ 5)) ∧ σ 5 9 = 0) ∧ r = some (.inl (1)) ∧ (sw_u (sw_u (sw_u (sw_fl (sw_u (sw_u (sw_u (sw_u σ 1 0 d) 1 1 v) 1 2 a) 1 3 0) 2 401 v) 3 2 (-1)) 0 8 0) 5 7 0) = σ')) := by
  refine sw_con (by decide) (Nat.le_of_ble_eq_true rfl) ?_
  refine sw_blk k_X7_shaft 3 6 [(0, .inr (.inr 0)), (1, .inl d), (2, .inl v), (3, .inl a)] [.inl 400, .inl 10, .inl d] σ rfl ?_
  refine sw_callS k_X7_shaft rfl cS_X7_within ml_X7_63 ⟨by decide, by decide⟩ [.inl d, .inl 10, .inl 400] [] rfl rfl (Nat.le_of_ble_eq_true rfl) 9 rfl (sp_within σ d 10 400 (by omega) (by decide) (by decide)) (fun r2 σ3 hq4 => ?_)
  obtain ⟨rfl, ⟨p1, rfl⟩ | ⟨p1, rfl⟩⟩ := hq4
  · refine sw_blk k_X7_shaft 0 9 [(0, .inr (.inr 0)), (1, .inl d), (2, .inl v), (3, .inl a)] [.inl 1] σ rfl ?_
    refine sw_if_eq k_X7_shaft rfl (by decide) 31 12 (by decide) rfl (fun c => absurd c (by decide)) (fun _ => ?_)
    refine sw_blk k_X7_shaft 3 16 [(0, .inr (.inr 0)), (1, .inl d), (2, .inl v), (3, .inl a)] [.inl 20, .inl 1, .inl v] σ rfl ?_
    refine sw_callS k_X7_shaft rfl cS_X7_within ml_X7_63 ⟨by decide, by decide⟩ [.inl v, .inl 1, .inl 20] [] rfl rfl (Nat.le_of_ble_eq_true rfl) 19 rfl (sp_within σ v 1 20 (by omega) (by decide) (by decide)) (fun r6 σ7 hq8 => ?_)
    obtain ⟨rfl, ⟨p5, rfl⟩ | ⟨p5, rfl⟩⟩ := hq8
    · refine sw_blk k_X7_shaft 0 19 [(0, .inr (.inr 0)), (1, .inl d), (2, .inl v), (3, .inl a)] [.inl 1] σ rfl ?_
      refine sw_if_eq k_X7_shaft rfl (by decide) 31 22 (by decide) rfl (fun c => absurd c (by decide)) (fun _ => ?_)
      refine sw_blk k_X7_shaft 3 25 [(0, .inr (.inr 0)), (1, .inl d), (2, .inl v), (3, .inl a)] [.inl 5, .inl 1, .inl a] σ rfl ?_
      refine sw_callS k_X7_shaft rfl cS_X7_within ml_X7_63 ⟨by decide, by decide⟩ [.inl a, .inl 1, .inl 5] [] rfl rfl (Nat.le_of_ble_eq_true rfl) 28 rfl (sp_within σ a 1 5 (by omega) (by decide) (by decide)) (fun r10 σ11 hq12 => ?_)
      obtain ⟨rfl, ⟨p9, rfl⟩ | ⟨p9, rfl⟩⟩ := hq12
      · refine sw_blk k_X7_shaft 0 28 [(0, .inr (.inr 0)), (1, .inl d), (2, .inl v), (3, .inl a)] [.inl 1] σ rfl ?_
        refine sw_if_ne k_X7_shaft rfl (by decide) 34 31 (by decide) rfl (fun _ => ?_) (fun c => absurd c (by decide))
        refine sw_blk k_X7_shaft 2 38 [(0, .inr (.inr 0)), (1, .inl d), (2, .inl v), (3, .inl a)] [.inr (.inr 5)] σ rfl ?_
        refine sw_callV k_X7_shaft rfl cV_X6_rests ml_X7_67 ⟨by decide, by decide⟩ 5 rfl rfl [] [] rfl rfl (Nat.le_of_ble_eq_true rfl) 41 rfl (sp_rests σ  (hσ 5 _)) (fun r14 σ15 hq16 => ?_)
        obtain ⟨rfl, ⟨p13, rfl⟩ | ⟨p13, rfl⟩⟩ := hq16
        · refine sw_blk k_X7_shaft 0 41 [(0, .inr (.inr 0)), (1, .inl d), (2, .inl v), (3, .inl a)] [.inl 1] σ rfl ?_
          refine sw_if_ne k_X7_shaft rfl (by decide) 47 44 (by decide) rfl (fun _ => ?_) (fun c => absurd c (by decide))
          refine sw_blk k_X7_shaft 5 54 [(0, .inr (.inr 0)), (1, .inl d), (2, .inl v), (3, .inl a)] [.inl a, .inl v, .inl d, .inr (.inr 1)] σ rfl ?_
          refine sw_callV k_X7_shaft rfl cV_X3_renew ml_X7_71 ⟨by decide, by decide⟩ 1 rfl rfl [.inl d, .inl v, .inl a] [] rfl rfl (Nat.le_of_ble_eq_true rfl) 57 rfl (sp_renew σ d v a) (fun r17 σ18 hq19 => ?_)
          obtain ⟨rfl, rfl⟩ := hq19
          refine sw_blk k_X7_shaft 2 61 [(0, .inr (.inr 0)), (1, .inl d), (2, .inl v), (3, .inl a)] [.inr (.inr 3)] (sw_fl (sw_u (sw_u (sw_u (sw_u σ 1 0 d) 1 1 v) 1 2 a) 1 3 0) 2 401 v) rfl ?_
          refine sw_callV k_X7_shaft rfl cV_X1_forget ml_X7_75 ⟨by decide, by decide⟩ 3 rfl rfl [] [] rfl rfl (Nat.le_of_ble_eq_true rfl) 64 rfl (sp_forget (sw_fl (sw_u (sw_u (sw_u (sw_u σ 1 0 d) 1 1 v) 1 2 a) 1 3 0) 2 401 v)  ) (fun r20 σ21 hq22 => ?_)
          obtain ⟨rfl, rfl⟩ := hq22
          refine sw_blk k_X7_shaft 8 78 [(0, .inr (.inr 0)), (1, .inl d), (2, .inl v), (3, .inl a)] [.inl 1] (sw_u (sw_u (sw_u (sw_fl (sw_u (sw_u (sw_u (sw_u σ 1 0 d) 1 1 v) 1 2 a) 1 3 0) 2 401 v) 3 2 (-1)) 0 8 0) 5 7 0) rfl ?_
          refine sw_ireturn k_X7_shaft rfl rfl ?_
          exact Or.inr (Or.inr (⟨by omega, rfl, rfl⟩))
        · refine sw_blk k_X7_shaft 0 41 [(0, .inr (.inr 0)), (1, .inl d), (2, .inl v), (3, .inl a)] [.inl 0] σ rfl ?_
          refine sw_if_ne k_X7_shaft rfl (by decide) 47 44 (by decide) rfl (fun c => absurd (by decide) c) (fun _ => ?_)
          refine sw_blk k_X7_shaft 1 46 [(0, .inr (.inr 0)), (1, .inl d), (2, .inl v), (3, .inl a)] [.inl (-4)] σ rfl ?_
          refine sw_ireturn k_X7_shaft rfl rfl ?_
          exact Or.inr (Or.inl ⟨by omega, rfl, rfl⟩)
      · refine sw_blk k_X7_shaft 0 28 [(0, .inr (.inr 0)), (1, .inl d), (2, .inl v), (3, .inl a)] [.inl 0] σ rfl ?_
        refine sw_if_ne k_X7_shaft rfl (by decide) 34 31 (by decide) rfl (fun c => absurd (by decide) c) (fun _ => ?_)
        refine sw_blk k_X7_shaft 1 33 [(0, .inr (.inr 0)), (1, .inl d), (2, .inl v), (3, .inl a)] [.inl (-2)] σ rfl ?_
        refine sw_ireturn k_X7_shaft rfl rfl ?_
        exact Or.inl ⟨by omega, rfl, rfl⟩
    · refine sw_blk k_X7_shaft 0 19 [(0, .inr (.inr 0)), (1, .inl d), (2, .inl v), (3, .inl a)] [.inl 0] σ rfl ?_
      refine sw_if_eq k_X7_shaft rfl (by decide) 31 22 (by decide) rfl (fun _ => ?_) (fun c => absurd (by decide) c)
      refine sw_blk k_X7_shaft 1 33 [(0, .inr (.inr 0)), (1, .inl d), (2, .inl v), (3, .inl a)] [.inl (-2)] σ rfl ?_
      refine sw_ireturn k_X7_shaft rfl rfl ?_
      exact Or.inl ⟨by omega, rfl, rfl⟩
  · refine sw_blk k_X7_shaft 0 9 [(0, .inr (.inr 0)), (1, .inl d), (2, .inl v), (3, .inl a)] [.inl 0] σ rfl ?_
    refine sw_if_eq k_X7_shaft rfl (by decide) 31 12 (by decide) rfl (fun _ => ?_) (fun c => absurd (by decide) c)
    refine sw_blk k_X7_shaft 1 33 [(0, .inr (.inr 0)), (1, .inl d), (2, .inl v), (3, .inl a)] [.inl (-2)] σ rfl ?_
    refine sw_ireturn k_X7_shaft rfl rfl ?_
    exact Or.inl ⟨by omega, rfl, rfl⟩
theorem cc_stop (σ : sw_S) (hσ : sw_gs σ) (p c : Int) (gp : sw_g p) (gc : sw_g c) (hst : 0 ≤ σ 0 8 ∧ σ 0 8 ≤ 6) : sw_Con sw_ly sw_rho M_X7_stop [.inr (.inr 0), .inl p, .inl c] σ (fun r σ' => (¬ ((0 ≤ p ∧ p ≤ σ 1 0) ∧ (1 ≤ c ∧ c ≤ 9)) ∧ r = some (.inl (-2)) ∧ σ = σ') ∨ ((((0 ≤ p ∧ p ≤ σ 1 0) ∧ (1 ≤ c ∧ c ≤ 9)) ∧ 6 ≤ σ 0 8) ∧ r = some (.inl (-3)) ∧ σ = σ') ∨ ((((0 ≤ p ∧ p ≤ σ 1 0) ∧ (1 ≤ c ∧ c ≤ 9)) ∧ σ 0 8 < 6) ∧ r = some (.inl (σ 0 8 + 1 - 1)) ∧ (sw_u (sw_u (sw_u σ 23 (σ 0 8).toNat p) 24 (σ 0 8).toNat c) 0 8 (σ 0 8 + 1)) = σ')) := by
  refine sw_con (by decide) (Nat.le_of_ble_eq_true rfl) ?_
  refine sw_blk k_X7_stop 3 5 [(0, .inr (.inr 0)), (1, .inl p), (2, .inl c)] [.inl p, .inr (.inr 1)] σ rfl ?_
  refine sw_callV k_X7_stop rfl cV_X3_has ml_X7_85 ⟨by decide, by decide⟩ 1 rfl rfl [.inl p] [] rfl rfl (Nat.le_of_ble_eq_true rfl) 8 rfl (sp_has σ p (by omega) (hσ 1 0)) (fun r2 σ3 hq4 => ?_)
  obtain ⟨rfl, ⟨p1, rfl⟩ | ⟨p1, rfl⟩⟩ := hq4
  · have p1 : 0 ≤ p ∧ p ≤ (σ 1 0) := p1
    refine sw_blk k_X7_stop 0 8 [(0, .inr (.inr 0)), (1, .inl p), (2, .inl c)] [.inl 1] σ rfl ?_
    refine sw_if_eq k_X7_stop rfl (by decide) 21 11 (by decide) rfl (fun c => absurd c (by decide)) (fun _ => ?_)
    refine sw_blk k_X7_stop 3 15 [(0, .inr (.inr 0)), (1, .inl p), (2, .inl c)] [.inl 9, .inl 1, .inl c] σ rfl ?_
    refine sw_callS k_X7_stop rfl cS_X7_within ml_X7_63 ⟨by decide, by decide⟩ [.inl c, .inl 1, .inl 9] [] rfl rfl (Nat.le_of_ble_eq_true rfl) 18 rfl (sp_within σ c 1 9 (by omega) (by decide) (by decide)) (fun r6 σ7 hq8 => ?_)
    obtain ⟨rfl, ⟨p5, rfl⟩ | ⟨p5, rfl⟩⟩ := hq8
    · refine sw_blk k_X7_stop 0 18 [(0, .inr (.inr 0)), (1, .inl p), (2, .inl c)] [.inl 1] σ rfl ?_
      refine sw_if_ne k_X7_stop rfl (by decide) 24 21 (by decide) rfl (fun _ => ?_) (fun c => absurd c (by decide))
      refine sw_blk k_X7_stop 3 30 [(0, .inr (.inr 0)), (1, .inl p), (2, .inl c)] [.inl 6, .inl (σ 0 8)] σ rfl ?_
      refine sw_icmp_lt k_X7_stop rfl (hσ 0 _) (by decide) 36 33 (by decide) rfl (fun c9 => ?_) (fun c9 => ?_)
      · refine sw_blk k_X7_stop 5 45 [(0, .inr (.inr 0)), (1, .inl p), (2, .inl c)] [.inl p, .inl (σ 0 8), .inr (.inr 23)] σ rfl ?_
        refine sw_iast k_X7_stop rfl (i := 23) (n := 6) rfl (by decide) (by omega) (by omega) 46 rfl ?_
        refine sw_blk k_X7_stop 5 55 [(0, .inr (.inr 0)), (1, .inl p), (2, .inl c)] [.inl c, .inl (σ 0 8), .inr (.inr 24)] (sw_u σ 23 ((σ 0 8).toNat) p) rfl ?_
        refine sw_iast k_X7_stop rfl (i := 24) (n := 6) rfl (by decide) (by omega) (by omega) 56 rfl ?_
        refine sw_blk k_X7_stop 10 72 [(0, .inr (.inr 0)), (1, .inl p), (2, .inl c)] [.inl (((σ 0 8) + 1) - 1)] (sw_u (sw_u (sw_u σ 23 ((σ 0 8).toNat) p) 24 ((σ 0 8).toNat) c) 0 8 ((σ 0 8) + 1)) rfl ?_
        refine sw_ireturn k_X7_stop rfl rfl ?_
        exact Or.inr (Or.inr (⟨by omega, rfl, rfl⟩))
      · refine sw_blk k_X7_stop 1 35 [(0, .inr (.inr 0)), (1, .inl p), (2, .inl c)] [.inl (-3)] σ rfl ?_
        refine sw_ireturn k_X7_stop rfl rfl ?_
        exact Or.inr (Or.inl ⟨by omega, rfl, rfl⟩)
    · refine sw_blk k_X7_stop 0 18 [(0, .inr (.inr 0)), (1, .inl p), (2, .inl c)] [.inl 0] σ rfl ?_
      refine sw_if_ne k_X7_stop rfl (by decide) 24 21 (by decide) rfl (fun c => absurd (by decide) c) (fun _ => ?_)
      refine sw_blk k_X7_stop 1 23 [(0, .inr (.inr 0)), (1, .inl p), (2, .inl c)] [.inl (-2)] σ rfl ?_
      refine sw_ireturn k_X7_stop rfl rfl ?_
      exact Or.inl ⟨by omega, rfl, rfl⟩
  · have p1 : ¬ (0 ≤ p ∧ p ≤ (σ 1 0)) := p1
    refine sw_blk k_X7_stop 0 8 [(0, .inr (.inr 0)), (1, .inl p), (2, .inl c)] [.inl 0] σ rfl ?_
    refine sw_if_eq k_X7_stop rfl (by decide) 21 11 (by decide) rfl (fun _ => ?_) (fun c => absurd (by decide) c)
    refine sw_blk k_X7_stop 1 23 [(0, .inr (.inr 0)), (1, .inl p), (2, .inl c)] [.inl (-2)] σ rfl ?_
    refine sw_ireturn k_X7_stop rfl rfl ?_
    exact Or.inl ⟨by omega, rfl, rfl⟩
theorem cc_ring (σ : sw_S) (k : Int) (gk : sw_g k) : sw_Con sw_ly sw_rho M_X7_ring [.inr (.inr 0), .inl k] σ (fun r σ' => (¬ (1 ≤ k ∧ k ≤ 9) ∧ r = some (.inl (-2)) ∧ σ = σ') ∨ ((1 ≤ k ∧ k ≤ 9) ∧ r = some (.inl (1)) ∧ (sw_u σ 5 10 k) = σ')) := by
  refine sw_con (by decide) (Nat.le_of_ble_eq_true rfl) ?_
  refine sw_blk k_X7_ring 3 4 [(0, .inr (.inr 0)), (1, .inl k)] [.inl 9, .inl 1, .inl k] σ rfl ?_
  refine sw_callS k_X7_ring rfl cS_X7_within ml_X7_63 ⟨by decide, by decide⟩ [.inl k, .inl 1, .inl 9] [] rfl rfl (Nat.le_of_ble_eq_true rfl) 7 rfl (sp_within σ k 1 9 (by omega) (by decide) (by decide)) (fun r2 σ3 hq4 => ?_)
  obtain ⟨rfl, ⟨p1, rfl⟩ | ⟨p1, rfl⟩⟩ := hq4
  · refine sw_blk k_X7_ring 0 7 [(0, .inr (.inr 0)), (1, .inl k)] [.inl 1] σ rfl ?_
    refine sw_if_ne k_X7_ring rfl (by decide) 13 10 (by decide) rfl (fun _ => ?_) (fun c => absurd c (by decide))
    refine sw_blk k_X7_ring 5 22 [(0, .inr (.inr 0)), (1, .inl k)] [.inl 1] (sw_u σ 5 10 k) rfl ?_
    refine sw_ireturn k_X7_ring rfl rfl ?_
    exact Or.inr (⟨by omega, rfl, rfl⟩)
  · refine sw_blk k_X7_ring 0 7 [(0, .inr (.inr 0)), (1, .inl k)] [.inl 0] σ rfl ?_
    refine sw_if_ne k_X7_ring rfl (by decide) 13 10 (by decide) rfl (fun c => absurd (by decide) c) (fun _ => ?_)
    refine sw_blk k_X7_ring 1 12 [(0, .inr (.inr 0)), (1, .inl k)] [.inl (-2)] σ rfl ?_
    refine sw_ireturn k_X7_ring rfl rfl ?_
    exact Or.inl ⟨by omega, rfl, rfl⟩
theorem cc_link (σ : sw_S) (l c : Int) (gl : sw_g l) (gc : sw_g c) : sw_Con sw_ly sw_rho M_X7_link [.inr (.inr 0), .inl l, .inl c] σ (fun r σ' => (¬ ((0 ≤ l ∧ l ≤ 7)) ∧ r = some (.inl (-2)) ∧ σ = σ') ∨ ((((0 ≤ l ∧ l ≤ 7)) ∧ c = 0) ∧ r = some (.inl (1)) ∧ (sw_u σ 8 l.toNat 1) = σ') ∨ ((((0 ≤ l ∧ l ≤ 7)) ∧ ¬ c = 0) ∧ r = some (.inl (1)) ∧ (sw_u σ 8 l.toNat 0) = σ')) := by
  refine sw_con (by decide) (Nat.le_of_ble_eq_true rfl) ?_
  refine sw_blk k_X7_link 3 4 [(0, .inr (.inr 0)), (1, .inl l), (2, .inl c)] [.inl 7, .inl 0, .inl l] σ rfl ?_
  refine sw_callS k_X7_link rfl cS_X7_within ml_X7_63 ⟨by decide, by decide⟩ [.inl l, .inl 0, .inl 7] [] rfl rfl (Nat.le_of_ble_eq_true rfl) 7 rfl (sp_within σ l 0 7 (by omega) (by decide) (by decide)) (fun r2 σ3 hq4 => ?_)
  obtain ⟨rfl, ⟨p1, rfl⟩ | ⟨p1, rfl⟩⟩ := hq4
  · refine sw_blk k_X7_link 0 7 [(0, .inr (.inr 0)), (1, .inl l), (2, .inl c)] [.inl 1] σ rfl ?_
    refine sw_if_ne k_X7_link rfl (by decide) 13 10 (by decide) rfl (fun _ => ?_) (fun c => absurd c (by decide))
    refine sw_blk k_X7_link 5 22 [(0, .inr (.inr 0)), (1, .inl l), (2, .inl c)] [.inl c, .inl l, .inr (.inr 8)] σ rfl ?_
    refine sw_if_ne k_X7_link rfl (by omega) 29 25 (by decide) rfl (fun c5 => ?_) (fun c5 => ?_)
    · refine sw_blk k_X7_link 1 30 [(0, .inr (.inr 0)), (1, .inl l), (2, .inl c)] [.inl 0, .inl l, .inr (.inr 8)] σ rfl ?_
      refine sw_zast k_X7_link rfl (i := 8) (n := 8) rfl (by decide) (by omega) (by omega) (by decide) 31 rfl ?_
      refine sw_blk k_X7_link 1 32 [(0, .inr (.inr 0)), (1, .inl l), (2, .inl c)] [.inl 1] (sw_u σ 8 l.toNat 0) rfl ?_
      refine sw_ireturn k_X7_link rfl rfl ?_
      exact Or.inr (Or.inr (⟨by omega, rfl, rfl⟩))
    · refine sw_blk k_X7_link 2 30 [(0, .inr (.inr 0)), (1, .inl l), (2, .inl c)] [.inl 1, .inl l, .inr (.inr 8)] σ rfl ?_
      refine sw_zast k_X7_link rfl (i := 8) (n := 8) rfl (by decide) (by omega) (by omega) (by decide) 31 rfl ?_
      refine sw_blk k_X7_link 1 32 [(0, .inr (.inr 0)), (1, .inl l), (2, .inl c)] [.inl 1] (sw_u σ 8 l.toNat 1) rfl ?_
      refine sw_ireturn k_X7_link rfl rfl ?_
      exact Or.inr (Or.inl ⟨by omega, rfl, rfl⟩)
  · refine sw_blk k_X7_link 0 7 [(0, .inr (.inr 0)), (1, .inl l), (2, .inl c)] [.inl 0] σ rfl ?_
    refine sw_if_ne k_X7_link rfl (by decide) 13 10 (by decide) rfl (fun c => absurd (by decide) c) (fun _ => ?_)
    refine sw_blk k_X7_link 1 12 [(0, .inr (.inr 0)), (1, .inl l), (2, .inl c)] [.inl (-2)] σ rfl ?_
    refine sw_ireturn k_X7_link rfl rfl ?_
    exact Or.inl ⟨by omega, rfl, rfl⟩
theorem cc_error (σ : sw_S) (s e : Int) (gs : sw_g s) (ge : sw_g e) : sw_Con sw_ly sw_rho M_X7_error [.inr (.inr 0), .inl s, .inl e] σ (fun r σ' => (¬ ((0 ≤ s ∧ s ≤ 2) ∧ (-1000 ≤ e ∧ e ≤ 1000)) ∧ r = some (.inl (-2)) ∧ σ = σ') ∨ (((0 ≤ s ∧ s ≤ 2) ∧ (-1000 ≤ e ∧ e ≤ 1000)) ∧ r = some (.inl (1)) ∧ (sw_u σ 9 s.toNat e) = σ')) := by
  refine sw_con (by decide) (Nat.le_of_ble_eq_true rfl) ?_
  refine sw_blk k_X7_error 3 3 [(0, .inr (.inr 0)), (1, .inl s), (2, .inl e)] [.inl 2, .inl 0, .inl s] σ rfl ?_
  refine sw_callS k_X7_error rfl cS_X7_within ml_X7_63 ⟨by decide, by decide⟩ [.inl s, .inl 0, .inl 2] [] rfl rfl (Nat.le_of_ble_eq_true rfl) 6 rfl (sp_within σ s 0 2 (by omega) (by decide) (by decide)) (fun r2 σ3 hq4 => ?_)
  obtain ⟨rfl, ⟨p1, rfl⟩ | ⟨p1, rfl⟩⟩ := hq4
  · refine sw_blk k_X7_error 0 6 [(0, .inr (.inr 0)), (1, .inl s), (2, .inl e)] [.inl 1] σ rfl ?_
    refine sw_if_eq k_X7_error rfl (by decide) 22 9 (by decide) rfl (fun c => absurd c (by decide)) (fun _ => ?_)
    refine sw_blk k_X7_error 3 16 [(0, .inr (.inr 0)), (1, .inl s), (2, .inl e)] [.inl 1000, .inl (-1000), .inl e] σ rfl ?_
    refine sw_callS k_X7_error rfl cS_X7_within ml_X7_63 ⟨by decide, by decide⟩ [.inl e, .inl (-1000), .inl 1000] [] rfl rfl (Nat.le_of_ble_eq_true rfl) 19 rfl (sp_within σ e (-1000) 1000 (by omega) (by decide) (by decide)) (fun r6 σ7 hq8 => ?_)
    obtain ⟨rfl, ⟨p5, rfl⟩ | ⟨p5, rfl⟩⟩ := hq8
    · refine sw_blk k_X7_error 0 19 [(0, .inr (.inr 0)), (1, .inl s), (2, .inl e)] [.inl 1] σ rfl ?_
      refine sw_if_ne k_X7_error rfl (by decide) 25 22 (by decide) rfl (fun _ => ?_) (fun c => absurd c (by decide))
      refine sw_blk k_X7_error 5 34 [(0, .inr (.inr 0)), (1, .inl s), (2, .inl e)] [.inl e, .inl s, .inr (.inr 9)] σ rfl ?_
      refine sw_iast k_X7_error rfl (i := 9) (n := 3) rfl (by decide) (by omega) (by omega) 35 rfl ?_
      refine sw_blk k_X7_error 1 36 [(0, .inr (.inr 0)), (1, .inl s), (2, .inl e)] [.inl 1] (sw_u σ 9 s.toNat e) rfl ?_
      refine sw_ireturn k_X7_error rfl rfl ?_
      exact Or.inr (⟨by omega, rfl, rfl⟩)
    · refine sw_blk k_X7_error 0 19 [(0, .inr (.inr 0)), (1, .inl s), (2, .inl e)] [.inl 0] σ rfl ?_
      refine sw_if_ne k_X7_error rfl (by decide) 25 22 (by decide) rfl (fun c => absurd (by decide) c) (fun _ => ?_)
      refine sw_blk k_X7_error 1 24 [(0, .inr (.inr 0)), (1, .inl s), (2, .inl e)] [.inl (-2)] σ rfl ?_
      refine sw_ireturn k_X7_error rfl rfl ?_
      exact Or.inl ⟨by omega, rfl, rfl⟩
  · refine sw_blk k_X7_error 0 6 [(0, .inr (.inr 0)), (1, .inl s), (2, .inl e)] [.inl 0] σ rfl ?_
    refine sw_if_eq k_X7_error rfl (by decide) 22 9 (by decide) rfl (fun _ => ?_) (fun c => absurd (by decide) c)
    refine sw_blk k_X7_error 1 24 [(0, .inr (.inr 0)), (1, .inl s), (2, .inl e)] [.inl (-2)] σ rfl ?_
    refine sw_ireturn k_X7_error rfl rfl ?_
    exact Or.inl ⟨by omega, rfl, rfl⟩
theorem cc_guard (σ : sw_S) (m b : Int) (gm : sw_g m) (gb : sw_g b) : sw_Con sw_ly sw_rho M_X7_guard [.inr (.inr 0), .inl m, .inl b] σ (fun r σ' => (¬ ((0 ≤ m ∧ m ≤ 20) ∧ (1 ≤ b ∧ b ≤ 10)) ∧ r = some (.inl (-2)) ∧ σ = σ') ∨ (((0 ≤ m ∧ m ≤ 20) ∧ (1 ≤ b ∧ b ≤ 10)) ∧ r = some (.inl (1)) ∧ (sw_u (sw_u σ 5 11 m) 5 12 b) = σ')) := by
  refine sw_con (by decide) (Nat.le_of_ble_eq_true rfl) ?_
  refine sw_blk k_X7_guard 3 4 [(0, .inr (.inr 0)), (1, .inl m), (2, .inl b)] [.inl 20, .inl 0, .inl m] σ rfl ?_
  refine sw_callS k_X7_guard rfl cS_X7_within ml_X7_63 ⟨by decide, by decide⟩ [.inl m, .inl 0, .inl 20] [] rfl rfl (Nat.le_of_ble_eq_true rfl) 7 rfl (sp_within σ m 0 20 (by omega) (by decide) (by decide)) (fun r2 σ3 hq4 => ?_)
  obtain ⟨rfl, ⟨p1, rfl⟩ | ⟨p1, rfl⟩⟩ := hq4
  · refine sw_blk k_X7_guard 0 7 [(0, .inr (.inr 0)), (1, .inl m), (2, .inl b)] [.inl 1] σ rfl ?_
    refine sw_if_eq k_X7_guard rfl (by decide) 20 10 (by decide) rfl (fun c => absurd c (by decide)) (fun _ => ?_)
    refine sw_blk k_X7_guard 3 14 [(0, .inr (.inr 0)), (1, .inl m), (2, .inl b)] [.inl 10, .inl 1, .inl b] σ rfl ?_
    refine sw_callS k_X7_guard rfl cS_X7_within ml_X7_63 ⟨by decide, by decide⟩ [.inl b, .inl 1, .inl 10] [] rfl rfl (Nat.le_of_ble_eq_true rfl) 17 rfl (sp_within σ b 1 10 (by omega) (by decide) (by decide)) (fun r6 σ7 hq8 => ?_)
    obtain ⟨rfl, ⟨p5, rfl⟩ | ⟨p5, rfl⟩⟩ := hq8
    · refine sw_blk k_X7_guard 0 17 [(0, .inr (.inr 0)), (1, .inl m), (2, .inl b)] [.inl 1] σ rfl ?_
      refine sw_if_ne k_X7_guard rfl (by decide) 23 20 (by decide) rfl (fun _ => ?_) (fun c => absurd c (by decide))
      refine sw_blk k_X7_guard 9 40 [(0, .inr (.inr 0)), (1, .inl m), (2, .inl b)] [.inl 1] (sw_u (sw_u σ 5 11 m) 5 12 b) rfl ?_
      refine sw_ireturn k_X7_guard rfl rfl ?_
      exact Or.inr (⟨by omega, rfl, rfl⟩)
    · refine sw_blk k_X7_guard 0 17 [(0, .inr (.inr 0)), (1, .inl m), (2, .inl b)] [.inl 0] σ rfl ?_
      refine sw_if_ne k_X7_guard rfl (by decide) 23 20 (by decide) rfl (fun c => absurd (by decide) c) (fun _ => ?_)
      refine sw_blk k_X7_guard 1 22 [(0, .inr (.inr 0)), (1, .inl m), (2, .inl b)] [.inl (-2)] σ rfl ?_
      refine sw_ireturn k_X7_guard rfl rfl ?_
      exact Or.inl ⟨by omega, rfl, rfl⟩
  · refine sw_blk k_X7_guard 0 7 [(0, .inr (.inr 0)), (1, .inl m), (2, .inl b)] [.inl 0] σ rfl ?_
    refine sw_if_eq k_X7_guard rfl (by decide) 20 10 (by decide) rfl (fun _ => ?_) (fun c => absurd (by decide) c)
    refine sw_blk k_X7_guard 1 22 [(0, .inr (.inr 0)), (1, .inl m), (2, .inl b)] [.inl (-2)] σ rfl ?_
    refine sw_ireturn k_X7_guard rfl rfl ?_
    exact Or.inl ⟨by omega, rfl, rfl⟩
theorem cc_loads (σ : sw_S) (a b w : Int) (ga : sw_g a) (gb : sw_g b) (gw : sw_g w) : sw_Con sw_ly sw_rho M_X7_loads [.inr (.inr 0), .inl a, .inl b, .inl w] σ (fun r σ' => (¬ ((0 ≤ a ∧ a ≤ 1000) ∧ (0 ≤ b ∧ b ≤ 1000) ∧ (0 ≤ w ∧ w ≤ 10)) ∧ r = some (.inl (-2)) ∧ σ = σ') ∨ (((0 ≤ a ∧ a ≤ 1000) ∧ (0 ≤ b ∧ b ≤ 1000) ∧ (0 ≤ w ∧ w ≤ 10)) ∧ r = some (.inl (1)) ∧ (sw_u (sw_u (sw_u σ 11 1 a) 11 2 b) 11 3 w) = σ')) := by
  refine sw_con (by decide) (Nat.le_of_ble_eq_true rfl) ?_
  refine sw_blk k_X7_loads 3 5 [(0, .inr (.inr 0)), (1, .inl a), (2, .inl b), (3, .inl w)] [.inl 1000, .inl 0, .inl a] σ rfl ?_
  refine sw_callS k_X7_loads rfl cS_X7_within ml_X7_63 ⟨by decide, by decide⟩ [.inl a, .inl 0, .inl 1000] [] rfl rfl (Nat.le_of_ble_eq_true rfl) 8 rfl (sp_within σ a 0 1000 (by omega) (by decide) (by decide)) (fun r2 σ3 hq4 => ?_)
  obtain ⟨rfl, ⟨p1, rfl⟩ | ⟨p1, rfl⟩⟩ := hq4
  · refine sw_blk k_X7_loads 0 8 [(0, .inr (.inr 0)), (1, .inl a), (2, .inl b), (3, .inl w)] [.inl 1] σ rfl ?_
    refine sw_if_eq k_X7_loads rfl (by decide) 32 11 (by decide) rfl (fun c => absurd c (by decide)) (fun _ => ?_)
    refine sw_blk k_X7_loads 3 16 [(0, .inr (.inr 0)), (1, .inl a), (2, .inl b), (3, .inl w)] [.inl 1000, .inl 0, .inl b] σ rfl ?_
    refine sw_callS k_X7_loads rfl cS_X7_within ml_X7_63 ⟨by decide, by decide⟩ [.inl b, .inl 0, .inl 1000] [] rfl rfl (Nat.le_of_ble_eq_true rfl) 19 rfl (sp_within σ b 0 1000 (by omega) (by decide) (by decide)) (fun r6 σ7 hq8 => ?_)
    obtain ⟨rfl, ⟨p5, rfl⟩ | ⟨p5, rfl⟩⟩ := hq8
    · refine sw_blk k_X7_loads 0 19 [(0, .inr (.inr 0)), (1, .inl a), (2, .inl b), (3, .inl w)] [.inl 1] σ rfl ?_
      refine sw_if_eq k_X7_loads rfl (by decide) 32 22 (by decide) rfl (fun c => absurd c (by decide)) (fun _ => ?_)
      refine sw_blk k_X7_loads 3 26 [(0, .inr (.inr 0)), (1, .inl a), (2, .inl b), (3, .inl w)] [.inl 10, .inl 0, .inl w] σ rfl ?_
      refine sw_callS k_X7_loads rfl cS_X7_within ml_X7_63 ⟨by decide, by decide⟩ [.inl w, .inl 0, .inl 10] [] rfl rfl (Nat.le_of_ble_eq_true rfl) 29 rfl (sp_within σ w 0 10 (by omega) (by decide) (by decide)) (fun r10 σ11 hq12 => ?_)
      obtain ⟨rfl, ⟨p9, rfl⟩ | ⟨p9, rfl⟩⟩ := hq12
      · refine sw_blk k_X7_loads 0 29 [(0, .inr (.inr 0)), (1, .inl a), (2, .inl b), (3, .inl w)] [.inl 1] σ rfl ?_
        refine sw_if_ne k_X7_loads rfl (by decide) 35 32 (by decide) rfl (fun _ => ?_) (fun c => absurd c (by decide))
        refine sw_blk k_X7_loads 13 60 [(0, .inr (.inr 0)), (1, .inl a), (2, .inl b), (3, .inl w)] [.inl 1] (sw_u (sw_u (sw_u σ 11 1 a) 11 2 b) 11 3 w) rfl ?_
        refine sw_ireturn k_X7_loads rfl rfl ?_
        exact Or.inr (⟨by omega, rfl, rfl⟩)
      · refine sw_blk k_X7_loads 0 29 [(0, .inr (.inr 0)), (1, .inl a), (2, .inl b), (3, .inl w)] [.inl 0] σ rfl ?_
        refine sw_if_ne k_X7_loads rfl (by decide) 35 32 (by decide) rfl (fun c => absurd (by decide) c) (fun _ => ?_)
        refine sw_blk k_X7_loads 1 34 [(0, .inr (.inr 0)), (1, .inl a), (2, .inl b), (3, .inl w)] [.inl (-2)] σ rfl ?_
        refine sw_ireturn k_X7_loads rfl rfl ?_
        exact Or.inl ⟨by omega, rfl, rfl⟩
    · refine sw_blk k_X7_loads 0 19 [(0, .inr (.inr 0)), (1, .inl a), (2, .inl b), (3, .inl w)] [.inl 0] σ rfl ?_
      refine sw_if_eq k_X7_loads rfl (by decide) 32 22 (by decide) rfl (fun _ => ?_) (fun c => absurd (by decide) c)
      refine sw_blk k_X7_loads 1 34 [(0, .inr (.inr 0)), (1, .inl a), (2, .inl b), (3, .inl w)] [.inl (-2)] σ rfl ?_
      refine sw_ireturn k_X7_loads rfl rfl ?_
      exact Or.inl ⟨by omega, rfl, rfl⟩
  · refine sw_blk k_X7_loads 0 8 [(0, .inr (.inr 0)), (1, .inl a), (2, .inl b), (3, .inl w)] [.inl 0] σ rfl ?_
    refine sw_if_eq k_X7_loads rfl (by decide) 32 11 (by decide) rfl (fun _ => ?_) (fun c => absurd (by decide) c)
    refine sw_blk k_X7_loads 1 34 [(0, .inr (.inr 0)), (1, .inl a), (2, .inl b), (3, .inl w)] [.inl (-2)] σ rfl ?_
    refine sw_ireturn k_X7_loads rfl rfl ?_
    exact Or.inl ⟨by omega, rfl, rfl⟩
theorem cc_ratio (σ : sw_S) (h : Int) (gh : sw_g h) : sw_Con sw_ly sw_rho M_X7_ratio [.inr (.inr 0), .inl h] σ (fun r σ' => (¬ (100 ≤ h ∧ h ≤ 400) ∧ r = some (.inl (-2)) ∧ σ = σ') ∨ ((100 ≤ h ∧ h ≤ 400) ∧ r = some (.inl (σ 11 4)) ∧ (sw_u σ 11 4 h) = σ')) := by
  refine sw_con (by decide) (Nat.le_of_ble_eq_true rfl) ?_
  refine sw_blk k_X7_ratio 3 6 [(0, .inr (.inr 0)), (1, .inl h)] [.inl 400, .inl 100, .inl h] σ rfl ?_
  refine sw_callS k_X7_ratio rfl cS_X7_within ml_X7_63 ⟨by decide, by decide⟩ [.inl h, .inl 100, .inl 400] [] rfl rfl (Nat.le_of_ble_eq_true rfl) 9 rfl (sp_within σ h 100 400 (by omega) (by decide) (by decide)) (fun r2 σ3 hq4 => ?_)
  obtain ⟨rfl, ⟨p1, rfl⟩ | ⟨p1, rfl⟩⟩ := hq4
  · refine sw_blk k_X7_ratio 0 9 [(0, .inr (.inr 0)), (1, .inl h)] [.inl 1] σ rfl ?_
    refine sw_if_ne k_X7_ratio rfl (by decide) 15 12 (by decide) rfl (fun _ => ?_) (fun c => absurd c (by decide))
    refine sw_blk k_X7_ratio 9 32 [(2, .inl (σ 11 4)), (0, .inr (.inr 0)), (1, .inl h)] [.inl (σ 11 4)] (sw_u σ 11 4 h) rfl ?_
    refine sw_ireturn k_X7_ratio rfl rfl ?_
    exact Or.inr (⟨by omega, rfl, rfl⟩)
  · refine sw_blk k_X7_ratio 0 9 [(0, .inr (.inr 0)), (1, .inl h)] [.inl 0] σ rfl ?_
    refine sw_if_ne k_X7_ratio rfl (by decide) 15 12 (by decide) rfl (fun c => absurd (by decide) c) (fun _ => ?_)
    refine sw_blk k_X7_ratio 1 14 [(0, .inr (.inr 0)), (1, .inl h)] [.inl (-2)] σ rfl ?_
    refine sw_ireturn k_X7_ratio rfl rfl ?_
    exact Or.inl ⟨by omega, rfl, rfl⟩
theorem cc_slips (σ : sw_S) (hσ : sw_gs σ) (hl0 : 0 ≤ σ 11 1 ∧ σ 11 1 ≤ 1000) (hl1 : 0 ≤ σ 11 2 ∧ σ 11 2 ≤ 1000) (hwt : 0 ≤ σ 11 3 ∧ σ 11 3 ≤ 10) (hD : 10 ≤ σ 1 0 ∧ σ 1 0 ≤ 400) (hkp : 100 ≤ σ 11 4 ∧ σ 11 4 ≤ 400) (p c : Int) (gp : sw_g p) (gc : sw_g c) : sw_Con sw_ly sw_rho M_X7_slips [.inr (.inr 0), .inl p, .inl c] σ (fun r σ' => (¬ ((0 ≤ p ∧ p ≤ σ 1 0) ∧ (-9 ≤ c ∧ c ≤ 9)) ∧ r = some (.inl (-2)) ∧ σ = σ') ∨ ((((0 ≤ p ∧ p ≤ σ 1 0) ∧ (-9 ≤ c ∧ c ≤ 9)) ∧ sw_slp (σ 11 1) (σ 11 2) (σ 11 3) (σ 1 0) p c (σ 11 4)) ∧ r = some (.inl (1)) ∧ σ = σ') ∨ ((((0 ≤ p ∧ p ≤ σ 1 0) ∧ (-9 ≤ c ∧ c ≤ 9)) ∧ ¬ sw_slp (σ 11 1) (σ 11 2) (σ 11 3) (σ 1 0) p c (σ 11 4)) ∧ r = some (.inl (0)) ∧ σ = σ')) := by
  refine sw_con (by decide) (Nat.le_of_ble_eq_true rfl) ?_
  refine sw_blk k_X7_slips 3 5 [(0, .inr (.inr 0)), (1, .inl p), (2, .inl c)] [.inl p, .inr (.inr 1)] σ rfl ?_
  refine sw_callV k_X7_slips rfl cV_X3_has ml_X7_85 ⟨by decide, by decide⟩ 1 rfl rfl [.inl p] [] rfl rfl (Nat.le_of_ble_eq_true rfl) 8 rfl (sp_has σ p (by omega) (hσ 1 0)) (fun r2 σ3 hq4 => ?_)
  obtain ⟨rfl, ⟨p1, rfl⟩ | ⟨p1, rfl⟩⟩ := hq4
  · have p1 : 0 ≤ p ∧ p ≤ (σ 1 0) := p1
    refine sw_blk k_X7_slips 0 8 [(0, .inr (.inr 0)), (1, .inl p), (2, .inl c)] [.inl 1] σ rfl ?_
    refine sw_if_eq k_X7_slips rfl (by decide) 22 11 (by decide) rfl (fun c => absurd c (by decide)) (fun _ => ?_)
    refine sw_blk k_X7_slips 3 16 [(0, .inr (.inr 0)), (1, .inl p), (2, .inl c)] [.inl 9, .inl (-9), .inl c] σ rfl ?_
    refine sw_callS k_X7_slips rfl cS_X7_within ml_X7_63 ⟨by decide, by decide⟩ [.inl c, .inl (-9), .inl 9] [] rfl rfl (Nat.le_of_ble_eq_true rfl) 19 rfl (sp_within σ c (-9) 9 (by omega) (by decide) (by decide)) (fun r6 σ7 hq8 => ?_)
    obtain ⟨rfl, ⟨p5, rfl⟩ | ⟨p5, rfl⟩⟩ := hq8
    · refine sw_blk k_X7_slips 0 19 [(0, .inr (.inr 0)), (1, .inl p), (2, .inl c)] [.inl 1] σ rfl ?_
      refine sw_if_ne k_X7_slips rfl (by decide) 25 22 (by decide) rfl (fun _ => ?_) (fun c => absurd c (by decide))
      refine sw_blk k_X7_slips 7 38 [(0, .inr (.inr 0)), (1, .inl p), (2, .inl c)] [.inl (σ 11 4), .inl c, .inl p, .inr (.inr 11)] σ rfl ?_
      refine sw_callV k_X7_slips rfl cV_X2_slipsAt ml_X7_178 ⟨by decide, by decide⟩ 11 rfl rfl [.inl p, .inl c, .inl (σ 11 4)] [] rfl rfl (Nat.le_of_ble_eq_true rfl) 41 rfl (sp_slipsAt σ hl0 hl1 hwt hD p c (σ 11 4) (by omega) (by omega) (by omega)) (fun r10 σ11 hq12 => ?_)
      obtain ⟨rfl, ⟨p9, rfl⟩ | ⟨p9, rfl⟩⟩ := hq12
      · have hsl := p9
        refine sw_blk k_X7_slips 0 41 [(0, .inr (.inr 0)), (1, .inl p), (2, .inl c)] [.inl 1] σ rfl ?_
        refine sw_if_eq k_X7_slips rfl (by decide) 48 44 (by decide) rfl (fun c => absurd c (by decide)) (fun _ => ?_)
        refine sw_blk k_X7_slips 2 49 [(0, .inr (.inr 0)), (1, .inl p), (2, .inl c)] [.inl 1] σ rfl ?_
        refine sw_ireturn k_X7_slips rfl rfl ?_
        exact Or.inr (Or.inl ⟨⟨by omega, hsl⟩, rfl, rfl⟩)
      · have hsl := p9
        refine sw_blk k_X7_slips 0 41 [(0, .inr (.inr 0)), (1, .inl p), (2, .inl c)] [.inl 0] σ rfl ?_
        refine sw_if_eq k_X7_slips rfl (by decide) 48 44 (by decide) rfl (fun _ => ?_) (fun c => absurd (by decide) c)
        refine sw_blk k_X7_slips 1 49 [(0, .inr (.inr 0)), (1, .inl p), (2, .inl c)] [.inl 0] σ rfl ?_
        refine sw_ireturn k_X7_slips rfl rfl ?_
        exact Or.inr (Or.inr ⟨⟨by omega, hsl⟩, rfl, rfl⟩)
    · refine sw_blk k_X7_slips 0 19 [(0, .inr (.inr 0)), (1, .inl p), (2, .inl c)] [.inl 0] σ rfl ?_
      refine sw_if_ne k_X7_slips rfl (by decide) 25 22 (by decide) rfl (fun c => absurd (by decide) c) (fun _ => ?_)
      refine sw_blk k_X7_slips 1 24 [(0, .inr (.inr 0)), (1, .inl p), (2, .inl c)] [.inl (-2)] σ rfl ?_
      refine sw_ireturn k_X7_slips rfl rfl ?_
      exact Or.inl ⟨by omega, rfl, rfl⟩
  · have p1 : ¬ (0 ≤ p ∧ p ≤ (σ 1 0)) := p1
    refine sw_blk k_X7_slips 0 8 [(0, .inr (.inr 0)), (1, .inl p), (2, .inl c)] [.inl 0] σ rfl ?_
    refine sw_if_eq k_X7_slips rfl (by decide) 22 11 (by decide) rfl (fun _ => ?_) (fun c => absurd (by decide) c)
    refine sw_blk k_X7_slips 1 24 [(0, .inr (.inr 0)), (1, .inl p), (2, .inl c)] [.inl (-2)] σ rfl ?_
    refine sw_ireturn k_X7_slips rfl rfl ?_
    exact Or.inl ⟨by omega, rfl, rfl⟩
theorem cc_broken (σ : sw_S) (hσ : sw_gs σ) (hb : ∀ j, j < 60 → 0 ≤ σ 13 j ∧ σ 13 j ≤ 99) (l k : Int) (gl : sw_g l) (gk : sw_g k) : sw_Con sw_ly sw_rho M_X7_broken [.inr (.inr 0), .inl l, .inl k] σ (fun r σ' => (¬ ((0 ≤ l ∧ l ≤ 59) ∧ (1 ≤ k ∧ k ≤ 99)) ∧ r = some (.inl (-2)) ∧ σ = σ') ∨ (((0 ≤ l ∧ l ≤ 59) ∧ (1 ≤ k ∧ k ≤ 99)) ∧ r = some (.inl (min (σ 13 l.toNat + k) 99)) ∧ (sw_u σ 13 l.toNat (min (σ 13 l.toNat + k) 99)) = σ')) := by
  refine sw_con (by decide) (Nat.le_of_ble_eq_true rfl) ?_
  refine sw_blk k_X7_broken 3 4 [(0, .inr (.inr 0)), (1, .inl l), (2, .inl k)] [.inl 59, .inl 0, .inl l] σ rfl ?_
  refine sw_callS k_X7_broken rfl cS_X7_within ml_X7_63 ⟨by decide, by decide⟩ [.inl l, .inl 0, .inl 59] [] rfl rfl (Nat.le_of_ble_eq_true rfl) 7 rfl (sp_within σ l 0 59 (by omega) (by decide) (by decide)) (fun r2 σ3 hq4 => ?_)
  obtain ⟨rfl, ⟨p1, rfl⟩ | ⟨p1, rfl⟩⟩ := hq4
  · refine sw_blk k_X7_broken 0 7 [(0, .inr (.inr 0)), (1, .inl l), (2, .inl k)] [.inl 1] σ rfl ?_
    refine sw_if_eq k_X7_broken rfl (by decide) 20 10 (by decide) rfl (fun c => absurd c (by decide)) (fun _ => ?_)
    refine sw_blk k_X7_broken 3 14 [(0, .inr (.inr 0)), (1, .inl l), (2, .inl k)] [.inl 99, .inl 1, .inl k] σ rfl ?_
    refine sw_callS k_X7_broken rfl cS_X7_within ml_X7_63 ⟨by decide, by decide⟩ [.inl k, .inl 1, .inl 99] [] rfl rfl (Nat.le_of_ble_eq_true rfl) 17 rfl (sp_within σ k 1 99 (by omega) (by decide) (by decide)) (fun r6 σ7 hq8 => ?_)
    obtain ⟨rfl, ⟨p5, rfl⟩ | ⟨p5, rfl⟩⟩ := hq8
    · refine sw_blk k_X7_broken 0 17 [(0, .inr (.inr 0)), (1, .inl l), (2, .inl k)] [.inl 1] σ rfl ?_
      refine sw_if_ne k_X7_broken rfl (by decide) 23 20 (by decide) rfl (fun _ => ?_) (fun c => absurd c (by decide))
      refine sw_blk k_X7_broken 4 29 [(0, .inr (.inr 0)), (1, .inl l), (2, .inl k)] [.inl k, .inl l, .inr (.inr 12)] σ rfl ?_
      refine sw_callV k_X7_broken rfl cV_X0_addBroken ml_X7_188 ⟨by decide, by decide⟩ 12 rfl rfl [.inl l, .inl k] [] rfl rfl (Nat.le_of_ble_eq_true rfl) 32 rfl (sp_addBroken σ hσ hb l k (by omega) (by omega)) (fun r9 σ10 hq11 => ?_)
      obtain ⟨rfl, rfl⟩ := hq11
      refine sw_blk k_X7_broken 0 32 [(0, .inr (.inr 0)), (1, .inl l), (2, .inl k)] [.inl (min (σ 13 l.toNat + k) 99)] (sw_u σ 13 l.toNat (min (σ 13 l.toNat + k) 99)) rfl ?_
      refine sw_ireturn k_X7_broken rfl rfl ?_
      exact Or.inr (⟨by omega, rfl, rfl⟩)
    · refine sw_blk k_X7_broken 0 17 [(0, .inr (.inr 0)), (1, .inl l), (2, .inl k)] [.inl 0] σ rfl ?_
      refine sw_if_ne k_X7_broken rfl (by decide) 23 20 (by decide) rfl (fun c => absurd (by decide) c) (fun _ => ?_)
      refine sw_blk k_X7_broken 1 22 [(0, .inr (.inr 0)), (1, .inl l), (2, .inl k)] [.inl (-2)] σ rfl ?_
      refine sw_ireturn k_X7_broken rfl rfl ?_
      exact Or.inl ⟨by omega, rfl, rfl⟩
  · refine sw_blk k_X7_broken 0 7 [(0, .inr (.inr 0)), (1, .inl l), (2, .inl k)] [.inl 0] σ rfl ?_
    refine sw_if_eq k_X7_broken rfl (by decide) 20 10 (by decide) rfl (fun _ => ?_) (fun c => absurd (by decide) c)
    refine sw_blk k_X7_broken 1 22 [(0, .inr (.inr 0)), (1, .inl l), (2, .inl k)] [.inl (-2)] σ rfl ?_
    refine sw_ireturn k_X7_broken rfl rfl ?_
    exact Or.inl ⟨by omega, rfl, rfl⟩
theorem cc_worstAt (σ : sw_S) (hσ : sw_gs σ) (hb : ∀ j, j < 60 → 0 ≤ σ 13 j ∧ σ 13 j ≤ 99) (w : Int) (gw : sw_g w) : sw_Con sw_ly sw_rho M_X7_worstAt [.inr (.inr 0), .inl w] σ (fun r σ' => σ = σ' ∧ (¬ (1 ≤ w ∧ w ≤ 60) ∧ r = some (.inl (-2)) ∨ (1 ≤ w ∧ w ≤ 60) ∧ ∃ x : Int, r = some (.inl x) ∧ sw_wf (fun i : Int => sw_sm (σ 13) i.toNat w.toNat) w x)) := by
  refine sw_con (by decide) (Nat.le_of_ble_eq_true rfl) ?_
  refine sw_blk k_X7_worstAt 3 4 [(0, .inr (.inr 0)), (1, .inl w)] [.inl 60, .inl 1, .inl w] σ rfl ?_
  refine sw_callS k_X7_worstAt rfl cS_X7_within ml_X7_63 ⟨by decide, by decide⟩ [.inl w, .inl 1, .inl 60] [] rfl rfl (Nat.le_of_ble_eq_true rfl) 7 rfl (sp_within σ w 1 60 (by omega) (by decide) (by decide)) (fun r2 σ3 hq4 => ?_)
  obtain ⟨rfl, ⟨p1, rfl⟩ | ⟨p1, rfl⟩⟩ := hq4
  · refine sw_blk k_X7_worstAt 0 7 [(0, .inr (.inr 0)), (1, .inl w)] [.inl 1] σ rfl ?_
    refine sw_if_ne k_X7_worstAt rfl (by decide) 13 10 (by decide) rfl (fun _ => ?_) (fun c => absurd c (by decide))
    refine sw_blk k_X7_worstAt 3 18 [(0, .inr (.inr 0)), (1, .inl w)] [.inl w, .inr (.inr 12)] σ rfl ?_
    refine sw_callV k_X7_worstAt rfl cV_X0_firstOfWorst ml_X7_191 ⟨by decide, by decide⟩ 12 rfl rfl [.inl w] [] rfl rfl (Nat.le_of_ble_eq_true rfl) 21 rfl (sp_firstOfWorst σ hσ hb w (by omega)) (fun r5 σ6 hq7 => ?_)
    obtain ⟨rfl, x, rfl, hx⟩ := hq7
    have hx1 := hx.1
    have hx2 := hx.2.1
    refine sw_blk k_X7_worstAt 0 21 [(0, .inr (.inr 0)), (1, .inl w)] [.inl x] σ rfl ?_
    refine sw_ireturn k_X7_worstAt rfl rfl ?_
    exact ⟨rfl, Or.inr ⟨by omega, x, rfl, hx⟩⟩
  · refine sw_blk k_X7_worstAt 0 7 [(0, .inr (.inr 0)), (1, .inl w)] [.inl 0] σ rfl ?_
    refine sw_if_ne k_X7_worstAt rfl (by decide) 13 10 (by decide) rfl (fun c => absurd (by decide) c) (fun _ => ?_)
    refine sw_blk k_X7_worstAt 1 12 [(0, .inr (.inr 0)), (1, .inl w)] [.inl (-2)] σ rfl ?_
    refine sw_ireturn k_X7_worstAt rfl rfl ?_
    exact ⟨rfl, Or.inl ⟨by omega, rfl⟩⟩
theorem cc_worst (σ : sw_S) (hσ : sw_gs σ) (hb : ∀ j, j < 60 → 0 ≤ σ 13 j ∧ σ 13 j ≤ 99) (w : Int) (gw : sw_g w) : sw_Con sw_ly sw_rho M_X7_worst [.inr (.inr 0), .inl w] σ (fun r σ' => σ = σ' ∧ (¬ (1 ≤ w ∧ w ≤ 60) ∧ r = some (.inl (-2)) ∨ (1 ≤ w ∧ w ≤ 60) ∧ ∃ x : Int, r = some (.inl (sw_sm (σ 13) x.toNat w.toNat)) ∧ sw_wf (fun i : Int => sw_sm (σ 13) i.toNat w.toNat) w x)) := by
  refine sw_con (by decide) (Nat.le_of_ble_eq_true rfl) ?_
  refine sw_blk k_X7_worst 3 4 [(0, .inr (.inr 0)), (1, .inl w)] [.inl 60, .inl 1, .inl w] σ rfl ?_
  refine sw_callS k_X7_worst rfl cS_X7_within ml_X7_63 ⟨by decide, by decide⟩ [.inl w, .inl 1, .inl 60] [] rfl rfl (Nat.le_of_ble_eq_true rfl) 7 rfl (sp_within σ w 1 60 (by omega) (by decide) (by decide)) (fun r2 σ3 hq4 => ?_)
  obtain ⟨rfl, ⟨p1, rfl⟩ | ⟨p1, rfl⟩⟩ := hq4
  · refine sw_blk k_X7_worst 0 7 [(0, .inr (.inr 0)), (1, .inl w)] [.inl 1] σ rfl ?_
    refine sw_if_ne k_X7_worst rfl (by decide) 13 10 (by decide) rfl (fun _ => ?_) (fun c => absurd c (by decide))
    refine sw_blk k_X7_worst 5 22 [(0, .inr (.inr 0)), (1, .inl w)] [.inl w, .inr (.inr 12), .inr (.inr 12)] σ rfl ?_
    refine sw_callV k_X7_worst rfl cV_X0_firstOfWorst ml_X7_191 ⟨by decide, by decide⟩ 12 rfl rfl [.inl w] [.inr (.inr 12)] rfl rfl (Nat.le_of_ble_eq_true rfl) 25 rfl (sp_firstOfWorst σ hσ hb w (by omega)) (fun r5 σ6 hq7 => ?_)
    obtain ⟨rfl, x, rfl, hx⟩ := hq7
    have hx1 := hx.1
    have hx2 := hx.2.1
    refine sw_blk k_X7_worst 1 26 [(0, .inr (.inr 0)), (1, .inl w)] [.inl w, .inl x, .inr (.inr 12)] σ rfl ?_
    refine sw_callV k_X7_worst rfl cV_X0_wiresIn ml_X7_195 ⟨by decide, by decide⟩ 12 rfl rfl [.inl x, .inl w] [] rfl rfl (Nat.le_of_ble_eq_true rfl) 29 rfl (sp_wires σ hσ hb x w (by omega) (by omega)) (fun r8 σ9 hq10 => ?_)
    obtain ⟨rfl, rfl⟩ := hq10
    have hbb := sw_sm_b hb (x : Int).toNat (w : Int).toNat
    refine sw_blk k_X7_worst 0 29 [(0, .inr (.inr 0)), (1, .inl w)] [.inl (sw_sm (σ 13) x.toNat w.toNat)] σ rfl ?_
    refine sw_ireturn k_X7_worst rfl rfl ?_
    exact ⟨rfl, Or.inr ⟨by omega, x, rfl, hx⟩⟩
  · refine sw_blk k_X7_worst 0 7 [(0, .inr (.inr 0)), (1, .inl w)] [.inl 0] σ rfl ?_
    refine sw_if_ne k_X7_worst rfl (by decide) 13 10 (by decide) rfl (fun c => absurd (by decide) c) (fun _ => ?_)
    refine sw_blk k_X7_worst 1 12 [(0, .inr (.inr 0)), (1, .inl w)] [.inl (-2)] σ rfl ?_
    refine sw_ireturn k_X7_worst rfl rfl ?_
    exact ⟨rfl, Or.inl ⟨by omega, rfl⟩⟩
theorem cc_cut (σ : sw_S) (hσ : sw_gs σ) (hb : ∀ j, j < 60 → 0 ≤ σ 13 j ∧ σ 13 j ≤ 99) (k : Int) (gk : sw_g k) : sw_Con sw_ly sw_rho M_X7_cut [.inr (.inr 0), .inl k] σ (fun r σ' => (¬ (1 ≤ k ∧ k ≤ 60) ∧ r = some (.inl (-2)) ∧ σ = σ') ∨ ((1 ≤ k ∧ k ≤ 60) ∧ r = some (.inl (sw_sm (σ 13) 0 k.toNat)) ∧ (sw_pf σ 13 (fun j : Nat => if j + k.toNat < 60 then σ 13 (j + k.toNat) else 0) 60) = σ')) := by
  refine sw_con (by decide) (Nat.le_of_ble_eq_true rfl) ?_
  refine sw_blk k_X7_cut 3 4 [(0, .inr (.inr 0)), (1, .inl k)] [.inl 60, .inl 1, .inl k] σ rfl ?_
  refine sw_callS k_X7_cut rfl cS_X7_within ml_X7_63 ⟨by decide, by decide⟩ [.inl k, .inl 1, .inl 60] [] rfl rfl (Nat.le_of_ble_eq_true rfl) 7 rfl (sp_within σ k 1 60 (by omega) (by decide) (by decide)) (fun r2 σ3 hq4 => ?_)
  obtain ⟨rfl, ⟨p1, rfl⟩ | ⟨p1, rfl⟩⟩ := hq4
  · refine sw_blk k_X7_cut 0 7 [(0, .inr (.inr 0)), (1, .inl k)] [.inl 1] σ rfl ?_
    refine sw_if_ne k_X7_cut rfl (by decide) 13 10 (by decide) rfl (fun _ => ?_) (fun c => absurd c (by decide))
    refine sw_blk k_X7_cut 3 18 [(0, .inr (.inr 0)), (1, .inl k)] [.inl k, .inr (.inr 12)] σ rfl ?_
    refine sw_callV k_X7_cut rfl cV_X0_cutAway ml_X7_198 ⟨by decide, by decide⟩ 12 rfl rfl [.inl k] [] rfl rfl (Nat.le_of_ble_eq_true rfl) 21 rfl (sp_cutAway σ hσ hb k (by omega)) (fun r5 σ6 hq7 => ?_)
    obtain ⟨rfl, rfl⟩ := hq7
    refine sw_blk k_X7_cut 0 21 [(0, .inr (.inr 0)), (1, .inl k)] [.inl (sw_sm (σ 13) 0 k.toNat)] (sw_pf σ 13 (fun j : Nat => if j + k.toNat < 60 then σ 13 (j + k.toNat) else 0) 60) rfl ?_
    refine sw_ireturn k_X7_cut rfl rfl ?_
    exact Or.inr (⟨by omega, rfl, rfl⟩)
  · refine sw_blk k_X7_cut 0 7 [(0, .inr (.inr 0)), (1, .inl k)] [.inl 0] σ rfl ?_
    refine sw_if_ne k_X7_cut rfl (by decide) 13 10 (by decide) rfl (fun c => absurd (by decide) c) (fun _ => ?_)
    refine sw_blk k_X7_cut 1 12 [(0, .inr (.inr 0)), (1, .inl k)] [.inl (-2)] σ rfl ?_
    refine sw_ireturn k_X7_cut rfl rfl ?_
    exact Or.inl ⟨by omega, rfl, rfl⟩
theorem cc_mend (σ : sw_S) (hσ : sw_gs σ) (hb : ∀ j, j < 60 → 0 ≤ σ 13 j ∧ σ 13 j ≤ 99) (w m : Int) (gw : sw_g w) (gm : sw_g m) : sw_Con sw_ly sw_rho M_X7_mend [.inr (.inr 0), .inl w, .inl m] σ (fun r σ' => σ = σ' ∧ (¬ ((1 ≤ w ∧ w ≤ 60) ∧ 0 ≤ m) ∧ r = some (.inl (-2)) ∨ ((1 ≤ w ∧ w ≤ 60) ∧ 0 ≤ m) ∧ ∃ x : Int, r = some (.inl x) ∧ ((x = 0 ∧ ∀ i : Int, 0 ≤ i → i ≤ 59 → sw_sm (σ 13) i.toNat w.toNat ≤ m) ∨ (1 ≤ x ∧ x ≤ 60 ∧ m < sw_sm (σ 13) (x - 1).toNat w.toNat ∧ ∀ i : Int, x ≤ i → i ≤ 59 → sw_sm (σ 13) i.toNat w.toNat ≤ m)))) := by
  refine sw_con (by decide) (Nat.le_of_ble_eq_true rfl) ?_
  refine sw_blk k_X7_mend 3 4 [(0, .inr (.inr 0)), (1, .inl w), (2, .inl m)] [.inl 60, .inl 1, .inl w] σ rfl ?_
  refine sw_callS k_X7_mend rfl cS_X7_within ml_X7_63 ⟨by decide, by decide⟩ [.inl w, .inl 1, .inl 60] [] rfl rfl (Nat.le_of_ble_eq_true rfl) 7 rfl (sp_within σ w 1 60 (by omega) (by decide) (by decide)) (fun r2 σ3 hq4 => ?_)
  obtain ⟨rfl, ⟨p1, rfl⟩ | ⟨p1, rfl⟩⟩ := hq4
  · refine sw_blk k_X7_mend 0 7 [(0, .inr (.inr 0)), (1, .inl w), (2, .inl m)] [.inl 1] σ rfl ?_
    refine sw_if_eq k_X7_mend rfl (by decide) 14 10 (by decide) rfl (fun c => absurd c (by decide)) (fun _ => ?_)
    refine sw_blk k_X7_mend 1 11 [(0, .inr (.inr 0)), (1, .inl w), (2, .inl m)] [.inl m] σ rfl ?_
    refine sw_if_ge k_X7_mend rfl (by omega) 17 14 (by decide) rfl (fun c5 => ?_) (fun c5 => ?_)
    · refine sw_blk k_X7_mend 4 23 [(0, .inr (.inr 0)), (1, .inl w), (2, .inl m)] [.inl m, .inl w, .inr (.inr 12)] σ rfl ?_
      refine sw_callV k_X7_mend rfl cV_X0_fewestToCut ml_X7_201 ⟨by decide, by decide⟩ 12 rfl rfl [.inl w, .inl m] [] rfl rfl (Nat.le_of_ble_eq_true rfl) 26 rfl (sp_fewest σ hσ hb w m (by omega) gm) (fun r6 σ7 hq8 => ?_)
      obtain ⟨rfl, x, rfl, hx⟩ := hq8
      refine sw_blk k_X7_mend 0 26 [(0, .inr (.inr 0)), (1, .inl w), (2, .inl m)] [.inl x] σ rfl ?_
      refine sw_ireturn k_X7_mend rfl rfl ?_
      exact ⟨rfl, Or.inr ⟨by omega, x, rfl, hx⟩⟩
    · refine sw_blk k_X7_mend 1 16 [(0, .inr (.inr 0)), (1, .inl w), (2, .inl m)] [.inl (-2)] σ rfl ?_
      refine sw_ireturn k_X7_mend rfl rfl ?_
      exact ⟨rfl, Or.inl ⟨by omega, rfl⟩⟩
  · refine sw_blk k_X7_mend 0 7 [(0, .inr (.inr 0)), (1, .inl w), (2, .inl m)] [.inl 0] σ rfl ?_
    refine sw_if_eq k_X7_mend rfl (by decide) 14 10 (by decide) rfl (fun _ => ?_) (fun c => absurd (by decide) c)
    refine sw_blk k_X7_mend 1 16 [(0, .inr (.inr 0)), (1, .inl w), (2, .inl m)] [.inl (-2)] σ rfl ?_
    refine sw_ireturn k_X7_mend rfl rfl ?_
    exact ⟨rfl, Or.inl ⟨by omega, rfl⟩⟩
theorem cc_log (σ : sw_S) (hσ : sw_gs σ) (h61 : 0 ≤ σ 6 1 ∧ σ 6 1 < 1000000) (i w : Int) (gi : sw_g i) (gw : sw_g w) : sw_Con sw_ly sw_rho M_X7_log [.inr (.inr 0), .inl i, .inl w] σ (fun r σ' => (¬ ((0 ≤ i ∧ i ≤ min (σ 6 1) 40 - 1) ∧ (0 ≤ w ∧ w ≤ 2)) ∧ r = some (.inl (-2000)) ∧ σ = σ') ∨ (((0 ≤ i ∧ i ≤ min (σ 6 1) 40 - 1) ∧ (0 ≤ w ∧ w ≤ 2)) ∧ r = some (.inl (σ 7 ((σ 6 1 - 1 - i) % 40 * 3 + w).toNat)) ∧ σ = σ')) := by
  refine sw_con (by decide) (Nat.le_of_ble_eq_true rfl) ?_
  refine sw_blk k_X7_log 5 9 [(0, .inr (.inr 0)), (1, .inl i), (2, .inl w)] [.inr (.inr 6), .inl 0, .inl i] σ rfl ?_
  refine sw_callV k_X7_log rfl cV_X5_size ml_X7_213 ⟨by decide, by decide⟩ 6 rfl rfl [] [.inl 0, .inl i] rfl rfl (Nat.le_of_ble_eq_true rfl) 12 rfl (sp_size σ  (hσ 6 _)) (fun r1 σ2 hq3 => ?_)
  obtain ⟨rfl, rfl⟩ := hq3
  refine sw_blk k_X7_log 2 14 [(0, .inr (.inr 0)), (1, .inl i), (2, .inl w)] [.inl ((min (σ 6 1) 40) - 1), .inl 0, .inl i] σ rfl ?_
  refine sw_callS k_X7_log rfl cS_X7_within ml_X7_63 ⟨by decide, by decide⟩ [.inl i, .inl 0, .inl ((min (σ 6 1) 40) - 1)] [] rfl rfl (Nat.le_of_ble_eq_true rfl) 17 rfl (sp_within σ i 0 ((min (σ 6 1) 40) - 1) (by omega) (by decide) (by omega)) (fun r5 σ6 hq7 => ?_)
  obtain ⟨rfl, ⟨p4, rfl⟩ | ⟨p4, rfl⟩⟩ := hq7
  · refine sw_blk k_X7_log 0 17 [(0, .inr (.inr 0)), (1, .inl i), (2, .inl w)] [.inl 1] σ rfl ?_
    refine sw_if_eq k_X7_log rfl (by decide) 29 20 (by decide) rfl (fun c => absurd c (by decide)) (fun _ => ?_)
    refine sw_blk k_X7_log 3 23 [(0, .inr (.inr 0)), (1, .inl i), (2, .inl w)] [.inl 2, .inl 0, .inl w] σ rfl ?_
    refine sw_callS k_X7_log rfl cS_X7_within ml_X7_63 ⟨by decide, by decide⟩ [.inl w, .inl 0, .inl 2] [] rfl rfl (Nat.le_of_ble_eq_true rfl) 26 rfl (sp_within σ w 0 2 (by omega) (by decide) (by decide)) (fun r9 σ10 hq11 => ?_)
    obtain ⟨rfl, ⟨p8, rfl⟩ | ⟨p8, rfl⟩⟩ := hq11
    · refine sw_blk k_X7_log 0 26 [(0, .inr (.inr 0)), (1, .inl i), (2, .inl w)] [.inl 1] σ rfl ?_
      refine sw_if_ne k_X7_log rfl (by decide) 33 29 (by decide) rfl (fun _ => ?_) (fun c => absurd c (by decide))
      refine sw_blk k_X7_log 5 42 [(0, .inr (.inr 0)), (1, .inl i), (2, .inl w)] [.inl w, .inl i, .inr (.inr 6)] σ rfl ?_
      refine sw_callV k_X7_log rfl cV_X5_latest ml_X7_216 ⟨by decide, by decide⟩ 6 rfl rfl [.inl i, .inl w] [] rfl rfl (Nat.le_of_ble_eq_true rfl) 45 rfl (sp_latest σ i w (by omega) (by omega) (by omega) (by omega)) (fun r12 σ13 hq14 => ?_)
      obtain ⟨rfl, rfl⟩ := hq14
      refine sw_blk k_X7_log 0 45 [(0, .inr (.inr 0)), (1, .inl i), (2, .inl w)] [.inl (σ 7 (((σ 6 1) - 1 - i) % 40 * 3 + w).toNat)] σ rfl ?_
      refine sw_ireturn k_X7_log rfl rfl ?_
      exact Or.inr (⟨by omega, rfl, rfl⟩)
    · refine sw_blk k_X7_log 0 26 [(0, .inr (.inr 0)), (1, .inl i), (2, .inl w)] [.inl 0] σ rfl ?_
      refine sw_if_ne k_X7_log rfl (by decide) 33 29 (by decide) rfl (fun c => absurd (by decide) c) (fun _ => ?_)
      refine sw_blk k_X7_log 1 32 [(0, .inr (.inr 0)), (1, .inl i), (2, .inl w)] [.inl (-2000)] σ rfl ?_
      refine sw_ireturn k_X7_log rfl rfl ?_
      exact Or.inl ⟨by omega, rfl, rfl⟩
  · refine sw_blk k_X7_log 0 17 [(0, .inr (.inr 0)), (1, .inl i), (2, .inl w)] [.inl 0] σ rfl ?_
    refine sw_if_eq k_X7_log rfl (by decide) 29 20 (by decide) rfl (fun _ => ?_) (fun c => absurd (by decide) c)
    refine sw_blk k_X7_log 1 32 [(0, .inr (.inr 0)), (1, .inl i), (2, .inl w)] [.inl (-2000)] σ rfl ?_
    refine sw_ireturn k_X7_log rfl rfl ?_
    exact Or.inl ⟨by omega, rfl, rfl⟩
theorem cc_most (σ : sw_S) (hσ : sw_gs σ) (hD : 10 ≤ σ 1 0 ∧ σ 1 0 ≤ 400) (hV : 1 ≤ σ 1 1 ∧ σ 1 1 ≤ 20) (hA : 1 ≤ σ 1 2 ∧ σ 1 2 ≤ 5) (hL : ∀ x : Int, 0 ≤ x → x ≤ σ 1 0 → 1 ≤ σ 2 x.toNat ∧ σ 2 x.toNat ≤ σ 1 1) (p s : Int) (gp : sw_g p) (gs : sw_g s) : sw_Con sw_ly sw_rho M_X7_most [.inr (.inr 0), .inl p, .inl s] σ (fun r σ' => σ = σ' ∧ (¬ ((0 ≤ p ∧ p ≤ σ 1 0) ∧ (s = 1 ∨ s = -1)) ∧ r = some (.inl (-2)) ∨ ((0 ≤ p ∧ p ≤ σ 1 0) ∧ (s = 1 ∨ s = -1)) ∧ ∃ g : Int, r = some (.inl g) ∧ 0 ≤ g ∧ g ≤ σ 1 1 ∧ ∀ t, 0 ≤ t → (sw_tk (σ 2) (σ 1 0) (σ 1 1) p (s * t) ↔ t ≤ g))) := by
  refine sw_con (by decide) (Nat.le_of_ble_eq_true rfl) ?_
  refine sw_blk k_X7_most 3 5 [(0, .inr (.inr 0)), (1, .inl p), (2, .inl s)] [.inl p, .inr (.inr 1)] σ rfl ?_
  refine sw_callV k_X7_most rfl cV_X3_has ml_X7_85 ⟨by decide, by decide⟩ 1 rfl rfl [.inl p] [] rfl rfl (Nat.le_of_ble_eq_true rfl) 8 rfl (sp_has σ p (by omega) (hσ 1 0)) (fun r2 σ3 hq4 => ?_)
  obtain ⟨rfl, ⟨p1, rfl⟩ | ⟨p1, rfl⟩⟩ := hq4
  · have p1 : 0 ≤ p ∧ p ≤ (σ 1 0) := p1
    refine sw_blk k_X7_most 0 8 [(0, .inr (.inr 0)), (1, .inl p), (2, .inl s)] [.inl 1] σ rfl ?_
    refine sw_if_eq k_X7_most rfl (by decide) 21 11 (by decide) rfl (fun c => absurd c (by decide)) (fun _ => ?_)
    refine sw_blk k_X7_most 2 13 [(0, .inr (.inr 0)), (1, .inl p), (2, .inl s)] [.inl 1, .inl s] σ rfl ?_
    refine sw_icmp_eq k_X7_most rfl (by omega) (by decide) 24 16 (by decide) rfl (fun c5 => ?_) (fun c5 => ?_)
    · refine sw_blk k_X7_most 4 30 [(0, .inr (.inr 0)), (1, .inl p), (2, .inl s)] [.inl s, .inl p, .inr (.inr 1)] σ rfl ?_
      refine sw_callV k_X7_most rfl cV_X3_greatestSpeed ml_X7_95 ⟨by decide, by decide⟩ 1 rfl rfl [.inl p, .inl s] [] rfl rfl (Nat.le_of_ble_eq_true rfl) 33 rfl (sp_gsp σ hσ p s (by omega) (by omega) hD.2 hV (fun x q1 q2 => by have := hL x q1 q2; omega)) (fun r10 σ11 hq12 => ?_)
      obtain ⟨rfl, g6, rfl, a7, b8, hg9⟩ := hq12
      refine sw_blk k_X7_most 0 33 [(0, .inr (.inr 0)), (1, .inl p), (2, .inl s)] [.inl g6] σ rfl ?_
      refine sw_ireturn k_X7_most rfl rfl ?_
      exact ⟨rfl, Or.inr ⟨by omega, _, rfl, a7, b8, hg9⟩⟩
    · refine sw_blk k_X7_most 2 18 [(0, .inr (.inr 0)), (1, .inl p), (2, .inl s)] [.inl (-1), .inl s] σ rfl ?_
      refine sw_icmp_eq k_X7_most rfl (by omega) (by decide) 24 21 (by decide) rfl (fun c13 => ?_) (fun c13 => ?_)
      · refine sw_blk k_X7_most 4 30 [(0, .inr (.inr 0)), (1, .inl p), (2, .inl s)] [.inl s, .inl p, .inr (.inr 1)] σ rfl ?_
        refine sw_callV k_X7_most rfl cV_X3_greatestSpeed ml_X7_95 ⟨by decide, by decide⟩ 1 rfl rfl [.inl p, .inl s] [] rfl rfl (Nat.le_of_ble_eq_true rfl) 33 rfl (sp_gsp σ hσ p s (by omega) (by omega) hD.2 hV (fun x q1 q2 => by have := hL x q1 q2; omega)) (fun r18 σ19 hq20 => ?_)
        obtain ⟨rfl, g14, rfl, a15, b16, hg17⟩ := hq20
        refine sw_blk k_X7_most 0 33 [(0, .inr (.inr 0)), (1, .inl p), (2, .inl s)] [.inl g14] σ rfl ?_
        refine sw_ireturn k_X7_most rfl rfl ?_
        exact ⟨rfl, Or.inr ⟨by omega, _, rfl, a15, b16, hg17⟩⟩
      · refine sw_blk k_X7_most 1 23 [(0, .inr (.inr 0)), (1, .inl p), (2, .inl s)] [.inl (-2)] σ rfl ?_
        refine sw_ireturn k_X7_most rfl rfl ?_
        exact ⟨rfl, Or.inl ⟨by omega, rfl⟩⟩
  · have p1 : ¬ (0 ≤ p ∧ p ≤ (σ 1 0)) := p1
    refine sw_blk k_X7_most 0 8 [(0, .inr (.inr 0)), (1, .inl p), (2, .inl s)] [.inl 0] σ rfl ?_
    refine sw_if_eq k_X7_most rfl (by decide) 21 11 (by decide) rfl (fun _ => ?_) (fun c => absurd (by decide) c)
    refine sw_blk k_X7_most 1 23 [(0, .inr (.inr 0)), (1, .inl p), (2, .inl s)] [.inl (-2)] σ rfl ?_
    refine sw_ireturn k_X7_most rfl rfl ?_
    exact ⟨rfl, Or.inl ⟨by omega, rfl⟩⟩
def sw_stc (σ : sw_S) (x : Int) : Int := if x = 0 then σ 5 7 else if x = 1 then σ 5 8 else if x = 2 then σ 5 9 else if x = 3 then σ 5 10 else if x = 4 then sw_cnt (σ 8) 8 else if x = 5 then sw_told (σ 5 7) (σ 9 0) (σ 9 1) (σ 9 2) else if x = 6 then σ 6 1 else if x = 7 then (if σ 5 9 = 1 then σ 5 5 - σ 5 6 else 0) else if x = 8 then σ 5 13 else if x = 9 then σ 5 14 else if x = 10 then σ 1 3 else if x = 11 then σ 0 8 else if x = 12 then σ 0 9 else -2000
theorem cc_state (σ : sw_S) (hσ : sw_gs σ) (x : Int) (gx : sw_g x) : sw_Con sw_ly sw_rho M_X7_state [.inr (.inr 0), .inl x] σ (fun r σ' => σ = σ' ∧ r = some (.inl (sw_stc σ x))) := by
  have hx : x = 0 ∨ x = 1 ∨ x = 2 ∨ x = 3 ∨ x = 4 ∨ x = 5 ∨ x = 6 ∨ x = 7 ∨ x = 8 ∨ x = 9 ∨ x = 10 ∨ x = 11 ∨ x = 12 ∨ (x < 0 ∨ 12 < x) := by omega
  rcases hx with rfl | rfl | rfl | rfl | rfl | rfl | rfl | rfl | rfl | rfl | rfl | rfl | rfl | hx
  · refine sw_con (by decide) (Nat.le_of_ble_eq_true rfl) ?_
    refine sw_blk k_X7_state 1 1 [(0, .inr (.inr 0)), (1, .inl 0)] [.inl 0] σ rfl ?_
    refine sw_tabIn k_X7_state rfl (by decide) (by decide) (by decide) rfl 68 (by decide) ?_
    refine sw_blk k_X7_state 3 75 [(0, .inr (.inr 0)), (1, .inl 0)] [.inl (σ 5 7)] σ rfl ?_
    refine sw_ireturn k_X7_state rfl rfl ?_
    exact ⟨rfl, rfl⟩
  · refine sw_con (by decide) (Nat.le_of_ble_eq_true rfl) ?_
    refine sw_blk k_X7_state 1 1 [(0, .inr (.inr 0)), (1, .inl 1)] [.inl 1] σ rfl ?_
    refine sw_tabIn k_X7_state rfl (by decide) (by decide) (by decide) rfl 76 (by decide) ?_
    refine sw_blk k_X7_state 3 83 [(0, .inr (.inr 0)), (1, .inl 1)] [.inl (σ 5 8)] σ rfl ?_
    refine sw_ireturn k_X7_state rfl rfl ?_
    exact ⟨rfl, rfl⟩
  · refine sw_con (by decide) (Nat.le_of_ble_eq_true rfl) ?_
    refine sw_blk k_X7_state 1 1 [(0, .inr (.inr 0)), (1, .inl 2)] [.inl 2] σ rfl ?_
    refine sw_tabIn k_X7_state rfl (by decide) (by decide) (by decide) rfl 84 (by decide) ?_
    refine sw_blk k_X7_state 3 91 [(0, .inr (.inr 0)), (1, .inl 2)] [.inl (σ 5 9)] σ rfl ?_
    refine sw_ireturn k_X7_state rfl rfl ?_
    exact ⟨rfl, rfl⟩
  · refine sw_con (by decide) (Nat.le_of_ble_eq_true rfl) ?_
    refine sw_blk k_X7_state 1 1 [(0, .inr (.inr 0)), (1, .inl 3)] [.inl 3] σ rfl ?_
    refine sw_tabIn k_X7_state rfl (by decide) (by decide) (by decide) rfl 92 (by decide) ?_
    refine sw_blk k_X7_state 3 99 [(0, .inr (.inr 0)), (1, .inl 3)] [.inl (σ 5 10)] σ rfl ?_
    refine sw_ireturn k_X7_state rfl rfl ?_
    exact ⟨rfl, rfl⟩
  · refine sw_con (by decide) (Nat.le_of_ble_eq_true rfl) ?_
    refine sw_blk k_X7_state 1 1 [(0, .inr (.inr 0)), (1, .inl 4)] [.inl 4] σ rfl ?_
    refine sw_tabIn k_X7_state rfl (by decide) (by decide) (by decide) rfl 100 (by decide) ?_
    refine sw_blk k_X7_state 2 104 [(0, .inr (.inr 0)), (1, .inl 4)] [.inr (.inr 5)] σ rfl ?_
    refine sw_callV k_X7_state rfl cV_X6_openLinks ml_X7_122 ⟨by decide, by decide⟩ 5 rfl rfl [] [] rfl rfl (Nat.le_of_ble_eq_true rfl) 107 rfl (sp_openLinks σ (fun j => hσ 8 j)) (fun r14 σ15 hq16 => ?_)
    obtain ⟨rfl, rfl⟩ := hq16
    refine sw_blk k_X7_state 0 107 [(0, .inr (.inr 0)), (1, .inl 4)] [.inl (sw_cnt (σ 8) 8)] σ rfl ?_
    refine sw_ireturn k_X7_state rfl rfl ?_
    exact ⟨rfl, rfl⟩
  · refine sw_con (by decide) (Nat.le_of_ble_eq_true rfl) ?_
    refine sw_blk k_X7_state 1 1 [(0, .inr (.inr 0)), (1, .inl 5)] [.inl 5] σ rfl ?_
    refine sw_tabIn k_X7_state rfl (by decide) (by decide) (by decide) rfl 108 (by decide) ?_
    refine sw_blk k_X7_state 2 112 [(0, .inr (.inr 0)), (1, .inl 5)] [.inr (.inr 5)] σ rfl ?_
    refine sw_callV k_X7_state rfl cV_X6_told ml_X7_142 ⟨by decide, by decide⟩ 5 rfl rfl [] [] rfl rfl (Nat.le_of_ble_eq_true rfl) 115 rfl (sp_told σ  (hσ 9 _) (hσ 9 _) (hσ 9 _)) (fun r14 σ15 hq16 => ?_)
    obtain ⟨rfl, rfl⟩ := hq16
    refine sw_blk k_X7_state 0 115 [(0, .inr (.inr 0)), (1, .inl 5)] [.inl (σ 5 7 + σ 9 0 + σ 9 1 + σ 9 2 - min (σ 9 0) (min (σ 9 1) (σ 9 2)) - max (σ 9 0) (max (σ 9 1) (σ 9 2)))] σ rfl ?_
    refine sw_ireturn k_X7_state rfl rfl ?_
    exact ⟨rfl, rfl⟩
  · refine sw_con (by decide) (Nat.le_of_ble_eq_true rfl) ?_
    refine sw_blk k_X7_state 1 1 [(0, .inr (.inr 0)), (1, .inl 6)] [.inl 6] σ rfl ?_
    refine sw_tabIn k_X7_state rfl (by decide) (by decide) (by decide) rfl 116 (by decide) ?_
    refine sw_blk k_X7_state 4 126 [(0, .inr (.inr 0)), (1, .inl 6)] [.inl (σ 6 1)] σ rfl ?_
    refine sw_ireturn k_X7_state rfl rfl ?_
    exact ⟨rfl, rfl⟩
  · refine sw_con (by decide) (Nat.le_of_ble_eq_true rfl) ?_
    refine sw_blk k_X7_state 1 1 [(0, .inr (.inr 0)), (1, .inl 7)] [.inl 7] σ rfl ?_
    refine sw_tabIn k_X7_state rfl (by decide) (by decide) (by decide) rfl 127 (by decide) ?_
    refine sw_blk k_X7_state 2 131 [(0, .inr (.inr 0)), (1, .inl 7)] [.inr (.inr 5)] σ rfl ?_
    refine sw_callV k_X7_state rfl cV_X6_ticksLeft ml_X7_154 ⟨by decide, by decide⟩ 5 rfl rfl [] [] rfl rfl (Nat.le_of_ble_eq_true rfl) 134 rfl (sp_ticksLeft σ  (hσ 5 _)) (fun r14 σ15 hq16 => ?_)
    obtain ⟨rfl, rfl⟩ := hq16
    refine sw_blk k_X7_state 0 134 [(0, .inr (.inr 0)), (1, .inl 7)] [.inl (if σ 5 9 = 1 then σ 5 5 - σ 5 6 else 0)] σ rfl ?_
    refine sw_ireturn k_X7_state rfl rfl ?_
    exact ⟨rfl, rfl⟩
  · refine sw_con (by decide) (Nat.le_of_ble_eq_true rfl) ?_
    refine sw_blk k_X7_state 1 1 [(0, .inr (.inr 0)), (1, .inl 8)] [.inl 8] σ rfl ?_
    refine sw_tabIn k_X7_state rfl (by decide) (by decide) (by decide) rfl 135 (by decide) ?_
    refine sw_blk k_X7_state 3 142 [(0, .inr (.inr 0)), (1, .inl 8)] [.inl (σ 5 13)] σ rfl ?_
    refine sw_ireturn k_X7_state rfl rfl ?_
    exact ⟨rfl, rfl⟩
  · refine sw_con (by decide) (Nat.le_of_ble_eq_true rfl) ?_
    refine sw_blk k_X7_state 1 1 [(0, .inr (.inr 0)), (1, .inl 9)] [.inl 9] σ rfl ?_
    refine sw_tabIn k_X7_state rfl (by decide) (by decide) (by decide) rfl 143 (by decide) ?_
    refine sw_blk k_X7_state 3 150 [(0, .inr (.inr 0)), (1, .inl 9)] [.inl (σ 5 14)] σ rfl ?_
    refine sw_ireturn k_X7_state rfl rfl ?_
    exact ⟨rfl, rfl⟩
  · refine sw_con (by decide) (Nat.le_of_ble_eq_true rfl) ?_
    refine sw_blk k_X7_state 1 1 [(0, .inr (.inr 0)), (1, .inl 10)] [.inl 10] σ rfl ?_
    refine sw_tabIn k_X7_state rfl (by decide) (by decide) (by decide) rfl 151 (by decide) ?_
    refine sw_blk k_X7_state 3 158 [(0, .inr (.inr 0)), (1, .inl 10)] [.inl (σ 1 3)] σ rfl ?_
    refine sw_ireturn k_X7_state rfl rfl ?_
    exact ⟨rfl, rfl⟩
  · refine sw_con (by decide) (Nat.le_of_ble_eq_true rfl) ?_
    refine sw_blk k_X7_state 1 1 [(0, .inr (.inr 0)), (1, .inl 11)] [.inl 11] σ rfl ?_
    refine sw_tabIn k_X7_state rfl (by decide) (by decide) (by decide) rfl 159 (by decide) ?_
    refine sw_blk k_X7_state 2 163 [(0, .inr (.inr 0)), (1, .inl 11)] [.inl (σ 0 8)] σ rfl ?_
    refine sw_ireturn k_X7_state rfl rfl ?_
    exact ⟨rfl, rfl⟩
  · refine sw_con (by decide) (Nat.le_of_ble_eq_true rfl) ?_
    refine sw_blk k_X7_state 1 1 [(0, .inr (.inr 0)), (1, .inl 12)] [.inl 12] σ rfl ?_
    refine sw_tabIn k_X7_state rfl (by decide) (by decide) (by decide) rfl 164 (by decide) ?_
    refine sw_blk k_X7_state 2 168 [(0, .inr (.inr 0)), (1, .inl 12)] [.inl (σ 0 9)] σ rfl ?_
    refine sw_ireturn k_X7_state rfl rfl ?_
    exact ⟨rfl, rfl⟩
  · refine sw_con (by decide) (Nat.le_of_ble_eq_true rfl) ?_
    refine sw_blk k_X7_state 1 1 [(0, .inr (.inr 0)), (1, .inl x)] [.inl x] σ rfl ?_
    refine sw_tabOut k_X7_state rfl (by omega) (by omega) 169 (by decide) ?_
    refine sw_blk k_X7_state 1 172 [(0, .inr (.inr 0)), (1, .inl x)] [.inl (-2000)] σ rfl ?_
    refine sw_ireturn k_X7_state rfl rfl ?_
    exact ⟨rfl, congrArg (fun q : Int => some (Sum.inl q)) (show ((-2000) : Int) = sw_stc σ x from by unfold sw_stc; (repeat rw [if_neg (by omega)]))⟩
end
section
/-- n is how many ticks the ride from p to q has -/
def sw_isn (lim : Nat → Int) (D V A p q : Int) (n : Nat) : Prop := (n : Int) ≤ 400 ∧ sw_R lim D V A q (if p < q then 1 else -1) n (sw_abs (q - p)) 0 ∧ ∀ m : Nat, m < n → ¬ sw_R lim D V A q (if p < q then 1 else -1) m (sw_abs (q - p)) 0
/-- a row has the ride's speeds -/
def sw_isr (lim : Nat → Int) (D V A p q : Int) (n : Nat) (f : Nat → Int) : Prop := sw_isn lim D V A p q n ∧ sw_gp lim D V A q (if p < q then 1 else -1) n (sw_abs (q - p)) 0 f 0
theorem sw_gp_rk {lim : Nat → Int} {D V A q w : Int} {f : Nat → Int} (hw : w = 1 ∨ w = -1) (hA : 1 ≤ A ∧ A ≤ 5) (N : Nat) (p : Int) : ∀ (n : Nat) (d b : Int) (k : Nat), sw_gp lim D V A q w n d b f k → k + n = N → sw_pl f p k = q - w * d → sw_pv f k = w * b → (0 ≤ q - w * d ∧ q - w * d ≤ D) → 0 ≤ b → (n = 0 → b ≤ A) → ∀ j, k ≤ j → j ≤ N → (0 ≤ sw_pl f p j ∧ sw_pl f p j ≤ D) ∧ (-9 ≤ sw_gx f N j - sw_pv f j ∧ sw_gx f N j - sw_pv f j ≤ 9)
  | 0, d, b, k, _, hN, hp, hv, hr, h0, hb, j, h1, h2 => by
    have e : j = k := by omega
    subst e
    have hb := hb rfl
    rw [hp, hv]
    refine ⟨hr, ?_⟩
    unfold sw_gx
    rw [if_neg (by omega)]
    rcases hw with rfl | rfl <;> omega
  | n + 1, d, b, k, hg, hN, hp, hv, hr, h0, hb, j, h1, h2 => by
    obtain ⟨s, e1, ⟨b1, b2, b3, b4, b5, b6, b7⟩, g1⟩ := hg
    rcases Nat.eq_or_lt_of_le h1 with z | z
    · subst z
      rw [hp, hv]
      refine ⟨hr, ?_⟩
      unfold sw_gx
      rw [if_pos (by omega), e1]
      rcases hw with rfl | rfl <;> omega
    · refine sw_gp_rk hw hA N p n (d - s) s (k + 1) g1 (by omega) ?_ ?_ ?_ (by omega) (fun z => ?_) j z h2
      · rw [sw_pl, hp, e1]; rcases hw with rfl | rfl <;> omega
      · rw [sw_pv]; exact e1
      · have a1 := b5.2.1
        have a2 := b5.2.2.1
        rcases hw with rfl | rfl <;> omega
      · subst z; exact b6.2
theorem sw_isr_rk {lim : Nat → Int} {D V A p q : Int} {n : Nat} {f : Nat → Int} (hA : 1 ≤ A ∧ A ≤ 5) (hp : 0 ≤ p ∧ p ≤ D) (h : sw_isr lim D V A p q n f) : sw_rk D f n p := by
  have hpl : q - (if p < q then 1 else -1) * sw_abs (q - p) = p := by unfold sw_abs; split <;> split <;> omega
  intro j hj
  refine sw_gp_rk (by split <;> decide) hA n p n (sw_abs (q - p)) 0 0 h.2 (by omega) ?_ ?_ ?_ (by omega) (fun _ => by omega) j (by omega) hj
  · rw [hpl]; rfl
  · rw [Int.mul_zero]; rfl
  · rw [hpl]; exact hp
theorem cc_ticks (σ : sw_S) (hσ : sw_gs σ) (hD : 10 ≤ σ 1 0 ∧ σ 1 0 ≤ 400) (hV : 1 ≤ σ 1 1 ∧ σ 1 1 ≤ 20) (hA : 1 ≤ σ 1 2 ∧ σ 1 2 ≤ 5) (hL : ∀ x : Int, 0 ≤ x → x ≤ σ 1 0 → 1 ≤ σ 2 x.toNat ∧ σ 2 x.toNat ≤ σ 1 1) (hf : sw_fn σ) (hpl : 0 ≤ σ 5 7 ∧ σ 5 7 ≤ σ 1 0) (q : Int) (gq : sw_g q) : sw_Con sw_ly sw_rho M_X7_ticks [.inr (.inr 0), .inl q] σ (fun r σ' => (¬ (0 ≤ q ∧ q ≤ σ 1 0) ∧ r = some (.inl (-2)) ∧ σ = σ') ∨ (((0 ≤ q ∧ q ≤ σ 1 0) ∧ ¬ σ 5 9 = 0) ∧ r = some (.inl (-4)) ∧ σ = σ') ∨ (((0 ≤ q ∧ q ≤ σ 1 0) ∧ σ 5 9 = 0) ∧ sw_fk σ σ' ∧ sw_gs σ' ∧ sw_fn σ' ∧ ∃ n : Nat, r = some (.inl (n : Int)) ∧ sw_isn (σ 2) (σ 1 0) (σ 1 1) (σ 1 2) (σ 5 7) q n)) := by
  refine sw_con (by decide) (Nat.le_of_ble_eq_true rfl) ?_
  refine sw_blk k_X7_ticks 3 5 [(0, .inr (.inr 0)), (1, .inl q)] [.inl q, .inr (.inr 1)] σ rfl ?_
  refine sw_callV k_X7_ticks rfl cV_X3_has ml_X7_85 ⟨by decide, by decide⟩ 1 rfl rfl [.inl q] [] rfl rfl (Nat.le_of_ble_eq_true rfl) 8 rfl (sp_has σ q (by omega) (hσ 1 0)) (fun r2 σ3 hq4 => ?_)
  obtain ⟨rfl, ⟨p1, rfl⟩ | ⟨p1, rfl⟩⟩ := hq4
  · have p1 : 0 ≤ q ∧ q ≤ (σ 1 0) := p1
    refine sw_blk k_X7_ticks 0 8 [(0, .inr (.inr 0)), (1, .inl q)] [.inl 1] σ rfl ?_
    refine sw_if_ne k_X7_ticks rfl (by decide) 14 11 (by decide) rfl (fun _ => ?_) (fun c => absurd c (by decide))
    refine sw_blk k_X7_ticks 2 18 [(0, .inr (.inr 0)), (1, .inl q)] [.inr (.inr 5)] σ rfl ?_
    refine sw_callV k_X7_ticks rfl cV_X6_rests ml_X7_67 ⟨by decide, by decide⟩ 5 rfl rfl [] [] rfl rfl (Nat.le_of_ble_eq_true rfl) 21 rfl (sp_rests σ  (hσ 5 _)) (fun r6 σ7 hq8 => ?_)
    obtain ⟨rfl, ⟨p5, rfl⟩ | ⟨p5, rfl⟩⟩ := hq8
    · refine sw_blk k_X7_ticks 0 21 [(0, .inr (.inr 0)), (1, .inl q)] [.inl 1] σ rfl ?_
      refine sw_if_ne k_X7_ticks rfl (by decide) 27 24 (by decide) rfl (fun _ => ?_) (fun c => absurd c (by decide))
      refine sw_blk k_X7_ticks 6 39 [(0, .inr (.inr 0)), (1, .inl q)] [.inl q, .inl (σ 5 7), .inr (.inr 3)] σ rfl ?_
      refine sw_callV k_X7_ticks rfl cV_X1_ticksBetween ml_X7_99 ⟨by decide, by decide⟩ 3 rfl rfl [.inl (σ 5 7), .inl q] [] rfl rfl (Nat.le_of_ble_eq_true rfl) 42 rfl (sp_ticksBetween σ hσ hD hV hA hL (σ 5 7) q (by omega) (by omega) hf) (fun r9 σ10 hq11 => ?_)
      obtain ⟨fk1, fk2, fk3, nn, rfl, nn1, nn2, nn3, nn4⟩ := hq11
      have hisn : sw_isn (σ 2) (σ 1 0) (σ 1 1) (σ 1 2) (σ 5 7) q nn := ⟨nn1, nn2, nn3⟩
      refine sw_blk k_X7_ticks 0 42 [(0, .inr (.inr 0)), (1, .inl q)] [.inl (nn : Int)] σ10 rfl ?_
      refine sw_ireturn k_X7_ticks rfl rfl ?_
      exact Or.inr (Or.inr ⟨by omega, fk1, fk2, fk3, nn, rfl, hisn⟩)
    · refine sw_blk k_X7_ticks 0 21 [(0, .inr (.inr 0)), (1, .inl q)] [.inl 0] σ rfl ?_
      refine sw_if_ne k_X7_ticks rfl (by decide) 27 24 (by decide) rfl (fun c => absurd (by decide) c) (fun _ => ?_)
      refine sw_blk k_X7_ticks 1 26 [(0, .inr (.inr 0)), (1, .inl q)] [.inl (-4)] σ rfl ?_
      refine sw_ireturn k_X7_ticks rfl rfl ?_
      exact Or.inr (Or.inl ⟨by omega, rfl, rfl⟩)
  · have p1 : ¬ (0 ≤ q ∧ q ≤ (σ 1 0)) := p1
    refine sw_blk k_X7_ticks 0 8 [(0, .inr (.inr 0)), (1, .inl q)] [.inl 0] σ rfl ?_
    refine sw_if_ne k_X7_ticks rfl (by decide) 14 11 (by decide) rfl (fun c => absurd (by decide) c) (fun _ => ?_)
    refine sw_blk k_X7_ticks 1 13 [(0, .inr (.inr 0)), (1, .inl q)] [.inl (-2)] σ rfl ?_
    refine sw_ireturn k_X7_ticks rfl rfl ?_
    exact Or.inl ⟨by omega, rfl, rfl⟩
theorem cc_speed (σ : sw_S) (hσ : sw_gs σ) (hD : 10 ≤ σ 1 0 ∧ σ 1 0 ≤ 400) (hV : 1 ≤ σ 1 1 ∧ σ 1 1 ≤ 20) (hA : 1 ≤ σ 1 2 ∧ σ 1 2 ≤ 5) (hL : ∀ x : Int, 0 ≤ x → x ≤ σ 1 0 → 1 ≤ σ 2 x.toNat ∧ σ 2 x.toNat ≤ σ 1 1) (hf : sw_fn σ) (hpl : 0 ≤ σ 5 7 ∧ σ 5 7 ≤ σ 1 0) (q t : Int) (gq : sw_g q) (gt : sw_g t) : sw_Con sw_ly sw_rho M_X7_speed [.inr (.inr 0), .inl q, .inl t] σ (fun r σ' => (¬ (0 ≤ q ∧ q ≤ σ 1 0) ∧ r = some (.inl (-2000)) ∧ σ = σ') ∨ (((0 ≤ q ∧ q ≤ σ 1 0) ∧ ¬ σ 5 9 = 0) ∧ r = some (.inl (-3000)) ∧ σ = σ') ∨ (((0 ≤ q ∧ q ≤ σ 1 0) ∧ σ 5 9 = 0) ∧ sw_fkc 25 σ σ' ∧ sw_gs σ' ∧ sw_fn σ' ∧ ∃ n : Nat, r = some (.inl (if 1 ≤ t ∧ t ≤ (n : Int) then σ' 25 (t - 1).toNat else -1000)) ∧ sw_isr (σ 2) (σ 1 0) (σ 1 1) (σ 1 2) (σ 5 7) q n (σ' 25))) := by
  refine sw_con (by decide) (Nat.le_of_ble_eq_true rfl) ?_
  refine sw_blk k_X7_speed 3 5 [(0, .inr (.inr 0)), (1, .inl q), (2, .inl t)] [.inl q, .inr (.inr 1)] σ rfl ?_
  refine sw_callV k_X7_speed rfl cV_X3_has ml_X7_85 ⟨by decide, by decide⟩ 1 rfl rfl [.inl q] [] rfl rfl (Nat.le_of_ble_eq_true rfl) 8 rfl (sp_has σ q (by omega) (hσ 1 0)) (fun r2 σ3 hq4 => ?_)
  obtain ⟨rfl, ⟨p1, rfl⟩ | ⟨p1, rfl⟩⟩ := hq4
  · have p1 : 0 ≤ q ∧ q ≤ (σ 1 0) := p1
    refine sw_blk k_X7_speed 0 8 [(0, .inr (.inr 0)), (1, .inl q), (2, .inl t)] [.inl 1] σ rfl ?_
    refine sw_if_ne k_X7_speed rfl (by decide) 15 11 (by decide) rfl (fun _ => ?_) (fun c => absurd c (by decide))
    refine sw_blk k_X7_speed 2 19 [(0, .inr (.inr 0)), (1, .inl q), (2, .inl t)] [.inr (.inr 5)] σ rfl ?_
    refine sw_callV k_X7_speed rfl cV_X6_rests ml_X7_67 ⟨by decide, by decide⟩ 5 rfl rfl [] [] rfl rfl (Nat.le_of_ble_eq_true rfl) 22 rfl (sp_rests σ  (hσ 5 _)) (fun r6 σ7 hq8 => ?_)
    obtain ⟨rfl, ⟨p5, rfl⟩ | ⟨p5, rfl⟩⟩ := hq8
    · refine sw_blk k_X7_speed 0 22 [(0, .inr (.inr 0)), (1, .inl q), (2, .inl t)] [.inl 1] σ rfl ?_
      refine sw_if_ne k_X7_speed rfl (by decide) 29 25 (by decide) rfl (fun _ => ?_) (fun c => absurd c (by decide))
      refine sw_blk k_X7_speed 8 45 [(0, .inr (.inr 0)), (1, .inl q), (2, .inl t)] [.inr (.inr 25), .inl q, .inl (σ 5 7), .inr (.inr 3)] σ rfl ?_
      refine sw_callV k_X7_speed rfl cV_X1_trace ml_X7_102 ⟨by decide, by decide⟩ 3 rfl rfl [.inl (σ 5 7), .inl q, .inr (.inr 25)] [] rfl rfl (Nat.le_of_ble_eq_true rfl) 48 rfl (sp_tracea σ hσ hD hV hA hL (σ 5 7) q (by omega) (by omega) hf) (fun r9 σ10 hq11 => ?_)
      obtain ⟨fk1, fk2, fk3, nn, rfl, nn1, nn2, nn3, nn4⟩ := hq11
      have hisr : sw_isr (σ 2) (σ 1 0) (σ 1 1) (σ 1 2) (σ 5 7) q nn _ := ⟨⟨nn1, nn2, nn3⟩, nn4⟩
      refine sw_blk k_X7_speed 4 52 [(3, .inl (nn : Int)), (0, .inr (.inr 0)), (1, .inl q), (2, .inl t)] [.inl (nn : Int), .inl 1, .inl t] σ10 rfl ?_
      refine sw_callS k_X7_speed rfl cS_X7_within ml_X7_63 ⟨by decide, by decide⟩ [.inl t, .inl 1, .inl (nn : Int)] [] rfl rfl (Nat.le_of_ble_eq_true rfl) 55 rfl (sp_within σ10 t 1 (nn : Int) (by omega) (by decide) (by omega)) (fun r13 σ14 hq15 => ?_)
      obtain ⟨rfl, ⟨p12, rfl⟩ | ⟨p12, rfl⟩⟩ := hq15
      · refine sw_blk k_X7_speed 0 55 [(3, .inl (nn : Int)), (0, .inr (.inr 0)), (1, .inl q), (2, .inl t)] [.inl 1] σ10 rfl ?_
        refine sw_if_eq k_X7_speed rfl (by decide) 69 58 (by decide) rfl (fun c => absurd c (by decide)) (fun _ => ?_)
        refine sw_blk k_X7_speed 5 65 [(3, .inl (nn : Int)), (0, .inr (.inr 0)), (1, .inl q), (2, .inl t)] [.inl (t - 1), .inr (.inr 25)] σ10 rfl ?_
        refine sw_iald k_X7_speed rfl (i := 25) (n := 400) rfl (by decide) (by omega) (by omega) 66 rfl ?_
        refine sw_blk k_X7_speed 1 72 [(3, .inl (nn : Int)), (0, .inr (.inr 0)), (1, .inl q), (2, .inl t)] [.inl (σ10 25 ((t - 1).toNat))] σ10 rfl ?_
        refine sw_ireturn k_X7_speed rfl rfl ?_
        refine Or.inr (Or.inr ⟨by omega, fk1, fk2, fk3, nn, ?_, hisr⟩)
        exact congrArg (fun z : Int => some (Sum.inl z)) (by first | (rw [if_pos (by omega)]; done) | (rw [if_neg (by omega)]; done))
      · refine sw_blk k_X7_speed 0 55 [(3, .inl (nn : Int)), (0, .inr (.inr 0)), (1, .inl q), (2, .inl t)] [.inl 0] σ10 rfl ?_
        refine sw_if_eq k_X7_speed rfl (by decide) 69 58 (by decide) rfl (fun _ => ?_) (fun c => absurd (by decide) c)
        refine sw_blk k_X7_speed 1 72 [(3, .inl (nn : Int)), (0, .inr (.inr 0)), (1, .inl q), (2, .inl t)] [.inl (-1000)] σ10 rfl ?_
        refine sw_ireturn k_X7_speed rfl rfl ?_
        refine Or.inr (Or.inr ⟨by omega, fk1, fk2, fk3, nn, ?_, hisr⟩)
        exact congrArg (fun z : Int => some (Sum.inl z)) (by first | (rw [if_pos (by omega)]; done) | (rw [if_neg (by omega)]; done))
    · refine sw_blk k_X7_speed 0 22 [(0, .inr (.inr 0)), (1, .inl q), (2, .inl t)] [.inl 0] σ rfl ?_
      refine sw_if_ne k_X7_speed rfl (by decide) 29 25 (by decide) rfl (fun c => absurd (by decide) c) (fun _ => ?_)
      refine sw_blk k_X7_speed 1 28 [(0, .inr (.inr 0)), (1, .inl q), (2, .inl t)] [.inl (-3000)] σ rfl ?_
      refine sw_ireturn k_X7_speed rfl rfl ?_
      exact Or.inr (Or.inl ⟨by omega, rfl, rfl⟩)
  · have p1 : ¬ (0 ≤ q ∧ q ≤ (σ 1 0)) := p1
    refine sw_blk k_X7_speed 0 8 [(0, .inr (.inr 0)), (1, .inl q), (2, .inl t)] [.inl 0] σ rfl ?_
    refine sw_if_ne k_X7_speed rfl (by decide) 15 11 (by decide) rfl (fun c => absurd (by decide) c) (fun _ => ?_)
    refine sw_blk k_X7_speed 1 14 [(0, .inr (.inr 0)), (1, .inl q), (2, .inl t)] [.inl (-2000)] σ rfl ?_
    refine sw_ireturn k_X7_speed rfl rfl ?_
    exact Or.inl ⟨by omega, rfl, rfl⟩
theorem cc_slipAt (σ : sw_S) (hσ : sw_gs σ) (hD : 10 ≤ σ 1 0 ∧ σ 1 0 ≤ 400) (hV : 1 ≤ σ 1 1 ∧ σ 1 1 ≤ 20) (hA : 1 ≤ σ 1 2 ∧ σ 1 2 ≤ 5) (hL : ∀ x : Int, 0 ≤ x → x ≤ σ 1 0 → 1 ≤ σ 2 x.toNat ∧ σ 2 x.toNat ≤ σ 1 1) (hf : sw_fn σ) (hpl : 0 ≤ σ 5 7 ∧ σ 5 7 ≤ σ 1 0) (hl0 : 0 ≤ σ 11 1 ∧ σ 11 1 ≤ 1000) (hl1 : 0 ≤ σ 11 2 ∧ σ 11 2 ≤ 1000) (hwt : 0 ≤ σ 11 3 ∧ σ 11 3 ≤ 10) (hkp : 100 ≤ σ 11 4 ∧ σ 11 4 ≤ 400) (q : Int) (gq : sw_g q) : sw_Con sw_ly sw_rho M_X7_slipAt [.inr (.inr 0), .inl q] σ (fun r σ' => (¬ (0 ≤ q ∧ q ≤ σ 1 0) ∧ r = some (.inl (-2)) ∧ σ = σ') ∨ (((0 ≤ q ∧ q ≤ σ 1 0) ∧ ¬ σ 5 9 = 0) ∧ r = some (.inl (-4)) ∧ σ = σ') ∨ (((0 ≤ q ∧ q ≤ σ 1 0) ∧ σ 5 9 = 0) ∧ sw_fkc 25 σ σ' ∧ sw_gs σ' ∧ sw_fn σ' ∧ ∃ (n : Nat) (x : Int), r = some (.inl x) ∧ sw_isr (σ 2) (σ 1 0) (σ 1 1) (σ 1 2) (σ 5 7) q n (σ' 25) ∧ sw_fs (sw_sl (σ 11 1) (σ 11 2) (σ 11 3) (σ 1 0) (σ' 25) n (σ 5 7) (σ 11 4)) n x)) := by
  refine sw_con (by decide) (Nat.le_of_ble_eq_true rfl) ?_
  refine sw_blk k_X7_slipAt 3 5 [(0, .inr (.inr 0)), (1, .inl q)] [.inl q, .inr (.inr 1)] σ rfl ?_
  refine sw_callV k_X7_slipAt rfl cV_X3_has ml_X7_85 ⟨by decide, by decide⟩ 1 rfl rfl [.inl q] [] rfl rfl (Nat.le_of_ble_eq_true rfl) 8 rfl (sp_has σ q (by omega) (hσ 1 0)) (fun r2 σ3 hq4 => ?_)
  obtain ⟨rfl, ⟨p1, rfl⟩ | ⟨p1, rfl⟩⟩ := hq4
  · have p1 : 0 ≤ q ∧ q ≤ (σ 1 0) := p1
    refine sw_blk k_X7_slipAt 0 8 [(0, .inr (.inr 0)), (1, .inl q)] [.inl 1] σ rfl ?_
    refine sw_if_ne k_X7_slipAt rfl (by decide) 14 11 (by decide) rfl (fun _ => ?_) (fun c => absurd c (by decide))
    refine sw_blk k_X7_slipAt 2 18 [(0, .inr (.inr 0)), (1, .inl q)] [.inr (.inr 5)] σ rfl ?_
    refine sw_callV k_X7_slipAt rfl cV_X6_rests ml_X7_67 ⟨by decide, by decide⟩ 5 rfl rfl [] [] rfl rfl (Nat.le_of_ble_eq_true rfl) 21 rfl (sp_rests σ  (hσ 5 _)) (fun r6 σ7 hq8 => ?_)
    obtain ⟨rfl, ⟨p5, rfl⟩ | ⟨p5, rfl⟩⟩ := hq8
    · refine sw_blk k_X7_slipAt 0 21 [(0, .inr (.inr 0)), (1, .inl q)] [.inl 1] σ rfl ?_
      refine sw_if_ne k_X7_slipAt rfl (by decide) 27 24 (by decide) rfl (fun _ => ?_) (fun c => absurd c (by decide))
      refine sw_blk k_X7_slipAt 8 43 [(0, .inr (.inr 0)), (1, .inl q)] [.inr (.inr 25), .inl q, .inl (σ 5 7), .inr (.inr 3)] σ rfl ?_
      refine sw_callV k_X7_slipAt rfl cV_X1_trace ml_X7_102 ⟨by decide, by decide⟩ 3 rfl rfl [.inl (σ 5 7), .inl q, .inr (.inr 25)] [] rfl rfl (Nat.le_of_ble_eq_true rfl) 46 rfl (sp_tracea σ hσ hD hV hA hL (σ 5 7) q (by omega) (by omega) hf) (fun r9 σ10 hq11 => ?_)
      obtain ⟨fk1, fk2, fk3, nn, rfl, nn1, nn2, nn3, nn4⟩ := hq11
      have hisr : sw_isr (σ 2) (σ 1 0) (σ 1 1) (σ 1 2) (σ 5 7) q nn _ := ⟨⟨nn1, nn2, nn3⟩, nn4⟩
      refine sw_blk k_X7_slipAt 9 63 [(2, .inl (nn : Int)), (0, .inr (.inr 0)), (1, .inl q)] [.inl (nn : Int), .inr (.inr 25), .inl (σ10 5 7), .inr (.inr 11)] σ10 rfl ?_
      have e1 : σ10 1 = σ 1 := funext fun j => fk1 1 j (by decide) (by decide) (fun z => absurd z (by decide))
      have e5 : σ10 5 = σ 5 := funext fun j => fk1 5 j (by decide) (by decide) (fun z => absurd z (by decide))
      have e11 : σ10 11 = σ 11 := funext fun j => fk1 11 j (by decide) (by decide) (fun z => absurd z (by decide))
      have hrk : sw_rk (σ10 1 0) (σ10 25) nn (σ10 5 7) := by rw [e1, e5]; exact sw_isr_rk hA hpl hisr
      refine sw_callV k_X7_slipAt rfl cV_X2_firstSlip ml_X7_181 ⟨by decide, by decide⟩ 11 rfl rfl [.inl (σ10 5 7), .inr (.inr 25), .inl (nn : Int)] [] rfl rfl (Nat.le_of_ble_eq_true rfl) 66 rfl (sp_fslip σ10 fk2 (by rw [e11]; exact hl0) (by rw [e11]; exact hl1) (by rw [e11]; exact hwt) (by rw [e1]; exact hD) (by rw [e11]; exact hkp) nn (σ10 5 7) (by omega) hrk) (fun r12 σ13 hq14 => ?_)
      obtain ⟨rfl, x, rfl, hx⟩ := hq14
      rw [e1, e5, e11] at hx
      refine sw_blk k_X7_slipAt 0 66 [(2, .inl (nn : Int)), (0, .inr (.inr 0)), (1, .inl q)] [.inl x] σ10 rfl ?_
      refine sw_ireturn k_X7_slipAt rfl rfl ?_
      exact Or.inr (Or.inr ⟨by omega, fk1, fk2, fk3, nn, x, rfl, hisr, hx⟩)
    · refine sw_blk k_X7_slipAt 0 21 [(0, .inr (.inr 0)), (1, .inl q)] [.inl 0] σ rfl ?_
      refine sw_if_ne k_X7_slipAt rfl (by decide) 27 24 (by decide) rfl (fun c => absurd (by decide) c) (fun _ => ?_)
      refine sw_blk k_X7_slipAt 1 26 [(0, .inr (.inr 0)), (1, .inl q)] [.inl (-4)] σ rfl ?_
      refine sw_ireturn k_X7_slipAt rfl rfl ?_
      exact Or.inr (Or.inl ⟨by omega, rfl, rfl⟩)
  · have p1 : ¬ (0 ≤ q ∧ q ≤ (σ 1 0)) := p1
    refine sw_blk k_X7_slipAt 0 8 [(0, .inr (.inr 0)), (1, .inl q)] [.inl 0] σ rfl ?_
    refine sw_if_ne k_X7_slipAt rfl (by decide) 14 11 (by decide) rfl (fun c => absurd (by decide) c) (fun _ => ?_)
    refine sw_blk k_X7_slipAt 1 13 [(0, .inr (.inr 0)), (1, .inl q)] [.inl (-2)] σ rfl ?_
    refine sw_ireturn k_X7_slipAt rfl rfl ?_
    exact Or.inl ⟨by omega, rfl, rfl⟩
theorem cc_hold (σ : sw_S) (hσ : sw_gs σ) (hD : 10 ≤ σ 1 0 ∧ σ 1 0 ≤ 400) (hV : 1 ≤ σ 1 1 ∧ σ 1 1 ≤ 20) (hA : 1 ≤ σ 1 2 ∧ σ 1 2 ≤ 5) (hL : ∀ x : Int, 0 ≤ x → x ≤ σ 1 0 → 1 ≤ σ 2 x.toNat ∧ σ 2 x.toNat ≤ σ 1 1) (hf : sw_fn σ) (hpl : 0 ≤ σ 5 7 ∧ σ 5 7 ≤ σ 1 0) (hl0 : 0 ≤ σ 11 1 ∧ σ 11 1 ≤ 1000) (hl1 : 0 ≤ σ 11 2 ∧ σ 11 2 ≤ 1000) (hwt : 0 ≤ σ 11 3 ∧ σ 11 3 ≤ 10) (hkp : 100 ≤ σ 11 4 ∧ σ 11 4 ≤ 400) (q : Int) (gq : sw_g q) : sw_Con sw_ly sw_rho M_X7_hold [.inr (.inr 0), .inl q] σ (fun r σ' => (¬ (0 ≤ q ∧ q ≤ σ 1 0) ∧ r = some (.inl (-2)) ∧ σ = σ') ∨ (((0 ≤ q ∧ q ≤ σ 1 0) ∧ ¬ σ 5 9 = 0) ∧ r = some (.inl (-4)) ∧ σ = σ') ∨ (((0 ≤ q ∧ q ≤ σ 1 0) ∧ σ 5 9 = 0) ∧ sw_fkc 25 σ σ' ∧ sw_gs σ' ∧ sw_fn σ' ∧ ∃ (n : Nat) (x : Int), r = some (.inl x) ∧ sw_isr (σ 2) (σ 1 0) (σ 1 1) (σ 1 2) (σ 5 7) q n (σ' 25) ∧ sw_lr (fun k => (sw_sl (σ 11 1) (σ 11 2) (σ 11 3) (σ 1 0) (σ' 25) n (σ 5 7) k)) n x)) := by
  refine sw_con (by decide) (Nat.le_of_ble_eq_true rfl) ?_
  refine sw_blk k_X7_hold 3 5 [(0, .inr (.inr 0)), (1, .inl q)] [.inl q, .inr (.inr 1)] σ rfl ?_
  refine sw_callV k_X7_hold rfl cV_X3_has ml_X7_85 ⟨by decide, by decide⟩ 1 rfl rfl [.inl q] [] rfl rfl (Nat.le_of_ble_eq_true rfl) 8 rfl (sp_has σ q (by omega) (hσ 1 0)) (fun r2 σ3 hq4 => ?_)
  obtain ⟨rfl, ⟨p1, rfl⟩ | ⟨p1, rfl⟩⟩ := hq4
  · have p1 : 0 ≤ q ∧ q ≤ (σ 1 0) := p1
    refine sw_blk k_X7_hold 0 8 [(0, .inr (.inr 0)), (1, .inl q)] [.inl 1] σ rfl ?_
    refine sw_if_ne k_X7_hold rfl (by decide) 14 11 (by decide) rfl (fun _ => ?_) (fun c => absurd c (by decide))
    refine sw_blk k_X7_hold 2 18 [(0, .inr (.inr 0)), (1, .inl q)] [.inr (.inr 5)] σ rfl ?_
    refine sw_callV k_X7_hold rfl cV_X6_rests ml_X7_67 ⟨by decide, by decide⟩ 5 rfl rfl [] [] rfl rfl (Nat.le_of_ble_eq_true rfl) 21 rfl (sp_rests σ  (hσ 5 _)) (fun r6 σ7 hq8 => ?_)
    obtain ⟨rfl, ⟨p5, rfl⟩ | ⟨p5, rfl⟩⟩ := hq8
    · refine sw_blk k_X7_hold 0 21 [(0, .inr (.inr 0)), (1, .inl q)] [.inl 1] σ rfl ?_
      refine sw_if_ne k_X7_hold rfl (by decide) 27 24 (by decide) rfl (fun _ => ?_) (fun c => absurd c (by decide))
      refine sw_blk k_X7_hold 8 43 [(0, .inr (.inr 0)), (1, .inl q)] [.inr (.inr 25), .inl q, .inl (σ 5 7), .inr (.inr 3)] σ rfl ?_
      refine sw_callV k_X7_hold rfl cV_X1_trace ml_X7_102 ⟨by decide, by decide⟩ 3 rfl rfl [.inl (σ 5 7), .inl q, .inr (.inr 25)] [] rfl rfl (Nat.le_of_ble_eq_true rfl) 46 rfl (sp_tracea σ hσ hD hV hA hL (σ 5 7) q (by omega) (by omega) hf) (fun r9 σ10 hq11 => ?_)
      obtain ⟨fk1, fk2, fk3, nn, rfl, nn1, nn2, nn3, nn4⟩ := hq11
      have hisr : sw_isr (σ 2) (σ 1 0) (σ 1 1) (σ 1 2) (σ 5 7) q nn _ := ⟨⟨nn1, nn2, nn3⟩, nn4⟩
      refine sw_blk k_X7_hold 9 63 [(2, .inl (nn : Int)), (0, .inr (.inr 0)), (1, .inl q)] [.inl (nn : Int), .inr (.inr 25), .inl (σ10 5 7), .inr (.inr 11)] σ10 rfl ?_
      have e1 : σ10 1 = σ 1 := funext fun j => fk1 1 j (by decide) (by decide) (fun z => absurd z (by decide))
      have e5 : σ10 5 = σ 5 := funext fun j => fk1 5 j (by decide) (by decide) (fun z => absurd z (by decide))
      have e11 : σ10 11 = σ 11 := funext fun j => fk1 11 j (by decide) (by decide) (fun z => absurd z (by decide))
      have hrk : sw_rk (σ10 1 0) (σ10 25) nn (σ10 5 7) := by rw [e1, e5]; exact sw_isr_rk hA hpl hisr
      refine sw_callV k_X7_hold rfl cV_X2_leastRatio ml_X7_185 ⟨by decide, by decide⟩ 11 rfl rfl [.inl (σ10 5 7), .inr (.inr 25), .inl (nn : Int)] [] rfl rfl (Nat.le_of_ble_eq_true rfl) 66 rfl (sp_lratio σ10 fk2 (by rw [e11]; exact hl0) (by rw [e11]; exact hl1) (by rw [e11]; exact hwt) (by rw [e1]; exact hD) nn (σ10 5 7) (by omega) hrk) (fun r12 σ13 hq14 => ?_)
      obtain ⟨rfl, x, rfl, hx⟩ := hq14
      rw [e1, e5, e11] at hx
      refine sw_blk k_X7_hold 0 66 [(2, .inl (nn : Int)), (0, .inr (.inr 0)), (1, .inl q)] [.inl x] σ10 rfl ?_
      refine sw_ireturn k_X7_hold rfl rfl ?_
      exact Or.inr (Or.inr ⟨by omega, fk1, fk2, fk3, nn, x, rfl, hisr, hx⟩)
    · refine sw_blk k_X7_hold 0 21 [(0, .inr (.inr 0)), (1, .inl q)] [.inl 0] σ rfl ?_
      refine sw_if_ne k_X7_hold rfl (by decide) 27 24 (by decide) rfl (fun c => absurd (by decide) c) (fun _ => ?_)
      refine sw_blk k_X7_hold 1 26 [(0, .inr (.inr 0)), (1, .inl q)] [.inl (-4)] σ rfl ?_
      refine sw_ireturn k_X7_hold rfl rfl ?_
      exact Or.inr (Or.inl ⟨by omega, rfl, rfl⟩)
  · have p1 : ¬ (0 ≤ q ∧ q ≤ (σ 1 0)) := p1
    refine sw_blk k_X7_hold 0 8 [(0, .inr (.inr 0)), (1, .inl q)] [.inl 0] σ rfl ?_
    refine sw_if_ne k_X7_hold rfl (by decide) 14 11 (by decide) rfl (fun c => absurd (by decide) c) (fun _ => ?_)
    refine sw_blk k_X7_hold 1 13 [(0, .inr (.inr 0)), (1, .inl q)] [.inl (-2)] σ rfl ?_
    refine sw_ireturn k_X7_hold rfl rfl ?_
    exact Or.inl ⟨by omega, rfl, rfl⟩
theorem cc_zone (σ : sw_S) (hσ : sw_gs σ) (hD : 10 ≤ σ 1 0 ∧ σ 1 0 ≤ 400) (hV : 1 ≤ σ 1 1 ∧ σ 1 1 ≤ 20) (hA : 1 ≤ σ 1 2 ∧ σ 1 2 ≤ 5) (hL : ∀ x : Int, 0 ≤ x → x ≤ σ 1 0 → 1 ≤ σ 2 x.toNat ∧ σ 2 x.toNat ≤ σ 1 1) (hz : 0 ≤ σ 1 3 ∧ σ 1 3 ≤ 6) (a b w : Int) (ga : sw_g a) (gb : sw_g b) (gw : sw_g w) : sw_Con sw_ly sw_rho M_X7_zone [.inr (.inr 0), .inl a, .inl b, .inl w] σ (fun r σ' => (¬ ((0 ≤ a ∧ a ≤ σ 1 0) ∧ (0 ≤ b ∧ b ≤ σ 1 0) ∧ a ≤ b ∧ (1 ≤ w ∧ w ≤ 20)) ∧ r = some (.inl (-2)) ∧ σ = σ') ∨ ((((0 ≤ a ∧ a ≤ σ 1 0) ∧ (0 ≤ b ∧ b ≤ σ 1 0) ∧ a ≤ b ∧ (1 ≤ w ∧ w ≤ 20)) ∧ 6 ≤ σ 1 3) ∧ r = some (.inl (-3)) ∧ σ = σ') ∨ ((((0 ≤ a ∧ a ≤ σ 1 0) ∧ (0 ≤ b ∧ b ≤ σ 1 0) ∧ a ≤ b ∧ (1 ≤ w ∧ w ≤ 20)) ∧ σ 1 3 < 6 ∧ ¬ σ 5 9 = 0) ∧ r = some (.inl (-4)) ∧ σ = σ') ∨ ((((0 ≤ a ∧ a ≤ σ 1 0) ∧ (0 ≤ b ∧ b ≤ σ 1 0) ∧ a ≤ b ∧ (1 ≤ w ∧ w ≤ 20)) ∧ σ 1 3 < 6 ∧ σ 5 9 = 0) ∧ ∃ τ : sw_S, (∀ i j, i ≠ 2 → τ i j = σ i j) ∧ (∀ x : Nat, (x : Int) ≤ σ 1 0 → τ 2 x = (if (a ≤ (x : Int) ∧ (x : Int) < b + 1) ∨ (a ≤ σ 1 0 - x ∧ σ 1 0 - x < b + 1) then min (σ 2 x) w else σ 2 x)) ∧ sw_gs τ ∧ r = some (.inl (σ 1 3 + 1)) ∧ sw_u (sw_u τ 1 3 (τ 1 3 + 1)) 3 2 (-1) = σ')) := by
  refine sw_con (by decide) (Nat.le_of_ble_eq_true rfl) ?_
  refine sw_blk k_X7_zone 3 5 [(0, .inr (.inr 0)), (1, .inl a), (2, .inl b), (3, .inl w)] [.inl a, .inr (.inr 1)] σ rfl ?_
  refine sw_callV k_X7_zone rfl cV_X3_has ml_X7_85 ⟨by decide, by decide⟩ 1 rfl rfl [.inl a] [] rfl rfl (Nat.le_of_ble_eq_true rfl) 8 rfl (sp_has σ a (by omega) (hσ 1 0)) (fun r2 σ3 hq4 => ?_)
  obtain ⟨rfl, ⟨p1, rfl⟩ | ⟨p1, rfl⟩⟩ := hq4
  · have p1 : 0 ≤ a ∧ a ≤ (σ 1 0) := p1
    refine sw_blk k_X7_zone 0 8 [(0, .inr (.inr 0)), (1, .inl a), (2, .inl b), (3, .inl w)] [.inl 1] σ rfl ?_
    refine sw_if_eq k_X7_zone rfl (by decide) 37 11 (by decide) rfl (fun c => absurd c (by decide)) (fun _ => ?_)
    refine sw_blk k_X7_zone 3 16 [(0, .inr (.inr 0)), (1, .inl a), (2, .inl b), (3, .inl w)] [.inl b, .inr (.inr 1)] σ rfl ?_
    refine sw_callV k_X7_zone rfl cV_X3_has ml_X7_85 ⟨by decide, by decide⟩ 1 rfl rfl [.inl b] [] rfl rfl (Nat.le_of_ble_eq_true rfl) 19 rfl (sp_has σ b (by omega) (hσ 1 0)) (fun r6 σ7 hq8 => ?_)
    obtain ⟨rfl, ⟨p5, rfl⟩ | ⟨p5, rfl⟩⟩ := hq8
    · have p5 : 0 ≤ b ∧ b ≤ (σ 1 0) := p5
      refine sw_blk k_X7_zone 0 19 [(0, .inr (.inr 0)), (1, .inl a), (2, .inl b), (3, .inl w)] [.inl 1] σ rfl ?_
      refine sw_if_eq k_X7_zone rfl (by decide) 37 22 (by decide) rfl (fun c => absurd c (by decide)) (fun _ => ?_)
      refine sw_blk k_X7_zone 2 24 [(0, .inr (.inr 0)), (1, .inl a), (2, .inl b), (3, .inl w)] [.inl b, .inl a] σ rfl ?_
      refine sw_icmp_gt k_X7_zone rfl (by omega) (by omega) 37 27 (by decide) rfl (fun c9 => ?_) (fun c9 => ?_)
      · refine sw_blk k_X7_zone 1 39 [(0, .inr (.inr 0)), (1, .inl a), (2, .inl b), (3, .inl w)] [.inl (-2)] σ rfl ?_
        refine sw_ireturn k_X7_zone rfl rfl ?_
        exact Or.inl ⟨by omega, rfl, rfl⟩
      · refine sw_blk k_X7_zone 3 31 [(0, .inr (.inr 0)), (1, .inl a), (2, .inl b), (3, .inl w)] [.inl 20, .inl 1, .inl w] σ rfl ?_
        refine sw_callS k_X7_zone rfl cS_X7_within ml_X7_63 ⟨by decide, by decide⟩ [.inl w, .inl 1, .inl 20] [] rfl rfl (Nat.le_of_ble_eq_true rfl) 34 rfl (sp_within σ w 1 20 (by omega) (by decide) (by decide)) (fun r11 σ12 hq13 => ?_)
        obtain ⟨rfl, ⟨p10, rfl⟩ | ⟨p10, rfl⟩⟩ := hq13
        · refine sw_blk k_X7_zone 0 34 [(0, .inr (.inr 0)), (1, .inl a), (2, .inl b), (3, .inl w)] [.inl 1] σ rfl ?_
          refine sw_if_ne k_X7_zone rfl (by decide) 40 37 (by decide) rfl (fun _ => ?_) (fun c => absurd c (by decide))
          refine sw_blk k_X7_zone 4 49 [(0, .inr (.inr 0)), (1, .inl a), (2, .inl b), (3, .inl w)] [.inl 6, .inl (σ 1 3)] σ rfl ?_
          refine sw_icmp_lt k_X7_zone rfl (hσ 1 _) (by decide) 55 52 (by decide) rfl (fun c14 => ?_) (fun c14 => ?_)
          · refine sw_blk k_X7_zone 2 59 [(0, .inr (.inr 0)), (1, .inl a), (2, .inl b), (3, .inl w)] [.inr (.inr 5)] σ rfl ?_
            refine sw_callV k_X7_zone rfl cV_X6_rests ml_X7_67 ⟨by decide, by decide⟩ 5 rfl rfl [] [] rfl rfl (Nat.le_of_ble_eq_true rfl) 62 rfl (sp_rests σ  (hσ 5 _)) (fun r16 σ17 hq18 => ?_)
            obtain ⟨rfl, ⟨p15, rfl⟩ | ⟨p15, rfl⟩⟩ := hq18
            · refine sw_blk k_X7_zone 0 62 [(0, .inr (.inr 0)), (1, .inl a), (2, .inl b), (3, .inl w)] [.inl 1] σ rfl ?_
              refine sw_if_ne k_X7_zone rfl (by decide) 68 65 (by decide) rfl (fun _ => ?_) (fun c => absurd c (by decide))
              refine sw_blk k_X7_zone 5 75 [(0, .inr (.inr 0)), (1, .inl a), (2, .inl b), (3, .inl w)] [.inl w, .inl b, .inl a, .inr (.inr 1)] σ rfl ?_
              refine sw_callV k_X7_zone rfl cV_X3_addZone ml_X7_92 ⟨by decide, by decide⟩ 1 rfl rfl [.inl a, .inl b, .inl w] [] rfl rfl (Nat.le_of_ble_eq_true rfl) 78 rfl (sp_addZone σ hσ a b w (by omega) (by omega) hD) (fun r19 σ20 hq21 => ?_)
              obtain ⟨rfl, τ, z1, z2, z3, rfl⟩ := hq21
              refine sw_blk k_X7_zone 2 82 [(0, .inr (.inr 0)), (1, .inl a), (2, .inl b), (3, .inl w)] [.inr (.inr 3)] (sw_u τ 1 3 (τ 1 3 + 1)) rfl ?_
              refine sw_callV k_X7_zone rfl cV_X1_forget ml_X7_75 ⟨by decide, by decide⟩ 3 rfl rfl [] [] rfl rfl (Nat.le_of_ble_eq_true rfl) 85 rfl (sp_forget (sw_u τ 1 3 (τ 1 3 + 1))  ) (fun r22 σ23 hq24 => ?_)
              obtain ⟨rfl, rfl⟩ := hq24
              refine sw_blk k_X7_zone 3 92 [(0, .inr (.inr 0)), (1, .inl a), (2, .inl b), (3, .inl w)] [.inl (τ 1 3 + 1)] (sw_u (sw_u τ 1 3 (τ 1 3 + 1)) 3 2 (-1)) rfl ?_
              refine sw_ireturn k_X7_zone rfl rfl ?_
              exact Or.inr (Or.inr (Or.inr ⟨by omega, τ, z1, z2, z3, by rw [z1 1 3 (by decide)], rfl⟩))
            · refine sw_blk k_X7_zone 0 62 [(0, .inr (.inr 0)), (1, .inl a), (2, .inl b), (3, .inl w)] [.inl 0] σ rfl ?_
              refine sw_if_ne k_X7_zone rfl (by decide) 68 65 (by decide) rfl (fun c => absurd (by decide) c) (fun _ => ?_)
              refine sw_blk k_X7_zone 1 67 [(0, .inr (.inr 0)), (1, .inl a), (2, .inl b), (3, .inl w)] [.inl (-4)] σ rfl ?_
              refine sw_ireturn k_X7_zone rfl rfl ?_
              exact Or.inr (Or.inr (Or.inl ⟨by omega, rfl, rfl⟩))
          · refine sw_blk k_X7_zone 1 54 [(0, .inr (.inr 0)), (1, .inl a), (2, .inl b), (3, .inl w)] [.inl (-3)] σ rfl ?_
            refine sw_ireturn k_X7_zone rfl rfl ?_
            exact Or.inr (Or.inl ⟨by omega, rfl, rfl⟩)
        · refine sw_blk k_X7_zone 0 34 [(0, .inr (.inr 0)), (1, .inl a), (2, .inl b), (3, .inl w)] [.inl 0] σ rfl ?_
          refine sw_if_ne k_X7_zone rfl (by decide) 40 37 (by decide) rfl (fun c => absurd (by decide) c) (fun _ => ?_)
          refine sw_blk k_X7_zone 1 39 [(0, .inr (.inr 0)), (1, .inl a), (2, .inl b), (3, .inl w)] [.inl (-2)] σ rfl ?_
          refine sw_ireturn k_X7_zone rfl rfl ?_
          exact Or.inl ⟨by omega, rfl, rfl⟩
    · have p5 : ¬ (0 ≤ b ∧ b ≤ (σ 1 0)) := p5
      refine sw_blk k_X7_zone 0 19 [(0, .inr (.inr 0)), (1, .inl a), (2, .inl b), (3, .inl w)] [.inl 0] σ rfl ?_
      refine sw_if_eq k_X7_zone rfl (by decide) 37 22 (by decide) rfl (fun _ => ?_) (fun c => absurd (by decide) c)
      refine sw_blk k_X7_zone 1 39 [(0, .inr (.inr 0)), (1, .inl a), (2, .inl b), (3, .inl w)] [.inl (-2)] σ rfl ?_
      refine sw_ireturn k_X7_zone rfl rfl ?_
      exact Or.inl ⟨by omega, rfl, rfl⟩
  · have p1 : ¬ (0 ≤ a ∧ a ≤ (σ 1 0)) := p1
    refine sw_blk k_X7_zone 0 8 [(0, .inr (.inr 0)), (1, .inl a), (2, .inl b), (3, .inl w)] [.inl 0] σ rfl ?_
    refine sw_if_eq k_X7_zone rfl (by decide) 37 11 (by decide) rfl (fun _ => ?_) (fun c => absurd (by decide) c)
    refine sw_blk k_X7_zone 1 39 [(0, .inr (.inr 0)), (1, .inl a), (2, .inl b), (3, .inl w)] [.inl (-2)] σ rfl ?_
    refine sw_ireturn k_X7_zone rfl rfl ?_
    exact Or.inl ⟨by omega, rfl, rfl⟩
theorem cc_shift (σ : sw_S) (hσ : sw_gs σ) (hD : 10 ≤ σ 1 0 ∧ σ 1 0 ≤ 400) (hV : 1 ≤ σ 1 1 ∧ σ 1 1 ≤ 20) (hA : 1 ≤ σ 1 2 ∧ σ 1 2 ≤ 5) (hL : ∀ x : Int, 0 ≤ x → x ≤ σ 1 0 → 1 ≤ σ 2 x.toNat ∧ σ 2 x.toNat ≤ σ 1 1) (hf : sw_fn σ) (q n c b : Int) (gq : sw_g q) (gn : sw_g n) (gc : sw_g c) (gb : sw_g b) : sw_Con sw_ly sw_rho M_X7_shift [.inr (.inr 0), .inl q, .inl n, .inl c, .inl b] σ (fun r σ' => (¬ ((0 ≤ q ∧ q ≤ σ 1 0) ∧ ((1 ≤ n ∧ n ≤ 500) ∧ (1 ≤ c ∧ c ≤ 50) ∧ (0 ≤ b ∧ b ≤ 100))) ∧ r = some (.inl (-2)) ∧ σ = σ') ∨ (((0 ≤ q ∧ q ≤ σ 1 0) ∧ ((1 ≤ n ∧ n ≤ 500) ∧ (1 ≤ c ∧ c ≤ 50) ∧ (0 ≤ b ∧ b ≤ 100))) ∧ sw_fk σ σ' ∧ sw_gs σ' ∧ sw_fn σ' ∧ ∃ m : Nat, r = some (.inl ((n + c - 1) / c * (b + m + b) + ((n + c - 1) / c - 1) * m)) ∧ sw_isn (σ 2) (σ 1 0) (σ 1 1) (σ 1 2) 0 q m)) := by
  refine sw_con (by decide) (Nat.le_of_ble_eq_true rfl) ?_
  refine sw_blk k_X7_shift 3 5 [(0, .inr (.inr 0)), (1, .inl q), (2, .inl n), (3, .inl c), (4, .inl b)] [.inl q, .inr (.inr 1)] σ rfl ?_
  refine sw_callV k_X7_shift rfl cV_X3_has ml_X7_85 ⟨by decide, by decide⟩ 1 rfl rfl [.inl q] [] rfl rfl (Nat.le_of_ble_eq_true rfl) 8 rfl (sp_has σ q (by omega) (hσ 1 0)) (fun r2 σ3 hq4 => ?_)
  obtain ⟨rfl, ⟨p1, rfl⟩ | ⟨p1, rfl⟩⟩ := hq4
  · have p1 : 0 ≤ q ∧ q ≤ (σ 1 0) := p1
    refine sw_blk k_X7_shift 0 8 [(0, .inr (.inr 0)), (1, .inl q), (2, .inl n), (3, .inl c), (4, .inl b)] [.inl 1] σ rfl ?_
    refine sw_if_eq k_X7_shift rfl (by decide) 21 11 (by decide) rfl (fun c => absurd c (by decide)) (fun _ => ?_)
    refine sw_blk k_X7_shift 3 15 [(0, .inr (.inr 0)), (1, .inl q), (2, .inl n), (3, .inl c), (4, .inl b)] [.inl b, .inl c, .inl n] σ rfl ?_
    refine sw_callS k_X7_shift rfl cS_X7_areMen ml_X7_204 ⟨by decide, by decide⟩ [.inl n, .inl c, .inl b] [] rfl rfl (Nat.le_of_ble_eq_true rfl) 18 rfl (sp_areMen σ n c b (by omega) (by omega) (by omega)) (fun r6 σ7 hq8 => ?_)
    obtain ⟨rfl, ⟨p5, rfl⟩ | ⟨p5, rfl⟩⟩ := hq8
    · refine sw_blk k_X7_shift 0 18 [(0, .inr (.inr 0)), (1, .inl q), (2, .inl n), (3, .inl c), (4, .inl b)] [.inl 1] σ rfl ?_
      refine sw_if_ne k_X7_shift rfl (by decide) 24 21 (by decide) rfl (fun _ => ?_) (fun c => absurd c (by decide))
      refine sw_blk k_X7_shift 2 26 [(0, .inr (.inr 0)), (1, .inl q), (2, .inl n), (3, .inl c), (4, .inl b)] [.inl c, .inl n] σ rfl ?_
      refine sw_callS k_X7_shift rfl cS_X7_tripsFor ml_X7_207 ⟨by decide, by decide⟩ [.inl n, .inl c] [] rfl rfl (Nat.le_of_ble_eq_true rfl) 29 rfl (sp_trips σ n c (by omega) (by omega)) (fun r9 σ10 hq11 => ?_)
      obtain ⟨rfl, rfl⟩ := hq11
      refine sw_blk k_X7_shift 5 37 [(5, .inl ((n + c - 1) / c)), (0, .inr (.inr 0)), (1, .inl q), (2, .inl n), (3, .inl c), (4, .inl b)] [.inl q, .inl 0, .inr (.inr 3)] σ rfl ?_
      refine sw_callV k_X7_shift rfl cV_X1_ticksBetween ml_X7_99 ⟨by decide, by decide⟩ 3 rfl rfl [.inl 0, .inl q] [] rfl rfl (Nat.le_of_ble_eq_true rfl) 40 rfl (sp_ticksBetween σ hσ hD hV hA hL 0 q (by omega) (by omega) hf) (fun r12 σ13 hq14 => ?_)
      obtain ⟨fk1, fk2, fk3, nn, rfl, nn1, nn2, nn3, nn4⟩ := hq14
      have hisn : sw_isn (σ 2) (σ 1 0) (σ 1 1) (σ 1 2) 0 q nn := ⟨nn1, nn2, nn3⟩
      refine sw_blk k_X7_shift 14 61 [(6, .inl (nn : Int)), (5, .inl ((n + c - 1) / c)), (0, .inr (.inr 0)), (1, .inl q), (2, .inl n), (3, .inl c), (4, .inl b)] [.inl ((((n + c - 1) / c) * ((b + (nn : Int)) + b)) + ((((n + c - 1) / c) - 1) * (nn : Int)))] σ13 rfl ?_
      refine sw_ireturn k_X7_shift rfl rfl ?_
      exact Or.inr ⟨by omega, fk1, fk2, fk3, nn, rfl, hisn⟩
    · refine sw_blk k_X7_shift 0 18 [(0, .inr (.inr 0)), (1, .inl q), (2, .inl n), (3, .inl c), (4, .inl b)] [.inl 0] σ rfl ?_
      refine sw_if_ne k_X7_shift rfl (by decide) 24 21 (by decide) rfl (fun c => absurd (by decide) c) (fun _ => ?_)
      refine sw_blk k_X7_shift 1 23 [(0, .inr (.inr 0)), (1, .inl q), (2, .inl n), (3, .inl c), (4, .inl b)] [.inl (-2)] σ rfl ?_
      refine sw_ireturn k_X7_shift rfl rfl ?_
      exact Or.inl ⟨by omega, rfl, rfl⟩
  · have p1 : ¬ (0 ≤ q ∧ q ≤ (σ 1 0)) := p1
    refine sw_blk k_X7_shift 0 8 [(0, .inr (.inr 0)), (1, .inl q), (2, .inl n), (3, .inl c), (4, .inl b)] [.inl 0] σ rfl ?_
    refine sw_if_eq k_X7_shift rfl (by decide) 21 11 (by decide) rfl (fun _ => ?_) (fun c => absurd (by decide) c)
    refine sw_blk k_X7_shift 1 23 [(0, .inr (.inr 0)), (1, .inl q), (2, .inl n), (3, .inl c), (4, .inl b)] [.inl (-2)] σ rfl ?_
    refine sw_ireturn k_X7_shift rfl rfl ?_
    exact Or.inl ⟨by omega, rfl, rfl⟩
theorem cc_both (σ : sw_S) (hσ : sw_gs σ) (hD : 10 ≤ σ 1 0 ∧ σ 1 0 ≤ 400) (hV : 1 ≤ σ 1 1 ∧ σ 1 1 ≤ 20) (hA : 1 ≤ σ 1 2 ∧ σ 1 2 ≤ 5) (hL : ∀ x : Int, 0 ≤ x → x ≤ σ 1 0 → 1 ≤ σ 2 x.toNat ∧ σ 2 x.toNat ≤ σ 1 1) (hf : sw_fn σ) (n c b : Int) (gn : sw_g n) (gc : sw_g c) (gb : sw_g b) : sw_Con sw_ly sw_rho M_X7_both [.inr (.inr 0), .inl n, .inl c, .inl b] σ (fun r σ' => (¬ ((1 ≤ n ∧ n ≤ 500) ∧ (1 ≤ c ∧ c ≤ 50) ∧ (0 ≤ b ∧ b ≤ 100)) ∧ r = some (.inl (-2)) ∧ σ = σ') ∨ (((1 ≤ n ∧ n ≤ 500) ∧ (1 ≤ c ∧ c ≤ 50) ∧ (0 ≤ b ∧ b ≤ 100)) ∧ sw_fk σ σ' ∧ sw_gs σ' ∧ sw_fn σ' ∧ ∃ m : Nat, r = some (.inl (b + (n + c - 1) / c * (m + b))) ∧ sw_isn (σ 2) (σ 1 0) (σ 1 1) (σ 1 2) 0 (σ 1 0) m)) := by
  refine sw_con (by decide) (Nat.le_of_ble_eq_true rfl) ?_
  refine sw_blk k_X7_both 3 3 [(0, .inr (.inr 0)), (1, .inl n), (2, .inl c), (3, .inl b)] [.inl b, .inl c, .inl n] σ rfl ?_
  refine sw_callS k_X7_both rfl cS_X7_areMen ml_X7_204 ⟨by decide, by decide⟩ [.inl n, .inl c, .inl b] [] rfl rfl (Nat.le_of_ble_eq_true rfl) 6 rfl (sp_areMen σ n c b (by omega) (by omega) (by omega)) (fun r2 σ3 hq4 => ?_)
  obtain ⟨rfl, ⟨p1, rfl⟩ | ⟨p1, rfl⟩⟩ := hq4
  · refine sw_blk k_X7_both 0 6 [(0, .inr (.inr 0)), (1, .inl n), (2, .inl c), (3, .inl b)] [.inl 1] σ rfl ?_
    refine sw_if_ne k_X7_both rfl (by decide) 12 9 (by decide) rfl (fun _ => ?_) (fun c => absurd c (by decide))
    refine sw_blk k_X7_both 6 24 [(0, .inr (.inr 0)), (1, .inl n), (2, .inl c), (3, .inl b)] [.inl (σ 1 0), .inl 0, .inr (.inr 3)] σ rfl ?_
    refine sw_callV k_X7_both rfl cV_X1_ticksBetween ml_X7_99 ⟨by decide, by decide⟩ 3 rfl rfl [.inl 0, .inl (σ 1 0)] [] rfl rfl (Nat.le_of_ble_eq_true rfl) 27 rfl (sp_ticksBetween σ hσ hD hV hA hL 0 (σ 1 0) (by omega) (by omega) hf) (fun r5 σ6 hq7 => ?_)
    obtain ⟨fk1, fk2, fk3, nn, rfl, nn1, nn2, nn3, nn4⟩ := hq7
    have hisn : sw_isn (σ 2) (σ 1 0) (σ 1 1) (σ 1 2) 0 (σ 1 0) nn := ⟨nn1, nn2, nn3⟩
    refine sw_blk k_X7_both 4 32 [(4, .inl (nn : Int)), (0, .inr (.inr 0)), (1, .inl n), (2, .inl c), (3, .inl b)] [.inl c, .inl n, .inl b] σ6 rfl ?_
    refine sw_callS k_X7_both rfl cS_X7_tripsFor ml_X7_207 ⟨by decide, by decide⟩ [.inl n, .inl c] [.inl b] rfl rfl (Nat.le_of_ble_eq_true rfl) 35 rfl (sp_trips σ6 n c (by omega) (by omega)) (fun r8 σ9 hq10 => ?_)
    obtain ⟨rfl, rfl⟩ := hq10
    refine sw_blk k_X7_both 5 41 [(4, .inl (nn : Int)), (0, .inr (.inr 0)), (1, .inl n), (2, .inl c), (3, .inl b)] [.inl (b + (((n + c - 1) / c) * ((nn : Int) + b)))] σ6 rfl ?_
    refine sw_ireturn k_X7_both rfl rfl ?_
    exact Or.inr ⟨by omega, fk1, fk2, fk3, nn, rfl, hisn⟩
  · refine sw_blk k_X7_both 0 6 [(0, .inr (.inr 0)), (1, .inl n), (2, .inl c), (3, .inl b)] [.inl 0] σ rfl ?_
    refine sw_if_ne k_X7_both rfl (by decide) 12 9 (by decide) rfl (fun c => absurd (by decide) c) (fun _ => ?_)
    refine sw_blk k_X7_both 1 11 [(0, .inr (.inr 0)), (1, .inl n), (2, .inl c), (3, .inl b)] [.inl (-2)] σ rfl ?_
    refine sw_ireturn k_X7_both rfl rfl ?_
    exact Or.inl ⟨by omega, rfl, rfl⟩
theorem cc_begin (σ : sw_S) (hσ : sw_gs σ) (hD : 10 ≤ σ 1 0 ∧ σ 1 0 ≤ 400) (hV : 1 ≤ σ 1 1 ∧ σ 1 1 ≤ 20) (hA : 1 ≤ σ 1 2 ∧ σ 1 2 ≤ 5) (hL : ∀ x : Int, 0 ≤ x → x ≤ σ 1 0 → 1 ≤ σ 2 x.toNat ∧ σ 2 x.toNat ≤ σ 1 1) (hf : sw_fn σ) (hpl : 0 ≤ σ 5 7 ∧ σ 5 7 ≤ σ 1 0) (hst : 0 ≤ σ 0 8 ∧ σ 0 8 ≤ 6) (hsp : ∀ j : Nat, (j : Int) < σ 0 8 → 0 ≤ σ 23 j ∧ σ 23 j ≤ σ 1 0) (s : Int) (gs : sw_g s) : sw_Con sw_ly sw_rho M_X7_begin [.inr (.inr 0), .inl s] σ (fun r σ' => (¬ (0 ≤ s ∧ s ≤ σ 0 8 - 1) ∧ r = some (.inl (-2)) ∧ σ = σ') ∨ (((0 ≤ s ∧ s ≤ σ 0 8 - 1) ∧ ¬ (σ 5 9 = 0 ∧ sw_cnt (σ 8) 8 = 0 ∧ σ 5 10 = σ 24 s.toNat)) ∧ r = some (.inl (-4)) ∧ σ = σ') ∨ (((0 ≤ s ∧ s ≤ σ 0 8 - 1) ∧ (σ 5 9 = 0 ∧ sw_cnt (σ 8) 8 = 0 ∧ σ 5 10 = σ 24 s.toNat)) ∧ ∃ (n : Nat) (τ : sw_S), r = some (.inl (n : Int)) ∧ sw_fkc 10 σ τ ∧ sw_gs τ ∧ sw_fn τ ∧ sw_isr (σ 2) (σ 1 0) (σ 1 1) (σ 1 2) (σ 5 7) (σ 23 s.toNat) n (τ 10) ∧ sw_u (sw_u (sw_u (sw_u τ 5 10 0) 5 5 (n : Int)) 5 6 0) 5 9 (if 0 < (n : Int) then 1 else 0) = σ')) := by
  refine sw_con (by decide) (Nat.le_of_ble_eq_true rfl) ?_
  refine sw_blk k_X7_begin 6 8 [(0, .inr (.inr 0)), (1, .inl s)] [.inl ((σ 0 8) - 1), .inl 0, .inl s] σ rfl ?_
  refine sw_callS k_X7_begin rfl cS_X7_within ml_X7_63 ⟨by decide, by decide⟩ [.inl s, .inl 0, .inl ((σ 0 8) - 1)] [] rfl rfl (Nat.le_of_ble_eq_true rfl) 11 rfl (sp_within σ s 0 ((σ 0 8) - 1) (by omega) (by decide) (by omega)) (fun r2 σ3 hq4 => ?_)
  obtain ⟨rfl, ⟨p1, rfl⟩ | ⟨p1, rfl⟩⟩ := hq4
  · refine sw_blk k_X7_begin 0 11 [(0, .inr (.inr 0)), (1, .inl s)] [.inl 1] σ rfl ?_
    refine sw_if_ne k_X7_begin rfl (by decide) 17 14 (by decide) rfl (fun _ => ?_) (fun c => absurd c (by decide))
    refine sw_blk k_X7_begin 2 21 [(0, .inr (.inr 0)), (1, .inl s)] [.inr (.inr 5)] σ rfl ?_
    refine sw_callV k_X7_begin rfl cV_X6_rests ml_X7_67 ⟨by decide, by decide⟩ 5 rfl rfl [] [] rfl rfl (Nat.le_of_ble_eq_true rfl) 24 rfl (sp_rests σ  (hσ 5 _)) (fun r6 σ7 hq8 => ?_)
    obtain ⟨rfl, ⟨p5, rfl⟩ | ⟨p5, rfl⟩⟩ := hq8
    · refine sw_blk k_X7_begin 0 24 [(0, .inr (.inr 0)), (1, .inl s)] [.inl 1] σ rfl ?_
      refine sw_if_eq k_X7_begin rfl (by decide) 53 27 (by decide) rfl (fun c => absurd c (by decide)) (fun _ => ?_)
      refine sw_blk k_X7_begin 2 31 [(0, .inr (.inr 0)), (1, .inl s)] [.inr (.inr 5)] σ rfl ?_
      refine sw_callV k_X7_begin rfl cV_X6_openLinks ml_X7_122 ⟨by decide, by decide⟩ 5 rfl rfl [] [] rfl rfl (Nat.le_of_ble_eq_true rfl) 34 rfl (sp_openLinks σ (fun j => hσ 8 j)) (fun r9 σ10 hq11 => ?_)
      obtain ⟨rfl, rfl⟩ := hq11
      refine sw_blk k_X7_begin 0 34 [(0, .inr (.inr 0)), (1, .inl s)] [.inl (sw_cnt (σ 8) 8)] σ rfl ?_
      refine sw_if_gt k_X7_begin rfl (by have := sw_cnt_le (σ 8) 8; omega) 53 37 (by decide) rfl (fun c12 => ?_) (fun c12 => ?_)
      · refine sw_blk k_X7_begin 1 55 [(0, .inr (.inr 0)), (1, .inl s)] [.inl (-4)] σ rfl ?_
        refine sw_ireturn k_X7_begin rfl rfl ?_
        exact Or.inr (Or.inl ⟨by have := sw_cnt_le (σ 8) 8; omega, rfl, rfl⟩)
      · refine sw_blk k_X7_begin 6 49 [(0, .inr (.inr 0)), (1, .inl s)] [.inl s, .inr (.inr 24), .inl (σ 5 10)] σ rfl ?_
        refine sw_iald k_X7_begin rfl (i := 24) (n := 6) rfl (by decide) (by omega) (by omega) 50 rfl ?_
        refine sw_blk k_X7_begin 0 50 [(0, .inr (.inr 0)), (1, .inl s)] [.inl (σ 24 s.toNat), .inl (σ 5 10)] σ rfl ?_
        refine sw_icmp_eq k_X7_begin rfl (hσ 5 _) (hσ 24 _) 56 53 (by decide) rfl (fun c13 => ?_) (fun c13 => ?_)
        · refine sw_blk k_X7_begin 8 72 [(0, .inr (.inr 0)), (1, .inl s)] [.inl s, .inr (.inr 23), .inl (σ 5 7), .inr (.inr 3)] σ rfl ?_
          refine sw_iald k_X7_begin rfl (i := 23) (n := 6) rfl (by decide) (by omega) (by omega) 73 rfl ?_
          refine sw_blk k_X7_begin 3 80 [(0, .inr (.inr 0)), (1, .inl s)] [.inr (.inr 10), .inl (σ 23 s.toNat), .inl (σ 5 7), .inr (.inr 3)] σ rfl ?_
          refine sw_callV k_X7_begin rfl cV_X1_trace ml_X7_102 ⟨by decide, by decide⟩ 3 rfl rfl [.inl (σ 5 7), .inl (σ 23 s.toNat), .inr (.inr 10)] [] rfl rfl (Nat.le_of_ble_eq_true rfl) 83 rfl (sp_tracer σ hσ hD hV hA hL (σ 5 7) (σ 23 s.toNat) hpl (hsp s.toNat (by omega)) hf) (fun r14 σ15 hq16 => ?_)
          obtain ⟨fk1, fk2, fk3, nn, rfl, nn1, nn2, nn3, nn4⟩ := hq16
          have hisr : sw_isr (σ 2) (σ 1 0) (σ 1 1) (σ 1 2) (σ 5 7) (σ 23 s.toNat) nn _ := ⟨⟨nn1, nn2, nn3⟩, nn4⟩
          refine sw_blk k_X7_begin 4 89 [(2, .inl (nn : Int)), (0, .inr (.inr 0)), (1, .inl s)] [.inl (nn : Int), .inr (.inr 5)] σ15 rfl ?_
          refine sw_callV k_X7_begin rfl cV_X6_setOut ml_X7_129 ⟨by decide, by decide⟩ 5 rfl rfl [.inl (nn : Int)] [] rfl rfl (Nat.le_of_ble_eq_true rfl) 92 rfl (sp_setOut σ15 (nn : Int) (by omega)) (fun r17 σ18 hq19 => ?_)
          obtain ⟨rfl, rfl⟩ := hq19
          refine sw_blk k_X7_begin 1 93 [(2, .inl (nn : Int)), (0, .inr (.inr 0)), (1, .inl s)] [.inl (nn : Int)] (sw_u (sw_u (sw_u (sw_u σ15 5 10 0) 5 5 (nn : Int)) 5 6 0) 5 9 (if 0 < (nn : Int) then 1 else 0)) rfl ?_
          refine sw_ireturn k_X7_begin rfl rfl ?_
          exact Or.inr (Or.inr ⟨by have := sw_cnt_le (σ 8) 8; omega, nn, _, rfl, fk1, fk2, fk3, hisr, rfl⟩)
        · refine sw_blk k_X7_begin 1 55 [(0, .inr (.inr 0)), (1, .inl s)] [.inl (-4)] σ rfl ?_
          refine sw_ireturn k_X7_begin rfl rfl ?_
          exact Or.inr (Or.inl ⟨by have := sw_cnt_le (σ 8) 8; omega, rfl, rfl⟩)
    · refine sw_blk k_X7_begin 0 24 [(0, .inr (.inr 0)), (1, .inl s)] [.inl 0] σ rfl ?_
      refine sw_if_eq k_X7_begin rfl (by decide) 53 27 (by decide) rfl (fun _ => ?_) (fun c => absurd (by decide) c)
      refine sw_blk k_X7_begin 1 55 [(0, .inr (.inr 0)), (1, .inl s)] [.inl (-4)] σ rfl ?_
      refine sw_ireturn k_X7_begin rfl rfl ?_
      exact Or.inr (Or.inl ⟨by have := sw_cnt_le (σ 8) 8; omega, rfl, rfl⟩)
  · refine sw_blk k_X7_begin 0 11 [(0, .inr (.inr 0)), (1, .inl s)] [.inl 0] σ rfl ?_
    refine sw_if_ne k_X7_begin rfl (by decide) 17 14 (by decide) rfl (fun c => absurd (by decide) c) (fun _ => ?_)
    refine sw_blk k_X7_begin 1 16 [(0, .inr (.inr 0)), (1, .inl s)] [.inl (-2)] σ rfl ?_
    refine sw_ireturn k_X7_begin rfl rfl ?_
    exact Or.inl ⟨by omega, rfl, rfl⟩
end
section
/-- what a sheet of a form keeps of a number -/
def sw_cv (f v : Int) : Int := if f = 0 then sw_b v else if f = 1 then sw_h v else v
theorem sw_b_g (v : Int) : sw_g (sw_b v) := ⟨by unfold sw_b; exact Int32.le_toInt _, by unfold sw_b; exact Int32.toInt_lt _⟩
theorem sw_h_g (v : Int) : sw_g (sw_h v) := ⟨by unfold sw_h; exact Int32.le_toInt _, by unfold sw_h; exact Int32.toInt_lt _⟩
theorem sw_cv_g {f v : Int} (h : sw_g v) : sw_g (sw_cv f v) := by
  unfold sw_cv
  split
  · exact sw_b_g v
  · split
    · exact sw_h_g v
    · exact h
theorem cc_sheetB (σ : sw_S) (s : Int) (gs : sw_g s) (hbad : ¬ (0 ≤ s ∧ s ≤ 3)) (f k : Int) (gf : sw_g f) (gk : sw_g k) : sw_Con sw_ly sw_rho M_X7_sheet [.inr (.inr 0), .inl s, .inl f, .inl k] σ (fun r σ' => r = some (.inl (-2)) ∧ σ = σ') := by
  refine sw_con (by decide) (Nat.le_of_ble_eq_true rfl) ?_
  refine sw_blk k_X7_sheet 1 1 [(0, .inr (.inr 0)), (1, .inl s), (2, .inl f), (3, .inl k)] [.inl s] σ rfl ?_
  refine sw_callS k_X7_sheet rfl cS_X7_isSheet ml_X7_219 ⟨by decide, by decide⟩ [.inl s] [] rfl rfl (Nat.le_of_ble_eq_true rfl) 4 rfl (sp_isSheet σ s (by omega)) (fun r2 σ3 hq4 => ?_)
  obtain ⟨rfl, ⟨p1, rfl⟩ | ⟨p1, rfl⟩⟩ := hq4
  · exact absurd p1 hbad
  · refine sw_blk k_X7_sheet 0 4 [(0, .inr (.inr 0)), (1, .inl s), (2, .inl f), (3, .inl k)] [.inl 0] σ rfl ?_
    refine sw_if_eq k_X7_sheet rfl (by decide) 20 7 (by decide) rfl (fun _ => ?_) (fun c => absurd (by decide) c)
    refine sw_blk k_X7_sheet 1 22 [(0, .inr (.inr 0)), (1, .inl s), (2, .inl f), (3, .inl k)] [.inl (-2)] σ rfl ?_
    refine sw_ireturn k_X7_sheet rfl rfl ?_
    exact ⟨rfl, rfl⟩
theorem cc_loseB (σ : sw_S) (s : Int) (gs : sw_g s) (hbad : ¬ (0 ≤ s ∧ s ≤ 3)) : sw_Con sw_ly sw_rho M_X7_lose [.inr (.inr 0), .inl s] σ (fun r σ' => r = some (.inl (-2)) ∧ σ = σ') := by
  refine sw_con (by decide) (Nat.le_of_ble_eq_true rfl) ?_
  refine sw_blk k_X7_lose 1 1 [(0, .inr (.inr 0)), (1, .inl s)] [.inl s] σ rfl ?_
  refine sw_callS k_X7_lose rfl cS_X7_isSheet ml_X7_219 ⟨by decide, by decide⟩ [.inl s] [] rfl rfl (Nat.le_of_ble_eq_true rfl) 4 rfl (sp_isSheet σ s (by omega)) (fun r2 σ3 hq4 => ?_)
  obtain ⟨rfl, ⟨p1, rfl⟩ | ⟨p1, rfl⟩⟩ := hq4
  · exact absurd p1 hbad
  · refine sw_blk k_X7_lose 0 4 [(0, .inr (.inr 0)), (1, .inl s)] [.inl 0] σ rfl ?_
    refine sw_if_ne k_X7_lose rfl (by decide) 10 7 (by decide) rfl (fun c => absurd (by decide) c) (fun _ => ?_)
    refine sw_blk k_X7_lose 1 9 [(0, .inr (.inr 0)), (1, .inl s)] [.inl (-2)] σ rfl ?_
    refine sw_ireturn k_X7_lose rfl rfl ?_
    exact ⟨rfl, rfl⟩
theorem cc_putB (σ : sw_S) (s : Int) (gs : sw_g s) (hbad : ¬ (0 ≤ s ∧ s ≤ 3)) (f i v : Int) (gf : sw_g f) (gi : sw_g i) (gv : sw_g v) : sw_Con sw_ly sw_rho M_X7_put [.inr (.inr 0), .inl s, .inl f, .inl i, .inl v] σ (fun r σ' => r = some (.inl (-2)) ∧ σ = σ') := by
  refine sw_con (by decide) (Nat.le_of_ble_eq_true rfl) ?_
  refine sw_blk k_X7_put 1 1 [(0, .inr (.inr 0)), (1, .inl s), (2, .inl f), (3, .inl i), (4, .inl v)] [.inl s] σ rfl ?_
  refine sw_callS k_X7_put rfl cS_X7_isSheet ml_X7_219 ⟨by decide, by decide⟩ [.inl s] [] rfl rfl (Nat.le_of_ble_eq_true rfl) 4 rfl (sp_isSheet σ s (by omega)) (fun r2 σ3 hq4 => ?_)
  obtain ⟨rfl, ⟨p1, rfl⟩ | ⟨p1, rfl⟩⟩ := hq4
  · exact absurd p1 hbad
  · refine sw_blk k_X7_put 0 4 [(0, .inr (.inr 0)), (1, .inl s), (2, .inl f), (3, .inl i), (4, .inl v)] [.inl 0] σ rfl ?_
    refine sw_if_eq k_X7_put rfl (by decide) 14 7 (by decide) rfl (fun _ => ?_) (fun c => absurd (by decide) c)
    refine sw_blk k_X7_put 1 16 [(0, .inr (.inr 0)), (1, .inl s), (2, .inl f), (3, .inl i), (4, .inl v)] [.inl (-2)] σ rfl ?_
    refine sw_ireturn k_X7_put rfl rfl ?_
    exact ⟨rfl, rfl⟩
theorem cc_getB (σ : sw_S) (s : Int) (gs : sw_g s) (hbad : ¬ (0 ≤ s ∧ s ≤ 3)) (f i : Int) (gf : sw_g f) (gi : sw_g i) : sw_Con sw_ly sw_rho M_X7_get [.inr (.inr 0), .inl s, .inl f, .inl i] σ (fun r σ' => r = some (.inl (-2147483648)) ∧ σ = σ') := by
  refine sw_con (by decide) (Nat.le_of_ble_eq_true rfl) ?_
  refine sw_blk k_X7_get 1 1 [(0, .inr (.inr 0)), (1, .inl s), (2, .inl f), (3, .inl i)] [.inl s] σ rfl ?_
  refine sw_callS k_X7_get rfl cS_X7_isSheet ml_X7_219 ⟨by decide, by decide⟩ [.inl s] [] rfl rfl (Nat.le_of_ble_eq_true rfl) 4 rfl (sp_isSheet σ s (by omega)) (fun r2 σ3 hq4 => ?_)
  obtain ⟨rfl, ⟨p1, rfl⟩ | ⟨p1, rfl⟩⟩ := hq4
  · exact absurd p1 hbad
  · refine sw_blk k_X7_get 0 4 [(0, .inr (.inr 0)), (1, .inl s), (2, .inl f), (3, .inl i)] [.inl 0] σ rfl ?_
    refine sw_if_eq k_X7_get rfl (by decide) 14 7 (by decide) rfl (fun _ => ?_) (fun c => absurd (by decide) c)
    refine sw_blk k_X7_get 1 16 [(0, .inr (.inr 0)), (1, .inl s), (2, .inl f), (3, .inl i)] [.inl (-2147483648)] σ rfl ?_
    refine sw_ireturn k_X7_get rfl rfl ?_
    exact ⟨rfl, rfl⟩
theorem cc_readB (σ : sw_S) (s : Int) (gs : sw_g s) (hbad : ¬ (0 ≤ s ∧ s ≤ 3)) : sw_Con sw_ly sw_rho M_X7_read [.inr (.inr 0), .inl s] σ (fun r σ' => r = some (.inl (-2)) ∧ σ = σ') := by
  refine sw_con (by decide) (Nat.le_of_ble_eq_true rfl) ?_
  refine sw_blk k_X7_read 1 1 [(0, .inr (.inr 0)), (1, .inl s)] [.inl s] σ rfl ?_
  refine sw_callS k_X7_read rfl cS_X7_isSheet ml_X7_219 ⟨by decide, by decide⟩ [.inl s] [] rfl rfl (Nat.le_of_ble_eq_true rfl) 4 rfl (sp_isSheet σ s (by omega)) (fun r2 σ3 hq4 => ?_)
  obtain ⟨rfl, ⟨p1, rfl⟩ | ⟨p1, rfl⟩⟩ := hq4
  · exact absurd p1 hbad
  · refine sw_blk k_X7_read 0 4 [(0, .inr (.inr 0)), (1, .inl s)] [.inl 0] σ rfl ?_
    refine sw_if_ne k_X7_read rfl (by decide) 10 7 (by decide) rfl (fun c => absurd (by decide) c) (fun _ => ?_)
    refine sw_blk k_X7_read 1 9 [(0, .inr (.inr 0)), (1, .inl s)] [.inl (-2)] σ rfl ?_
    refine sw_ireturn k_X7_read rfl rfl ?_
    exact ⟨rfl, rfl⟩
theorem cc_writeB (σ : sw_S) (s : Int) (gs : sw_g s) (hbad : ¬ (0 ≤ s ∧ s ≤ 3)) (w : Int) (gw : sw_g w) : sw_Con sw_ly sw_rho M_X7_write [.inr (.inr 0), .inl s, .inl w] σ (fun r σ' => r = some (.inl (-2)) ∧ σ = σ') := by
  refine sw_con (by decide) (Nat.le_of_ble_eq_true rfl) ?_
  refine sw_blk k_X7_write 1 1 [(0, .inr (.inr 0)), (1, .inl s), (2, .inl w)] [.inl s] σ rfl ?_
  refine sw_callS k_X7_write rfl cS_X7_isSheet ml_X7_219 ⟨by decide, by decide⟩ [.inl s] [] rfl rfl (Nat.le_of_ble_eq_true rfl) 4 rfl (sp_isSheet σ s (by omega)) (fun r2 σ3 hq4 => ?_)
  obtain ⟨rfl, ⟨p1, rfl⟩ | ⟨p1, rfl⟩⟩ := hq4
  · exact absurd p1 hbad
  · refine sw_blk k_X7_write 0 4 [(0, .inr (.inr 0)), (1, .inl s), (2, .inl w)] [.inl 0] σ rfl ?_
    refine sw_if_eq k_X7_write rfl (by decide) 16 7 (by decide) rfl (fun _ => ?_) (fun c => absurd (by decide) c)
    refine sw_blk k_X7_write 1 18 [(0, .inr (.inr 0)), (1, .inl s), (2, .inl w)] [.inl (-2)] σ rfl ?_
    refine sw_ireturn k_X7_write rfl rfl ?_
    exact ⟨rfl, rfl⟩
theorem cc_planB (σ : sw_S) (s : Int) (gs : sw_g s) (hbad : ¬ (0 ≤ s ∧ s ≤ 3)) (q : Int) (gq : sw_g q) : sw_Con sw_ly sw_rho M_X7_plan [.inr (.inr 0), .inl s, .inl q] σ (fun r σ' => r = some (.inl (-2)) ∧ σ = σ') := by
  refine sw_con (by decide) (Nat.le_of_ble_eq_true rfl) ?_
  refine sw_blk k_X7_plan 1 1 [(0, .inr (.inr 0)), (1, .inl s), (2, .inl q)] [.inl s] σ rfl ?_
  refine sw_callS k_X7_plan rfl cS_X7_isSheet ml_X7_219 ⟨by decide, by decide⟩ [.inl s] [] rfl rfl (Nat.le_of_ble_eq_true rfl) 4 rfl (sp_isSheet σ s (by omega)) (fun r2 σ3 hq4 => ?_)
  obtain ⟨rfl, ⟨p1, rfl⟩ | ⟨p1, rfl⟩⟩ := hq4
  · exact absurd p1 hbad
  · refine sw_blk k_X7_plan 0 4 [(0, .inr (.inr 0)), (1, .inl s), (2, .inl q)] [.inl 0] σ rfl ?_
    refine sw_if_eq k_X7_plan rfl (by decide) 18 7 (by decide) rfl (fun _ => ?_) (fun c => absurd (by decide) c)
    refine sw_blk k_X7_plan 1 20 [(0, .inr (.inr 0)), (1, .inl s), (2, .inl q)] [.inl (-2)] σ rfl ?_
    refine sw_ireturn k_X7_plan rfl rfl ?_
    exact ⟨rfl, rfl⟩
theorem cc_checkB (σ : sw_S) (s : Int) (gs : sw_g s) (hbad : ¬ (0 ≤ s ∧ s ≤ 3)) : sw_Con sw_ly sw_rho M_X7_check [.inr (.inr 0), .inl s] σ (fun r σ' => r = some (.inl (-2)) ∧ σ = σ') := by
  refine sw_con (by decide) (Nat.le_of_ble_eq_true rfl) ?_
  refine sw_blk k_X7_check 1 1 [(0, .inr (.inr 0)), (1, .inl s)] [.inl s] σ rfl ?_
  refine sw_callS k_X7_check rfl cS_X7_isSheet ml_X7_219 ⟨by decide, by decide⟩ [.inl s] [] rfl rfl (Nat.le_of_ble_eq_true rfl) 4 rfl (sp_isSheet σ s (by omega)) (fun r2 σ3 hq4 => ?_)
  obtain ⟨rfl, ⟨p1, rfl⟩ | ⟨p1, rfl⟩⟩ := hq4
  · exact absurd p1 hbad
  · refine sw_blk k_X7_check 0 4 [(0, .inr (.inr 0)), (1, .inl s)] [.inl 0] σ rfl ?_
    refine sw_if_ne k_X7_check rfl (by decide) 10 7 (by decide) rfl (fun c => absurd (by decide) c) (fun _ => ?_)
    refine sw_blk k_X7_check 1 9 [(0, .inr (.inr 0)), (1, .inl s)] [.inl (-2)] σ rfl ?_
    refine sw_ireturn k_X7_check rfl rfl ?_
    exact ⟨rfl, rfl⟩
theorem cc_sheet0 (σ : sw_S) (f k : Int) (gf : sw_g f) (gk : sw_g k) : sw_Con sw_ly sw_rho M_X7_sheet [.inr (.inr 0), .inl 0, .inl f, .inl k] σ (fun r σ' => (¬ ((0 ≤ f ∧ f ≤ 2) ∧ k ≤ 60) ∧ r = some (.inl (-2)) ∧ σ = σ') ∨ ((((0 ≤ f ∧ f ≤ 2) ∧ k ≤ 60) ∧ k < 0) ∧ r = some (.inl (-10 - 5)) ∧ (sw_u σ 0 9 5) = σ') ∨ ((((0 ≤ f ∧ f ≤ 2) ∧ k ≤ 60) ∧ 0 ≤ k) ∧ r = some (.inl (k)) ∧ (sw_fl (sw_u (sw_u (sw_u σ 15 2 f) 15 3 k) 15 1 0) 16 60 0) = σ')) := by
  refine sw_con (by decide) (Nat.le_of_ble_eq_true rfl) ?_
  refine sw_blk k_X7_sheet 1 1 [(0, .inr (.inr 0)), (1, .inl 0), (2, .inl f), (3, .inl k)] [.inl 0] σ rfl ?_
  refine sw_callS k_X7_sheet rfl cS_X7_isSheet ml_X7_219 ⟨by decide, by decide⟩ [.inl 0] [] rfl rfl (Nat.le_of_ble_eq_true rfl) 4 rfl (sp_isSheet σ 0 (by decide)) (fun r2 σ3 hq4 => ?_)
  obtain ⟨rfl, ⟨p1, rfl⟩ | ⟨p1, rfl⟩⟩ := hq4
  · refine sw_blk k_X7_sheet 0 4 [(0, .inr (.inr 0)), (1, .inl 0), (2, .inl f), (3, .inl k)] [.inl 1] σ rfl ?_
    refine sw_if_eq k_X7_sheet rfl (by decide) 20 7 (by decide) rfl (fun c => absurd c (by decide)) (fun _ => ?_)
    refine sw_blk k_X7_sheet 1 8 [(0, .inr (.inr 0)), (1, .inl 0), (2, .inl f), (3, .inl k)] [.inl f] σ rfl ?_
    refine sw_callS k_X7_sheet rfl cS_X7_isForm ml_X7_222 ⟨by decide, by decide⟩ [.inl f] [] rfl rfl (Nat.le_of_ble_eq_true rfl) 11 rfl (sp_isForm σ f (by omega)) (fun r6 σ7 hq8 => ?_)
    obtain ⟨rfl, ⟨p5, rfl⟩ | ⟨p5, rfl⟩⟩ := hq8
    · refine sw_blk k_X7_sheet 0 11 [(0, .inr (.inr 0)), (1, .inl 0), (2, .inl f), (3, .inl k)] [.inl 1] σ rfl ?_
      refine sw_if_eq k_X7_sheet rfl (by decide) 20 14 (by decide) rfl (fun c => absurd c (by decide)) (fun _ => ?_)
      refine sw_blk k_X7_sheet 2 17 [(0, .inr (.inr 0)), (1, .inl 0), (2, .inl f), (3, .inl k)] [.inl 60, .inl k] σ rfl ?_
      refine sw_icmp_le k_X7_sheet rfl (by omega) (by decide) 23 20 (by decide) rfl (fun c9 => ?_) (fun c9 => ?_)
      · refine sw_blk k_X7_sheet 1 24 [(0, .inr (.inr 0)), (1, .inl 0), (2, .inl f), (3, .inl k)] [.inl k] σ rfl ?_
        refine sw_if_ge k_X7_sheet rfl (by omega) 33 27 (by decide) rfl (fun c10 => ?_) (fun c10 => ?_)
        · refine sw_blk k_X7_sheet 3 38 [(0, .inr (.inr 0)), (1, .inl 0), (2, .inl f), (3, .inl k)] [.inl 0, .inr (.inr 14)] σ rfl ?_
          refine sw_aald k_X7_sheet rfl (i := 14) (n := 4) (r := 15) rfl (by decide) (by decide) (by decide) rfl 39 rfl ?_
          refine sw_blk k_X7_sheet 2 41 [(0, .inr (.inr 0)), (1, .inl 0), (2, .inl f), (3, .inl k)] [.inl k, .inl f, .inr (.inr 15)] σ rfl ?_
          refine sw_callV k_X7_sheet rfl cV_X4_renew ml_X7_228 ⟨by decide, by decide⟩ 15 rfl rfl [.inl f, .inl k] [] rfl rfl (Nat.le_of_ble_eq_true rfl) 44 rfl (sp_srenew0 σ f k) (fun r11 σ12 hq13 => ?_)
          obtain ⟨rfl, rfl⟩ := hq13
          refine sw_blk k_X7_sheet 1 45 [(0, .inr (.inr 0)), (1, .inl 0), (2, .inl f), (3, .inl k)] [.inl k] (sw_fl (sw_u (sw_u (sw_u σ 15 2 f) 15 3 k) 15 1 0) 16 60 0) rfl ?_
          refine sw_ireturn k_X7_sheet rfl rfl ?_
          exact Or.inr (Or.inr (⟨by omega, rfl, rfl⟩))
        · refine sw_blk k_X7_sheet 2 29 [(0, .inr (.inr 0)), (1, .inl 0), (2, .inl f), (3, .inl k)] [.inl 5, .inr (.inr 0)] σ rfl ?_
          refine sw_callV k_X7_sheet rfl cV_X7_finding ml_X7_225 ⟨by decide, by decide⟩ 0 rfl rfl [.inl 5] [] rfl rfl (Nat.le_of_ble_eq_true rfl) 32 rfl (sp_finding σ 5) (fun r14 σ15 hq16 => ?_)
          obtain ⟨rfl, rfl⟩ := hq16
          refine sw_blk k_X7_sheet 0 32 [(0, .inr (.inr 0)), (1, .inl 0), (2, .inl f), (3, .inl k)] [.inl (-10 - 5)] (sw_u σ 0 9 5) rfl ?_
          refine sw_ireturn k_X7_sheet rfl rfl ?_
          exact Or.inr (Or.inl ⟨by omega, rfl, rfl⟩)
      · refine sw_blk k_X7_sheet 1 22 [(0, .inr (.inr 0)), (1, .inl 0), (2, .inl f), (3, .inl k)] [.inl (-2)] σ rfl ?_
        refine sw_ireturn k_X7_sheet rfl rfl ?_
        exact Or.inl ⟨by omega, rfl, rfl⟩
    · refine sw_blk k_X7_sheet 0 11 [(0, .inr (.inr 0)), (1, .inl 0), (2, .inl f), (3, .inl k)] [.inl 0] σ rfl ?_
      refine sw_if_eq k_X7_sheet rfl (by decide) 20 14 (by decide) rfl (fun _ => ?_) (fun c => absurd (by decide) c)
      refine sw_blk k_X7_sheet 1 22 [(0, .inr (.inr 0)), (1, .inl 0), (2, .inl f), (3, .inl k)] [.inl (-2)] σ rfl ?_
      refine sw_ireturn k_X7_sheet rfl rfl ?_
      exact Or.inl ⟨by omega, rfl, rfl⟩
  · exact absurd (by decide) p1
theorem cc_lose0 (σ : sw_S) (hσ : sw_gs σ) : sw_Con sw_ly sw_rho M_X7_lose [.inr (.inr 0), .inl 0] σ (fun r σ' => (¬ σ 15 1 = 0 ∧ r = some (.inl (-10 - 1)) ∧ (sw_u σ 0 9 1) = σ') ∨ (σ 15 1 = 0 ∧ r = some (.inl (σ 15 3)) ∧ (sw_u σ 15 1 1) = σ')) := by
  refine sw_con (by decide) (Nat.le_of_ble_eq_true rfl) ?_
  refine sw_blk k_X7_lose 1 1 [(0, .inr (.inr 0)), (1, .inl 0)] [.inl 0] σ rfl ?_
  refine sw_callS k_X7_lose rfl cS_X7_isSheet ml_X7_219 ⟨by decide, by decide⟩ [.inl 0] [] rfl rfl (Nat.le_of_ble_eq_true rfl) 4 rfl (sp_isSheet σ 0 (by decide)) (fun r2 σ3 hq4 => ?_)
  obtain ⟨rfl, ⟨p1, rfl⟩ | ⟨p1, rfl⟩⟩ := hq4
  · refine sw_blk k_X7_lose 0 4 [(0, .inr (.inr 0)), (1, .inl 0)] [.inl 1] σ rfl ?_
    refine sw_if_ne k_X7_lose rfl (by decide) 10 7 (by decide) rfl (fun _ => ?_) (fun c => absurd c (by decide))
    refine sw_blk k_X7_lose 3 15 [(0, .inr (.inr 0)), (1, .inl 0)] [.inl 0, .inr (.inr 14)] σ rfl ?_
    refine sw_aald k_X7_lose rfl (i := 14) (n := 4) (r := 15) rfl (by decide) (by decide) (by decide) rfl 16 rfl ?_
    refine sw_blk k_X7_lose 3 21 [(2, .inr (.inr 15)), (0, .inr (.inr 0)), (1, .inl 0)] [.inl (σ 15 1)] σ rfl ?_
    refine sw_if_eq k_X7_lose rfl (hσ 15 _) 30 24 (by decide) rfl (fun c5 => ?_) (fun c5 => ?_)
    · refine sw_blk k_X7_lose 5 39 [(2, .inr (.inr 15)), (0, .inr (.inr 0)), (1, .inl 0)] [.inl (σ 15 3)] (sw_u σ 15 1 1) rfl ?_
      refine sw_ireturn k_X7_lose rfl rfl ?_
      exact Or.inr (⟨by omega, rfl, rfl⟩)
    · refine sw_blk k_X7_lose 2 26 [(2, .inr (.inr 15)), (0, .inr (.inr 0)), (1, .inl 0)] [.inl 1, .inr (.inr 0)] σ rfl ?_
      refine sw_callV k_X7_lose rfl cV_X7_finding ml_X7_225 ⟨by decide, by decide⟩ 0 rfl rfl [.inl 1] [] rfl rfl (Nat.le_of_ble_eq_true rfl) 29 rfl (sp_finding σ 1) (fun r6 σ7 hq8 => ?_)
      obtain ⟨rfl, rfl⟩ := hq8
      refine sw_blk k_X7_lose 0 29 [(2, .inr (.inr 15)), (0, .inr (.inr 0)), (1, .inl 0)] [.inl (-10 - 1)] (sw_u σ 0 9 1) rfl ?_
      refine sw_ireturn k_X7_lose rfl rfl ?_
      exact Or.inl ⟨by omega, rfl, rfl⟩
  · exact absurd (by decide) p1
theorem cc_put0 (σ : sw_S) (hσ : sw_gs σ) (hs0 : 0 ≤ σ 15 3) (hs1 : σ 15 3 ≤ 60) (hfm : 0 ≤ σ 15 2 ∧ σ 15 2 ≤ 2) (f i v : Int) (gf : sw_g f) (gi : sw_g i) (gv : sw_g v) : sw_Con sw_ly sw_rho M_X7_put [.inr (.inr 0), .inl 0, .inl f, .inl i, .inl v] σ (fun r σ' => (¬ (0 ≤ f ∧ f ≤ 2) ∧ r = some (.inl (-2)) ∧ σ = σ') ∨ ((0 ≤ f ∧ f ≤ 2) ∧ ∃ wr : Int, (if σ 15 1 = 0 then (if σ 15 2 = f then (if 0 ≤ i ∧ i < σ 15 3 then (0 : Int) else 2) else 3) else 1) = wr ∧ ((¬ wr = 0 ∧ r = some (.inl (-10 - wr)) ∧ sw_u σ 0 9 wr = σ') ∨ (wr = 0 ∧ r = some (.inl 1) ∧ sw_u σ 16 i.toNat (sw_cv (σ 15 2) v) = σ')))) := by
  refine sw_con (by decide) (Nat.le_of_ble_eq_true rfl) ?_
  refine sw_blk k_X7_put 1 1 [(0, .inr (.inr 0)), (1, .inl 0), (2, .inl f), (3, .inl i), (4, .inl v)] [.inl 0] σ rfl ?_
  refine sw_callS k_X7_put rfl cS_X7_isSheet ml_X7_219 ⟨by decide, by decide⟩ [.inl 0] [] rfl rfl (Nat.le_of_ble_eq_true rfl) 4 rfl (sp_isSheet σ 0 (by decide)) (fun r2 σ3 hq4 => ?_)
  obtain ⟨rfl, ⟨p1, rfl⟩ | ⟨p1, rfl⟩⟩ := hq4
  · refine sw_blk k_X7_put 0 4 [(0, .inr (.inr 0)), (1, .inl 0), (2, .inl f), (3, .inl i), (4, .inl v)] [.inl 1] σ rfl ?_
    refine sw_if_eq k_X7_put rfl (by decide) 14 7 (by decide) rfl (fun c => absurd c (by decide)) (fun _ => ?_)
    refine sw_blk k_X7_put 1 8 [(0, .inr (.inr 0)), (1, .inl 0), (2, .inl f), (3, .inl i), (4, .inl v)] [.inl f] σ rfl ?_
    refine sw_callS k_X7_put rfl cS_X7_isForm ml_X7_222 ⟨by decide, by decide⟩ [.inl f] [] rfl rfl (Nat.le_of_ble_eq_true rfl) 11 rfl (sp_isForm σ f (by omega)) (fun r6 σ7 hq8 => ?_)
    obtain ⟨rfl, ⟨p5, rfl⟩ | ⟨p5, rfl⟩⟩ := hq8
    · refine sw_blk k_X7_put 0 11 [(0, .inr (.inr 0)), (1, .inl 0), (2, .inl f), (3, .inl i), (4, .inl v)] [.inl 1] σ rfl ?_
      refine sw_if_ne k_X7_put rfl (by decide) 17 14 (by decide) rfl (fun _ => ?_) (fun c => absurd c (by decide))
      refine sw_blk k_X7_put 3 22 [(0, .inr (.inr 0)), (1, .inl 0), (2, .inl f), (3, .inl i), (4, .inl v)] [.inl 0, .inr (.inr 14)] σ rfl ?_
      refine sw_aald k_X7_put rfl (i := 14) (n := 4) (r := 15) rfl (by decide) (by decide) (by decide) rfl 23 rfl ?_
      refine sw_blk k_X7_put 4 29 [(5, .inr (.inr 15)), (0, .inr (.inr 0)), (1, .inl 0), (2, .inl f), (3, .inl i), (4, .inl v)] [.inl i, .inl f, .inr (.inr 15)] σ rfl ?_
      refine sw_callS k_X7_put rfl cS_X7_wrongOfItem ml_X7_237 ⟨by decide, by decide⟩ [.inr (.inr 15), .inl f, .inl i] [] rfl rfl (Nat.le_of_ble_eq_true rfl) 32 rfl (sp_wrong0 σ hσ f i (by omega) (by omega) hs0 hs1) (fun r9 σ10 hq11 => ?_)
      obtain ⟨rfl, rfl⟩ := hq11
      generalize hwr : (if σ 15 1 = 0 then (if σ 15 2 = f then (if 0 ≤ i ∧ i < σ 15 3 then (0 : Int) else 2) else 3) else 1) = wr
      have gwr : 0 ≤ wr ∧ wr ≤ 3 := by omega
      refine sw_blk k_X7_put 2 36 [(6, .inl wr), (5, .inr (.inr 15)), (0, .inr (.inr 0)), (1, .inl 0), (2, .inl f), (3, .inl i), (4, .inl v)] [.inl wr] σ rfl ?_
      refine sw_if_eq k_X7_put rfl (by omega) 46 39 (by decide) rfl (fun c12 => ?_) (fun c12 => ?_)
      · refine sw_blk k_X7_put 3 51 [(6, .inl wr), (5, .inr (.inr 15)), (0, .inr (.inr 0)), (1, .inl 0), (2, .inl f), (3, .inl i), (4, .inl v)] [.inl v, .inl i, .inr (.inr 15)] σ rfl ?_
        refine sw_callV k_X7_put rfl cV_X4_store ml_X7_241 ⟨by decide, by decide⟩ 15 rfl rfl [.inl i, .inl v] [] rfl rfl (Nat.le_of_ble_eq_true rfl) 54 rfl (sp_store0 σ hσ i v (by omega) hfm) (fun r13 σ14 hq15 => ?_)
        obtain ⟨rfl, rfl⟩ := hq15
        refine sw_blk k_X7_put 1 55 [(6, .inl wr), (5, .inr (.inr 15)), (0, .inr (.inr 0)), (1, .inl 0), (2, .inl f), (3, .inl i), (4, .inl v)] [.inl 1] (sw_u σ 16 i.toNat (if σ 15 2 = 0 then sw_b v else if σ 15 2 = 1 then sw_h v else v)) rfl ?_
        refine sw_ireturn k_X7_put rfl rfl ?_
        exact Or.inr ⟨by omega, wr, rfl, Or.inr ⟨by omega, rfl, rfl⟩⟩
      · refine sw_blk k_X7_put 2 42 [(6, .inl wr), (5, .inr (.inr 15)), (0, .inr (.inr 0)), (1, .inl 0), (2, .inl f), (3, .inl i), (4, .inl v)] [.inl wr, .inr (.inr 0)] σ rfl ?_
        refine sw_callV k_X7_put rfl cV_X7_finding ml_X7_225 ⟨by decide, by decide⟩ 0 rfl rfl [.inl wr] [] rfl rfl (Nat.le_of_ble_eq_true rfl) 45 rfl (sp_finding σ wr) (fun r16 σ17 hq18 => ?_)
        obtain ⟨rfl, rfl⟩ := hq18
        refine sw_blk k_X7_put 0 45 [(6, .inl wr), (5, .inr (.inr 15)), (0, .inr (.inr 0)), (1, .inl 0), (2, .inl f), (3, .inl i), (4, .inl v)] [.inl (-10 - wr)] (sw_u σ 0 9 wr) rfl ?_
        refine sw_ireturn k_X7_put rfl rfl ?_
        exact Or.inr ⟨by omega, wr, rfl, Or.inl ⟨by omega, rfl, rfl⟩⟩
    · refine sw_blk k_X7_put 0 11 [(0, .inr (.inr 0)), (1, .inl 0), (2, .inl f), (3, .inl i), (4, .inl v)] [.inl 0] σ rfl ?_
      refine sw_if_ne k_X7_put rfl (by decide) 17 14 (by decide) rfl (fun c => absurd (by decide) c) (fun _ => ?_)
      refine sw_blk k_X7_put 1 16 [(0, .inr (.inr 0)), (1, .inl 0), (2, .inl f), (3, .inl i), (4, .inl v)] [.inl (-2)] σ rfl ?_
      refine sw_ireturn k_X7_put rfl rfl ?_
      exact Or.inl ⟨by omega, rfl, rfl⟩
  · exact absurd (by decide) p1
theorem cc_get0 (σ : sw_S) (hσ : sw_gs σ) (hs0 : 0 ≤ σ 15 3) (hs1 : σ 15 3 ≤ 60) (f i : Int) (gf : sw_g f) (gi : sw_g i) : sw_Con sw_ly sw_rho M_X7_get [.inr (.inr 0), .inl 0, .inl f, .inl i] σ (fun r σ' => (¬ (0 ≤ f ∧ f ≤ 2) ∧ r = some (.inl (-2147483648)) ∧ σ = σ') ∨ ((0 ≤ f ∧ f ≤ 2) ∧ ∃ wr : Int, (if σ 15 1 = 0 then (if σ 15 2 = f then (if 0 ≤ i ∧ i < σ 15 3 then (0 : Int) else 2) else 3) else 1) = wr ∧ ((¬ wr = 0 ∧ r = some (.inl (-2147483648)) ∧ sw_u σ 0 9 wr = σ') ∨ (wr = 0 ∧ r = some (.inl (σ 16 i.toNat)) ∧ σ = σ')))) := by
  refine sw_con (by decide) (Nat.le_of_ble_eq_true rfl) ?_
  refine sw_blk k_X7_get 1 1 [(0, .inr (.inr 0)), (1, .inl 0), (2, .inl f), (3, .inl i)] [.inl 0] σ rfl ?_
  refine sw_callS k_X7_get rfl cS_X7_isSheet ml_X7_219 ⟨by decide, by decide⟩ [.inl 0] [] rfl rfl (Nat.le_of_ble_eq_true rfl) 4 rfl (sp_isSheet σ 0 (by decide)) (fun r2 σ3 hq4 => ?_)
  obtain ⟨rfl, ⟨p1, rfl⟩ | ⟨p1, rfl⟩⟩ := hq4
  · refine sw_blk k_X7_get 0 4 [(0, .inr (.inr 0)), (1, .inl 0), (2, .inl f), (3, .inl i)] [.inl 1] σ rfl ?_
    refine sw_if_eq k_X7_get rfl (by decide) 14 7 (by decide) rfl (fun c => absurd c (by decide)) (fun _ => ?_)
    refine sw_blk k_X7_get 1 8 [(0, .inr (.inr 0)), (1, .inl 0), (2, .inl f), (3, .inl i)] [.inl f] σ rfl ?_
    refine sw_callS k_X7_get rfl cS_X7_isForm ml_X7_222 ⟨by decide, by decide⟩ [.inl f] [] rfl rfl (Nat.le_of_ble_eq_true rfl) 11 rfl (sp_isForm σ f (by omega)) (fun r6 σ7 hq8 => ?_)
    obtain ⟨rfl, ⟨p5, rfl⟩ | ⟨p5, rfl⟩⟩ := hq8
    · refine sw_blk k_X7_get 0 11 [(0, .inr (.inr 0)), (1, .inl 0), (2, .inl f), (3, .inl i)] [.inl 1] σ rfl ?_
      refine sw_if_ne k_X7_get rfl (by decide) 17 14 (by decide) rfl (fun _ => ?_) (fun c => absurd c (by decide))
      refine sw_blk k_X7_get 3 22 [(0, .inr (.inr 0)), (1, .inl 0), (2, .inl f), (3, .inl i)] [.inl 0, .inr (.inr 14)] σ rfl ?_
      refine sw_aald k_X7_get rfl (i := 14) (n := 4) (r := 15) rfl (by decide) (by decide) (by decide) rfl 23 rfl ?_
      refine sw_blk k_X7_get 4 29 [(4, .inr (.inr 15)), (0, .inr (.inr 0)), (1, .inl 0), (2, .inl f), (3, .inl i)] [.inl i, .inl f, .inr (.inr 15)] σ rfl ?_
      refine sw_callS k_X7_get rfl cS_X7_wrongOfItem ml_X7_237 ⟨by decide, by decide⟩ [.inr (.inr 15), .inl f, .inl i] [] rfl rfl (Nat.le_of_ble_eq_true rfl) 32 rfl (sp_wrong0 σ hσ f i (by omega) (by omega) hs0 hs1) (fun r9 σ10 hq11 => ?_)
      obtain ⟨rfl, rfl⟩ := hq11
      generalize hwr : (if σ 15 1 = 0 then (if σ 15 2 = f then (if 0 ≤ i ∧ i < σ 15 3 then (0 : Int) else 2) else 3) else 1) = wr
      have gwr : 0 ≤ wr ∧ wr ≤ 3 := by omega
      refine sw_blk k_X7_get 2 36 [(5, .inl wr), (4, .inr (.inr 15)), (0, .inr (.inr 0)), (1, .inl 0), (2, .inl f), (3, .inl i)] [.inl wr] σ rfl ?_
      refine sw_if_eq k_X7_get rfl (by omega) 48 39 (by decide) rfl (fun c12 => ?_) (fun c12 => ?_)
      · refine sw_blk k_X7_get 3 54 [(5, .inl wr), (4, .inr (.inr 15)), (0, .inr (.inr 0)), (1, .inl 0), (2, .inl f), (3, .inl i)] [.inl i, .inr (.inr 16)] σ rfl ?_
        refine sw_iald k_X7_get rfl (i := 16) (n := 60) rfl (by decide) (by omega) (by omega) 55 rfl ?_
        refine sw_blk k_X7_get 0 55 [(5, .inl wr), (4, .inr (.inr 15)), (0, .inr (.inr 0)), (1, .inl 0), (2, .inl f), (3, .inl i)] [.inl (σ 16 i.toNat)] σ rfl ?_
        refine sw_ireturn k_X7_get rfl rfl ?_
        exact Or.inr ⟨by omega, wr, rfl, Or.inr ⟨by omega, rfl, rfl⟩⟩
      · refine sw_blk k_X7_get 4 47 [(5, .inl wr), (4, .inr (.inr 15)), (0, .inr (.inr 0)), (1, .inl 0), (2, .inl f), (3, .inl i)] [.inl (-2147483648)] (sw_u σ 0 9 wr) rfl ?_
        refine sw_ireturn k_X7_get rfl rfl ?_
        exact Or.inr ⟨by omega, wr, rfl, Or.inl ⟨by omega, rfl, rfl⟩⟩
    · refine sw_blk k_X7_get 0 11 [(0, .inr (.inr 0)), (1, .inl 0), (2, .inl f), (3, .inl i)] [.inl 0] σ rfl ?_
      refine sw_if_ne k_X7_get rfl (by decide) 17 14 (by decide) rfl (fun c => absurd (by decide) c) (fun _ => ?_)
      refine sw_blk k_X7_get 1 16 [(0, .inr (.inr 0)), (1, .inl 0), (2, .inl f), (3, .inl i)] [.inl (-2147483648)] σ rfl ?_
      refine sw_ireturn k_X7_get rfl rfl ?_
      exact Or.inl ⟨by omega, rfl, rfl⟩
  · exact absurd (by decide) p1
theorem cc_read0 (σ : sw_S) (hσ : sw_gs σ) (hs0 : 0 ≤ σ 15 3) (hs1 : σ 15 3 ≤ 60) : sw_Con sw_ly sw_rho M_X7_read [.inr (.inr 0), .inl 0] σ (fun r σ' => (¬ σ 15 1 = 0 ∧ r = some (.inl (-10 - 1)) ∧ (sw_u σ 0 9 1) = σ') ∨ (σ 15 1 = 0 ∧ r = some (.inl (σ 15 3)) ∧ (sw_pf σ 13 (fun j : Nat => max 0 (min (σ 16 j) 99)) (σ 15 3).toNat) = σ')) := by
  refine sw_con (by decide) (Nat.le_of_ble_eq_true rfl) ?_
  refine sw_blk k_X7_read 1 1 [(0, .inr (.inr 0)), (1, .inl 0)] [.inl 0] σ rfl ?_
  refine sw_callS k_X7_read rfl cS_X7_isSheet ml_X7_219 ⟨by decide, by decide⟩ [.inl 0] [] rfl rfl (Nat.le_of_ble_eq_true rfl) 4 rfl (sp_isSheet σ 0 (by decide)) (fun r2 σ3 hq4 => ?_)
  obtain ⟨rfl, ⟨p1, rfl⟩ | ⟨p1, rfl⟩⟩ := hq4
  · refine sw_blk k_X7_read 0 4 [(0, .inr (.inr 0)), (1, .inl 0)] [.inl 1] σ rfl ?_
    refine sw_if_ne k_X7_read rfl (by decide) 10 7 (by decide) rfl (fun _ => ?_) (fun c => absurd c (by decide))
    refine sw_blk k_X7_read 3 15 [(0, .inr (.inr 0)), (1, .inl 0)] [.inl 0, .inr (.inr 14)] σ rfl ?_
    refine sw_aald k_X7_read rfl (i := 14) (n := 4) (r := 15) rfl (by decide) (by decide) (by decide) rfl 16 rfl ?_
    refine sw_blk k_X7_read 3 21 [(2, .inr (.inr 15)), (0, .inr (.inr 0)), (1, .inl 0)] [.inl (σ 15 1)] σ rfl ?_
    refine sw_if_eq k_X7_read rfl (hσ 15 _) 30 24 (by decide) rfl (fun c5 => ?_) (fun c5 => ?_)
    · refine sw_blk k_X7_read 6 42 [(2, .inr (.inr 15)), (0, .inr (.inr 0)), (1, .inl 0)] [.inl (σ 15 3), .inr (.inr 16), .inr (.inr 12)] σ rfl ?_
      refine sw_callV k_X7_read rfl cV_X0_take ml_X7_261 ⟨by decide, by decide⟩ 12 rfl rfl [.inr (.inr 16), .inl (σ 15 3)] [] rfl rfl (Nat.le_of_ble_eq_true rfl) 45 rfl (sp_take0 σ hσ (σ 15 3) (by omega)) (fun r6 σ7 hq8 => ?_)
      obtain ⟨rfl, rfl⟩ := hq8
      refine sw_blk k_X7_read 2 49 [(2, .inr (.inr 15)), (0, .inr (.inr 0)), (1, .inl 0)] [.inl ((sw_pf σ 13 (fun j : Nat => max 0 (min (σ 16 j) 99)) (σ 15 3).toNat) 15 3)] (sw_pf σ 13 (fun j : Nat => max 0 (min (σ 16 j) 99)) (σ 15 3).toNat) rfl ?_
      refine sw_ireturn k_X7_read rfl rfl ?_
      exact Or.inr (⟨by omega, rfl, rfl⟩)
    · refine sw_blk k_X7_read 2 26 [(2, .inr (.inr 15)), (0, .inr (.inr 0)), (1, .inl 0)] [.inl 1, .inr (.inr 0)] σ rfl ?_
      refine sw_callV k_X7_read rfl cV_X7_finding ml_X7_225 ⟨by decide, by decide⟩ 0 rfl rfl [.inl 1] [] rfl rfl (Nat.le_of_ble_eq_true rfl) 29 rfl (sp_finding σ 1) (fun r9 σ10 hq11 => ?_)
      obtain ⟨rfl, rfl⟩ := hq11
      refine sw_blk k_X7_read 0 29 [(2, .inr (.inr 15)), (0, .inr (.inr 0)), (1, .inl 0)] [.inl (-10 - 1)] (sw_u σ 0 9 1) rfl ?_
      refine sw_ireturn k_X7_read rfl rfl ?_
      exact Or.inl ⟨by omega, rfl, rfl⟩
  · exact absurd (by decide) p1
theorem cc_check0 (σ : sw_S) (hσ : sw_gs σ) (hD : 10 ≤ σ 1 0 ∧ σ 1 0 ≤ 400) (hV : 1 ≤ σ 1 1 ∧ σ 1 1 ≤ 20) (hA : 1 ≤ σ 1 2 ∧ σ 1 2 ≤ 5) (hL : ∀ x : Int, 0 ≤ x → x ≤ σ 1 0 → 1 ≤ σ 2 x.toNat ∧ σ 2 x.toNat ≤ σ 1 1) (hs0 : 0 ≤ σ 15 3) (hs1 : σ 15 3 ≤ 60) (hpl : 0 ≤ σ 5 7 ∧ σ 5 7 ≤ σ 1 0) : sw_Con sw_ly sw_rho M_X7_check [.inr (.inr 0), .inl 0] σ (fun r σ' => (¬ σ 5 9 = 0 ∧ r = some (.inl (-4)) ∧ σ = σ') ∨ ((σ 5 9 = 0 ∧ ¬ σ 15 1 = 0) ∧ r = some (.inl (-10 - 1)) ∧ sw_u σ 0 9 1 = σ') ∨ ((σ 5 9 = 0 ∧ σ 15 1 = 0) ∧ σ = σ' ∧ ∃ m : Nat, (m : Int) ≤ σ 15 3 ∧ (∀ j, j < m → sw_lw (σ 2) (σ 1 0) (σ 1 1) (σ 1 2) (σ 16) (σ 5 7) j) ∧ ((m : Int) < σ 15 3 → ¬ sw_lw (σ 2) (σ 1 0) (σ 1 1) (σ 1 2) (σ 16) (σ 5 7) m) ∧ r = some (.inl (if (m : Int) = σ 15 3 ∧ sw_abs (if σ 15 3 = 0 then 0 else σ 16 (σ 15 3 - 1).toNat) ≤ σ 1 2 then (m : Int) + 1000 else (m : Int))))) := by
  refine sw_con (by decide) (Nat.le_of_ble_eq_true rfl) ?_
  refine sw_blk k_X7_check 1 1 [(0, .inr (.inr 0)), (1, .inl 0)] [.inl 0] σ rfl ?_
  refine sw_callS k_X7_check rfl cS_X7_isSheet ml_X7_219 ⟨by decide, by decide⟩ [.inl 0] [] rfl rfl (Nat.le_of_ble_eq_true rfl) 4 rfl (sp_isSheet σ 0 (by decide)) (fun r2 σ3 hq4 => ?_)
  obtain ⟨rfl, ⟨p1, rfl⟩ | ⟨p1, rfl⟩⟩ := hq4
  · refine sw_blk k_X7_check 0 4 [(0, .inr (.inr 0)), (1, .inl 0)] [.inl 1] σ rfl ?_
    refine sw_if_ne k_X7_check rfl (by decide) 10 7 (by decide) rfl (fun _ => ?_) (fun c => absurd c (by decide))
    refine sw_blk k_X7_check 2 14 [(0, .inr (.inr 0)), (1, .inl 0)] [.inr (.inr 5)] σ rfl ?_
    refine sw_callV k_X7_check rfl cV_X6_rests ml_X7_67 ⟨by decide, by decide⟩ 5 rfl rfl [] [] rfl rfl (Nat.le_of_ble_eq_true rfl) 17 rfl (sp_rests σ  (hσ 5 _)) (fun r6 σ7 hq8 => ?_)
    obtain ⟨rfl, ⟨p5, rfl⟩ | ⟨p5, rfl⟩⟩ := hq8
    · refine sw_blk k_X7_check 0 17 [(0, .inr (.inr 0)), (1, .inl 0)] [.inl 1] σ rfl ?_
      refine sw_if_ne k_X7_check rfl (by decide) 23 20 (by decide) rfl (fun _ => ?_) (fun c => absurd c (by decide))
      refine sw_blk k_X7_check 3 28 [(0, .inr (.inr 0)), (1, .inl 0)] [.inl 0, .inr (.inr 14)] σ rfl ?_
      refine sw_aald k_X7_check rfl (i := 14) (n := 4) (r := 15) rfl (by decide) (by decide) (by decide) rfl 29 rfl ?_
      refine sw_blk k_X7_check 3 34 [(2, .inr (.inr 15)), (0, .inr (.inr 0)), (1, .inl 0)] [.inl (σ 15 1)] σ rfl ?_
      refine sw_if_eq k_X7_check rfl (hσ 15 _) 43 37 (by decide) rfl (fun c9 => ?_) (fun c9 => ?_)
      · refine sw_blk k_X7_check 9 62 [(2, .inr (.inr 15)), (0, .inr (.inr 0)), (1, .inl 0)] [.inl (σ 15 3), .inr (.inr 16), .inl (σ 5 7), .inr (.inr 1)] σ rfl ?_
        refine sw_callV k_X7_check rfl cV_X3_lawfulSpeeds ml_X7_270 ⟨by decide, by decide⟩ 1 rfl rfl [.inl (σ 5 7), .inr (.inr 16), .inl (σ 15 3)] [] rfl rfl (Nat.le_of_ble_eq_true rfl) 65 rfl (sp_lawful0 σ hσ hD hV hA hL (σ 5 7) (σ 15 3) hpl (by omega)) (fun r10 σ11 hq12 => ?_)
        obtain ⟨rfl, m, rfl, m1, m2, m3⟩ := hq12
        refine sw_blk k_X7_check 3 70 [(3, .inl (m : Int)), (2, .inr (.inr 15)), (0, .inr (.inr 0)), (1, .inl 0)] [.inl (σ 15 3)] σ rfl ?_
        refine sw_if_ne k_X7_check rfl (hσ 15 _) 77 73 (by decide) rfl (fun c13 => ?_) (fun c13 => ?_)
        · refine sw_blk k_X7_check 6 87 [(3, .inl (m : Int)), (2, .inr (.inr 15)), (0, .inr (.inr 0)), (1, .inl 0)] [.inl ((σ 15 3) - 1), .inr (.inr 16)] σ rfl ?_
          refine sw_iald k_X7_check rfl (i := 16) (n := 60) rfl (by decide) (by omega) (by omega) 88 rfl ?_
          refine sw_blk k_X7_check 4 95 [(4, .inl (σ 16 (((σ 15 3) - 1).toNat))), (3, .inl (m : Int)), (2, .inr (.inr 15)), (0, .inr (.inr 0)), (1, .inl 0)] [.inl (σ 15 3), .inl (m : Int)] σ rfl ?_
          refine sw_icmp_ne k_X7_check rfl (by omega) (hσ 15 _) 117 98 (by decide) rfl (fun c14 => ?_) (fun c14 => ?_)
          · refine sw_blk k_X7_check 3 122 [(5, .inl 0), (4, .inl (σ 16 (((σ 15 3) - 1).toNat))), (3, .inl (m : Int)), (2, .inr (.inr 15)), (0, .inr (.inr 0)), (1, .inl 0)] [.inl 0] σ rfl ?_
            refine sw_if_eq k_X7_check rfl (by decide) 133 125 (by decide) rfl (fun _ => ?_) (fun c => absurd (by decide) c)
            refine sw_blk k_X7_check 1 134 [(5, .inl 0), (4, .inl (σ 16 (((σ 15 3) - 1).toNat))), (3, .inl (m : Int)), (2, .inr (.inr 15)), (0, .inr (.inr 0)), (1, .inl 0)] [.inl (m : Int)] σ rfl ?_
            refine sw_ireturn k_X7_check rfl rfl ?_
            refine Or.inr (Or.inr ⟨by omega, rfl, m, m1, m2, m3, congrArg (fun z : Int => some (Sum.inl z)) ?_⟩)
            rw [if_neg (fun zz => ?_)]
            obtain ⟨z1, z2⟩ := zz
            first | omega | (rw [if_pos (by omega)] at z2; omega) | (rw [if_neg (by omega)] at z2; omega)
          · refine sw_blk k_X7_check 1 100 [(4, .inl (σ 16 (((σ 15 3) - 1).toNat))), (3, .inl (m : Int)), (2, .inr (.inr 15)), (0, .inr (.inr 0)), (1, .inl 0)] [.inl (σ 16 (((σ 15 3) - 1).toNat))] σ rfl ?_
            have gab : sw_g (σ 16 (((σ 15 3) - 1).toNat)) ∧ sw_g (sw_abs (σ 16 (((σ 15 3) - 1).toNat))) := by
              first
              | exact ⟨by decide, by decide⟩
              | (have hl := (m2 (σ 15 3 - 1).toNat (by omega)).2.1; constructor; exact hσ 16 _; unfold sw_abs at *; omega)
            refine sw_callS k_X7_check rfl cS_J9_abs_0f7a4 ml_X7_273 ⟨by decide, by decide⟩ [.inl (σ 16 (((σ 15 3) - 1).toNat))] [] rfl rfl (Nat.le_of_ble_eq_true rfl) 103 rfl (sp_abs σ (σ 16 (((σ 15 3) - 1).toNat)) gab.1) (fun r15 σ16 hq17 => ?_)
            obtain ⟨rfl, rfl⟩ := hq17
            refine sw_blk k_X7_check 3 110 [(4, .inl (σ 16 (((σ 15 3) - 1).toNat))), (3, .inl (m : Int)), (2, .inr (.inr 15)), (0, .inr (.inr 0)), (1, .inl 0)] [.inl (σ 1 2), .inl (sw_abs (σ 16 (((σ 15 3) - 1).toNat)))] σ rfl ?_
            refine sw_icmp_gt k_X7_check rfl gab.2 (hσ 1 _) 117 113 (by decide) rfl (fun c18 => ?_) (fun c18 => ?_)
            · refine sw_blk k_X7_check 3 122 [(5, .inl 0), (4, .inl (σ 16 (((σ 15 3) - 1).toNat))), (3, .inl (m : Int)), (2, .inr (.inr 15)), (0, .inr (.inr 0)), (1, .inl 0)] [.inl 0] σ rfl ?_
              refine sw_if_eq k_X7_check rfl (by decide) 133 125 (by decide) rfl (fun _ => ?_) (fun c => absurd (by decide) c)
              refine sw_blk k_X7_check 1 134 [(5, .inl 0), (4, .inl (σ 16 (((σ 15 3) - 1).toNat))), (3, .inl (m : Int)), (2, .inr (.inr 15)), (0, .inr (.inr 0)), (1, .inl 0)] [.inl (m : Int)] σ rfl ?_
              refine sw_ireturn k_X7_check rfl rfl ?_
              refine Or.inr (Or.inr ⟨by omega, rfl, m, m1, m2, m3, congrArg (fun z : Int => some (Sum.inl z)) ?_⟩)
              rw [if_neg (fun zz => ?_)]
              obtain ⟨z1, z2⟩ := zz
              first | omega | (rw [if_pos (by omega)] at z2; omega) | (rw [if_neg (by omega)] at z2; omega)
            · refine sw_blk k_X7_check 4 122 [(5, .inl 1), (4, .inl (σ 16 (((σ 15 3) - 1).toNat))), (3, .inl (m : Int)), (2, .inr (.inr 15)), (0, .inr (.inr 0)), (1, .inl 0)] [.inl 1] σ rfl ?_
              refine sw_if_eq k_X7_check rfl (by decide) 133 125 (by decide) rfl (fun c => absurd c (by decide)) (fun _ => ?_)
              refine sw_blk k_X7_check 4 134 [(5, .inl 1), (4, .inl (σ 16 (((σ 15 3) - 1).toNat))), (3, .inl (m : Int)), (2, .inr (.inr 15)), (0, .inr (.inr 0)), (1, .inl 0)] [.inl ((m : Int) + 1000)] σ rfl ?_
              refine sw_ireturn k_X7_check rfl rfl ?_
              refine Or.inr (Or.inr ⟨by omega, rfl, m, m1, m2, m3, congrArg (fun z : Int => some (Sum.inl z)) ?_⟩)
              rw [if_pos ⟨by omega, by first | (rw [if_pos (by omega)]; omega) | (rw [if_neg (by omega)]; omega)⟩]
        · refine sw_blk k_X7_check 6 95 [(4, .inl 0), (3, .inl (m : Int)), (2, .inr (.inr 15)), (0, .inr (.inr 0)), (1, .inl 0)] [.inl (σ 15 3), .inl (m : Int)] σ rfl ?_
          refine sw_icmp_ne k_X7_check rfl (by omega) (hσ 15 _) 117 98 (by decide) rfl (fun c19 => ?_) (fun c19 => ?_)
          · refine sw_blk k_X7_check 3 122 [(5, .inl 0), (4, .inl 0), (3, .inl (m : Int)), (2, .inr (.inr 15)), (0, .inr (.inr 0)), (1, .inl 0)] [.inl 0] σ rfl ?_
            refine sw_if_eq k_X7_check rfl (by decide) 133 125 (by decide) rfl (fun _ => ?_) (fun c => absurd (by decide) c)
            refine sw_blk k_X7_check 1 134 [(5, .inl 0), (4, .inl 0), (3, .inl (m : Int)), (2, .inr (.inr 15)), (0, .inr (.inr 0)), (1, .inl 0)] [.inl (m : Int)] σ rfl ?_
            refine sw_ireturn k_X7_check rfl rfl ?_
            refine Or.inr (Or.inr ⟨by omega, rfl, m, m1, m2, m3, congrArg (fun z : Int => some (Sum.inl z)) ?_⟩)
            rw [if_neg (fun zz => ?_)]
            obtain ⟨z1, z2⟩ := zz
            first | omega | (rw [if_pos (by omega)] at z2; omega) | (rw [if_neg (by omega)] at z2; omega)
          · refine sw_blk k_X7_check 1 100 [(4, .inl 0), (3, .inl (m : Int)), (2, .inr (.inr 15)), (0, .inr (.inr 0)), (1, .inl 0)] [.inl 0] σ rfl ?_
            have gab : sw_g 0 ∧ sw_g (sw_abs 0) := by
              first
              | exact ⟨by decide, by decide⟩
              | (have hl := (m2 (σ 15 3 - 1).toNat (by omega)).2.1; constructor; exact hσ 16 _; unfold sw_abs at *; omega)
            refine sw_callS k_X7_check rfl cS_J9_abs_0f7a4 ml_X7_273 ⟨by decide, by decide⟩ [.inl 0] [] rfl rfl (Nat.le_of_ble_eq_true rfl) 103 rfl (sp_abs σ 0 gab.1) (fun r20 σ21 hq22 => ?_)
            obtain ⟨rfl, rfl⟩ := hq22
            refine sw_blk k_X7_check 3 110 [(4, .inl 0), (3, .inl (m : Int)), (2, .inr (.inr 15)), (0, .inr (.inr 0)), (1, .inl 0)] [.inl (σ 1 2), .inl (sw_abs 0)] σ rfl ?_
            refine sw_icmp_gt k_X7_check rfl gab.2 (hσ 1 _) 117 113 (by decide) rfl (fun c23 => ?_) (fun c23 => ?_)
            · refine sw_blk k_X7_check 3 122 [(5, .inl 0), (4, .inl 0), (3, .inl (m : Int)), (2, .inr (.inr 15)), (0, .inr (.inr 0)), (1, .inl 0)] [.inl 0] σ rfl ?_
              refine sw_if_eq k_X7_check rfl (by decide) 133 125 (by decide) rfl (fun _ => ?_) (fun c => absurd (by decide) c)
              refine sw_blk k_X7_check 1 134 [(5, .inl 0), (4, .inl 0), (3, .inl (m : Int)), (2, .inr (.inr 15)), (0, .inr (.inr 0)), (1, .inl 0)] [.inl (m : Int)] σ rfl ?_
              refine sw_ireturn k_X7_check rfl rfl ?_
              refine Or.inr (Or.inr ⟨by omega, rfl, m, m1, m2, m3, congrArg (fun z : Int => some (Sum.inl z)) ?_⟩)
              rw [if_neg (fun zz => ?_)]
              obtain ⟨z1, z2⟩ := zz
              first | omega | (rw [if_pos (by omega)] at z2; omega) | (rw [if_neg (by omega)] at z2; omega)
            · refine sw_blk k_X7_check 4 122 [(5, .inl 1), (4, .inl 0), (3, .inl (m : Int)), (2, .inr (.inr 15)), (0, .inr (.inr 0)), (1, .inl 0)] [.inl 1] σ rfl ?_
              refine sw_if_eq k_X7_check rfl (by decide) 133 125 (by decide) rfl (fun c => absurd c (by decide)) (fun _ => ?_)
              refine sw_blk k_X7_check 4 134 [(5, .inl 1), (4, .inl 0), (3, .inl (m : Int)), (2, .inr (.inr 15)), (0, .inr (.inr 0)), (1, .inl 0)] [.inl ((m : Int) + 1000)] σ rfl ?_
              refine sw_ireturn k_X7_check rfl rfl ?_
              refine Or.inr (Or.inr ⟨by omega, rfl, m, m1, m2, m3, congrArg (fun z : Int => some (Sum.inl z)) ?_⟩)
              rw [if_pos ⟨by omega, by first | (rw [if_pos (by omega)]; omega) | (rw [if_neg (by omega)]; omega)⟩]
      · refine sw_blk k_X7_check 2 39 [(2, .inr (.inr 15)), (0, .inr (.inr 0)), (1, .inl 0)] [.inl 1, .inr (.inr 0)] σ rfl ?_
        refine sw_callV k_X7_check rfl cV_X7_finding ml_X7_225 ⟨by decide, by decide⟩ 0 rfl rfl [.inl 1] [] rfl rfl (Nat.le_of_ble_eq_true rfl) 42 rfl (sp_finding σ 1) (fun r24 σ25 hq26 => ?_)
        obtain ⟨rfl, rfl⟩ := hq26
        refine sw_blk k_X7_check 0 42 [(2, .inr (.inr 15)), (0, .inr (.inr 0)), (1, .inl 0)] [.inl (-10 - 1)] (sw_u σ 0 9 1) rfl ?_
        refine sw_ireturn k_X7_check rfl rfl ?_
        exact Or.inr (Or.inl ⟨by omega, rfl, rfl⟩)
    · refine sw_blk k_X7_check 0 17 [(0, .inr (.inr 0)), (1, .inl 0)] [.inl 0] σ rfl ?_
      refine sw_if_ne k_X7_check rfl (by decide) 23 20 (by decide) rfl (fun c => absurd (by decide) c) (fun _ => ?_)
      refine sw_blk k_X7_check 1 22 [(0, .inr (.inr 0)), (1, .inl 0)] [.inl (-4)] σ rfl ?_
      refine sw_ireturn k_X7_check rfl rfl ?_
      exact Or.inl ⟨by omega, rfl, rfl⟩
  · exact absurd (by decide) p1
theorem cc_sheet1 (σ : sw_S) (f k : Int) (gf : sw_g f) (gk : sw_g k) : sw_Con sw_ly sw_rho M_X7_sheet [.inr (.inr 0), .inl 1, .inl f, .inl k] σ (fun r σ' => (¬ ((0 ≤ f ∧ f ≤ 2) ∧ k ≤ 60) ∧ r = some (.inl (-2)) ∧ σ = σ') ∨ ((((0 ≤ f ∧ f ≤ 2) ∧ k ≤ 60) ∧ k < 0) ∧ r = some (.inl (-10 - 5)) ∧ (sw_u σ 0 9 5) = σ') ∨ ((((0 ≤ f ∧ f ≤ 2) ∧ k ≤ 60) ∧ 0 ≤ k) ∧ r = some (.inl (k)) ∧ (sw_fl (sw_u (sw_u (sw_u σ 17 2 f) 17 3 k) 17 1 0) 18 60 0) = σ')) := by
  refine sw_con (by decide) (Nat.le_of_ble_eq_true rfl) ?_
  refine sw_blk k_X7_sheet 1 1 [(0, .inr (.inr 0)), (1, .inl 1), (2, .inl f), (3, .inl k)] [.inl 1] σ rfl ?_
  refine sw_callS k_X7_sheet rfl cS_X7_isSheet ml_X7_219 ⟨by decide, by decide⟩ [.inl 1] [] rfl rfl (Nat.le_of_ble_eq_true rfl) 4 rfl (sp_isSheet σ 1 (by decide)) (fun r2 σ3 hq4 => ?_)
  obtain ⟨rfl, ⟨p1, rfl⟩ | ⟨p1, rfl⟩⟩ := hq4
  · refine sw_blk k_X7_sheet 0 4 [(0, .inr (.inr 0)), (1, .inl 1), (2, .inl f), (3, .inl k)] [.inl 1] σ rfl ?_
    refine sw_if_eq k_X7_sheet rfl (by decide) 20 7 (by decide) rfl (fun c => absurd c (by decide)) (fun _ => ?_)
    refine sw_blk k_X7_sheet 1 8 [(0, .inr (.inr 0)), (1, .inl 1), (2, .inl f), (3, .inl k)] [.inl f] σ rfl ?_
    refine sw_callS k_X7_sheet rfl cS_X7_isForm ml_X7_222 ⟨by decide, by decide⟩ [.inl f] [] rfl rfl (Nat.le_of_ble_eq_true rfl) 11 rfl (sp_isForm σ f (by omega)) (fun r6 σ7 hq8 => ?_)
    obtain ⟨rfl, ⟨p5, rfl⟩ | ⟨p5, rfl⟩⟩ := hq8
    · refine sw_blk k_X7_sheet 0 11 [(0, .inr (.inr 0)), (1, .inl 1), (2, .inl f), (3, .inl k)] [.inl 1] σ rfl ?_
      refine sw_if_eq k_X7_sheet rfl (by decide) 20 14 (by decide) rfl (fun c => absurd c (by decide)) (fun _ => ?_)
      refine sw_blk k_X7_sheet 2 17 [(0, .inr (.inr 0)), (1, .inl 1), (2, .inl f), (3, .inl k)] [.inl 60, .inl k] σ rfl ?_
      refine sw_icmp_le k_X7_sheet rfl (by omega) (by decide) 23 20 (by decide) rfl (fun c9 => ?_) (fun c9 => ?_)
      · refine sw_blk k_X7_sheet 1 24 [(0, .inr (.inr 0)), (1, .inl 1), (2, .inl f), (3, .inl k)] [.inl k] σ rfl ?_
        refine sw_if_ge k_X7_sheet rfl (by omega) 33 27 (by decide) rfl (fun c10 => ?_) (fun c10 => ?_)
        · refine sw_blk k_X7_sheet 3 38 [(0, .inr (.inr 0)), (1, .inl 1), (2, .inl f), (3, .inl k)] [.inl 1, .inr (.inr 14)] σ rfl ?_
          refine sw_aald k_X7_sheet rfl (i := 14) (n := 4) (r := 17) rfl (by decide) (by decide) (by decide) rfl 39 rfl ?_
          refine sw_blk k_X7_sheet 2 41 [(0, .inr (.inr 0)), (1, .inl 1), (2, .inl f), (3, .inl k)] [.inl k, .inl f, .inr (.inr 17)] σ rfl ?_
          refine sw_callV k_X7_sheet rfl cV_X4_renew ml_X7_228 ⟨by decide, by decide⟩ 17 rfl rfl [.inl f, .inl k] [] rfl rfl (Nat.le_of_ble_eq_true rfl) 44 rfl (sp_srenew1 σ f k) (fun r11 σ12 hq13 => ?_)
          obtain ⟨rfl, rfl⟩ := hq13
          refine sw_blk k_X7_sheet 1 45 [(0, .inr (.inr 0)), (1, .inl 1), (2, .inl f), (3, .inl k)] [.inl k] (sw_fl (sw_u (sw_u (sw_u σ 17 2 f) 17 3 k) 17 1 0) 18 60 0) rfl ?_
          refine sw_ireturn k_X7_sheet rfl rfl ?_
          exact Or.inr (Or.inr (⟨by omega, rfl, rfl⟩))
        · refine sw_blk k_X7_sheet 2 29 [(0, .inr (.inr 0)), (1, .inl 1), (2, .inl f), (3, .inl k)] [.inl 5, .inr (.inr 0)] σ rfl ?_
          refine sw_callV k_X7_sheet rfl cV_X7_finding ml_X7_225 ⟨by decide, by decide⟩ 0 rfl rfl [.inl 5] [] rfl rfl (Nat.le_of_ble_eq_true rfl) 32 rfl (sp_finding σ 5) (fun r14 σ15 hq16 => ?_)
          obtain ⟨rfl, rfl⟩ := hq16
          refine sw_blk k_X7_sheet 0 32 [(0, .inr (.inr 0)), (1, .inl 1), (2, .inl f), (3, .inl k)] [.inl (-10 - 5)] (sw_u σ 0 9 5) rfl ?_
          refine sw_ireturn k_X7_sheet rfl rfl ?_
          exact Or.inr (Or.inl ⟨by omega, rfl, rfl⟩)
      · refine sw_blk k_X7_sheet 1 22 [(0, .inr (.inr 0)), (1, .inl 1), (2, .inl f), (3, .inl k)] [.inl (-2)] σ rfl ?_
        refine sw_ireturn k_X7_sheet rfl rfl ?_
        exact Or.inl ⟨by omega, rfl, rfl⟩
    · refine sw_blk k_X7_sheet 0 11 [(0, .inr (.inr 0)), (1, .inl 1), (2, .inl f), (3, .inl k)] [.inl 0] σ rfl ?_
      refine sw_if_eq k_X7_sheet rfl (by decide) 20 14 (by decide) rfl (fun _ => ?_) (fun c => absurd (by decide) c)
      refine sw_blk k_X7_sheet 1 22 [(0, .inr (.inr 0)), (1, .inl 1), (2, .inl f), (3, .inl k)] [.inl (-2)] σ rfl ?_
      refine sw_ireturn k_X7_sheet rfl rfl ?_
      exact Or.inl ⟨by omega, rfl, rfl⟩
  · exact absurd (by decide) p1
theorem cc_lose1 (σ : sw_S) (hσ : sw_gs σ) : sw_Con sw_ly sw_rho M_X7_lose [.inr (.inr 0), .inl 1] σ (fun r σ' => (¬ σ 17 1 = 0 ∧ r = some (.inl (-10 - 1)) ∧ (sw_u σ 0 9 1) = σ') ∨ (σ 17 1 = 0 ∧ r = some (.inl (σ 17 3)) ∧ (sw_u σ 17 1 1) = σ')) := by
  refine sw_con (by decide) (Nat.le_of_ble_eq_true rfl) ?_
  refine sw_blk k_X7_lose 1 1 [(0, .inr (.inr 0)), (1, .inl 1)] [.inl 1] σ rfl ?_
  refine sw_callS k_X7_lose rfl cS_X7_isSheet ml_X7_219 ⟨by decide, by decide⟩ [.inl 1] [] rfl rfl (Nat.le_of_ble_eq_true rfl) 4 rfl (sp_isSheet σ 1 (by decide)) (fun r2 σ3 hq4 => ?_)
  obtain ⟨rfl, ⟨p1, rfl⟩ | ⟨p1, rfl⟩⟩ := hq4
  · refine sw_blk k_X7_lose 0 4 [(0, .inr (.inr 0)), (1, .inl 1)] [.inl 1] σ rfl ?_
    refine sw_if_ne k_X7_lose rfl (by decide) 10 7 (by decide) rfl (fun _ => ?_) (fun c => absurd c (by decide))
    refine sw_blk k_X7_lose 3 15 [(0, .inr (.inr 0)), (1, .inl 1)] [.inl 1, .inr (.inr 14)] σ rfl ?_
    refine sw_aald k_X7_lose rfl (i := 14) (n := 4) (r := 17) rfl (by decide) (by decide) (by decide) rfl 16 rfl ?_
    refine sw_blk k_X7_lose 3 21 [(2, .inr (.inr 17)), (0, .inr (.inr 0)), (1, .inl 1)] [.inl (σ 17 1)] σ rfl ?_
    refine sw_if_eq k_X7_lose rfl (hσ 17 _) 30 24 (by decide) rfl (fun c5 => ?_) (fun c5 => ?_)
    · refine sw_blk k_X7_lose 5 39 [(2, .inr (.inr 17)), (0, .inr (.inr 0)), (1, .inl 1)] [.inl (σ 17 3)] (sw_u σ 17 1 1) rfl ?_
      refine sw_ireturn k_X7_lose rfl rfl ?_
      exact Or.inr (⟨by omega, rfl, rfl⟩)
    · refine sw_blk k_X7_lose 2 26 [(2, .inr (.inr 17)), (0, .inr (.inr 0)), (1, .inl 1)] [.inl 1, .inr (.inr 0)] σ rfl ?_
      refine sw_callV k_X7_lose rfl cV_X7_finding ml_X7_225 ⟨by decide, by decide⟩ 0 rfl rfl [.inl 1] [] rfl rfl (Nat.le_of_ble_eq_true rfl) 29 rfl (sp_finding σ 1) (fun r6 σ7 hq8 => ?_)
      obtain ⟨rfl, rfl⟩ := hq8
      refine sw_blk k_X7_lose 0 29 [(2, .inr (.inr 17)), (0, .inr (.inr 0)), (1, .inl 1)] [.inl (-10 - 1)] (sw_u σ 0 9 1) rfl ?_
      refine sw_ireturn k_X7_lose rfl rfl ?_
      exact Or.inl ⟨by omega, rfl, rfl⟩
  · exact absurd (by decide) p1
theorem cc_put1 (σ : sw_S) (hσ : sw_gs σ) (hs0 : 0 ≤ σ 17 3) (hs1 : σ 17 3 ≤ 60) (hfm : 0 ≤ σ 17 2 ∧ σ 17 2 ≤ 2) (f i v : Int) (gf : sw_g f) (gi : sw_g i) (gv : sw_g v) : sw_Con sw_ly sw_rho M_X7_put [.inr (.inr 0), .inl 1, .inl f, .inl i, .inl v] σ (fun r σ' => (¬ (0 ≤ f ∧ f ≤ 2) ∧ r = some (.inl (-2)) ∧ σ = σ') ∨ ((0 ≤ f ∧ f ≤ 2) ∧ ∃ wr : Int, (if σ 17 1 = 0 then (if σ 17 2 = f then (if 0 ≤ i ∧ i < σ 17 3 then (0 : Int) else 2) else 3) else 1) = wr ∧ ((¬ wr = 0 ∧ r = some (.inl (-10 - wr)) ∧ sw_u σ 0 9 wr = σ') ∨ (wr = 0 ∧ r = some (.inl 1) ∧ sw_u σ 18 i.toNat (sw_cv (σ 17 2) v) = σ')))) := by
  refine sw_con (by decide) (Nat.le_of_ble_eq_true rfl) ?_
  refine sw_blk k_X7_put 1 1 [(0, .inr (.inr 0)), (1, .inl 1), (2, .inl f), (3, .inl i), (4, .inl v)] [.inl 1] σ rfl ?_
  refine sw_callS k_X7_put rfl cS_X7_isSheet ml_X7_219 ⟨by decide, by decide⟩ [.inl 1] [] rfl rfl (Nat.le_of_ble_eq_true rfl) 4 rfl (sp_isSheet σ 1 (by decide)) (fun r2 σ3 hq4 => ?_)
  obtain ⟨rfl, ⟨p1, rfl⟩ | ⟨p1, rfl⟩⟩ := hq4
  · refine sw_blk k_X7_put 0 4 [(0, .inr (.inr 0)), (1, .inl 1), (2, .inl f), (3, .inl i), (4, .inl v)] [.inl 1] σ rfl ?_
    refine sw_if_eq k_X7_put rfl (by decide) 14 7 (by decide) rfl (fun c => absurd c (by decide)) (fun _ => ?_)
    refine sw_blk k_X7_put 1 8 [(0, .inr (.inr 0)), (1, .inl 1), (2, .inl f), (3, .inl i), (4, .inl v)] [.inl f] σ rfl ?_
    refine sw_callS k_X7_put rfl cS_X7_isForm ml_X7_222 ⟨by decide, by decide⟩ [.inl f] [] rfl rfl (Nat.le_of_ble_eq_true rfl) 11 rfl (sp_isForm σ f (by omega)) (fun r6 σ7 hq8 => ?_)
    obtain ⟨rfl, ⟨p5, rfl⟩ | ⟨p5, rfl⟩⟩ := hq8
    · refine sw_blk k_X7_put 0 11 [(0, .inr (.inr 0)), (1, .inl 1), (2, .inl f), (3, .inl i), (4, .inl v)] [.inl 1] σ rfl ?_
      refine sw_if_ne k_X7_put rfl (by decide) 17 14 (by decide) rfl (fun _ => ?_) (fun c => absurd c (by decide))
      refine sw_blk k_X7_put 3 22 [(0, .inr (.inr 0)), (1, .inl 1), (2, .inl f), (3, .inl i), (4, .inl v)] [.inl 1, .inr (.inr 14)] σ rfl ?_
      refine sw_aald k_X7_put rfl (i := 14) (n := 4) (r := 17) rfl (by decide) (by decide) (by decide) rfl 23 rfl ?_
      refine sw_blk k_X7_put 4 29 [(5, .inr (.inr 17)), (0, .inr (.inr 0)), (1, .inl 1), (2, .inl f), (3, .inl i), (4, .inl v)] [.inl i, .inl f, .inr (.inr 17)] σ rfl ?_
      refine sw_callS k_X7_put rfl cS_X7_wrongOfItem ml_X7_237 ⟨by decide, by decide⟩ [.inr (.inr 17), .inl f, .inl i] [] rfl rfl (Nat.le_of_ble_eq_true rfl) 32 rfl (sp_wrong1 σ hσ f i (by omega) (by omega) hs0 hs1) (fun r9 σ10 hq11 => ?_)
      obtain ⟨rfl, rfl⟩ := hq11
      generalize hwr : (if σ 17 1 = 0 then (if σ 17 2 = f then (if 0 ≤ i ∧ i < σ 17 3 then (0 : Int) else 2) else 3) else 1) = wr
      have gwr : 0 ≤ wr ∧ wr ≤ 3 := by omega
      refine sw_blk k_X7_put 2 36 [(6, .inl wr), (5, .inr (.inr 17)), (0, .inr (.inr 0)), (1, .inl 1), (2, .inl f), (3, .inl i), (4, .inl v)] [.inl wr] σ rfl ?_
      refine sw_if_eq k_X7_put rfl (by omega) 46 39 (by decide) rfl (fun c12 => ?_) (fun c12 => ?_)
      · refine sw_blk k_X7_put 3 51 [(6, .inl wr), (5, .inr (.inr 17)), (0, .inr (.inr 0)), (1, .inl 1), (2, .inl f), (3, .inl i), (4, .inl v)] [.inl v, .inl i, .inr (.inr 17)] σ rfl ?_
        refine sw_callV k_X7_put rfl cV_X4_store ml_X7_241 ⟨by decide, by decide⟩ 17 rfl rfl [.inl i, .inl v] [] rfl rfl (Nat.le_of_ble_eq_true rfl) 54 rfl (sp_store1 σ hσ i v (by omega) hfm) (fun r13 σ14 hq15 => ?_)
        obtain ⟨rfl, rfl⟩ := hq15
        refine sw_blk k_X7_put 1 55 [(6, .inl wr), (5, .inr (.inr 17)), (0, .inr (.inr 0)), (1, .inl 1), (2, .inl f), (3, .inl i), (4, .inl v)] [.inl 1] (sw_u σ 18 i.toNat (if σ 17 2 = 0 then sw_b v else if σ 17 2 = 1 then sw_h v else v)) rfl ?_
        refine sw_ireturn k_X7_put rfl rfl ?_
        exact Or.inr ⟨by omega, wr, rfl, Or.inr ⟨by omega, rfl, rfl⟩⟩
      · refine sw_blk k_X7_put 2 42 [(6, .inl wr), (5, .inr (.inr 17)), (0, .inr (.inr 0)), (1, .inl 1), (2, .inl f), (3, .inl i), (4, .inl v)] [.inl wr, .inr (.inr 0)] σ rfl ?_
        refine sw_callV k_X7_put rfl cV_X7_finding ml_X7_225 ⟨by decide, by decide⟩ 0 rfl rfl [.inl wr] [] rfl rfl (Nat.le_of_ble_eq_true rfl) 45 rfl (sp_finding σ wr) (fun r16 σ17 hq18 => ?_)
        obtain ⟨rfl, rfl⟩ := hq18
        refine sw_blk k_X7_put 0 45 [(6, .inl wr), (5, .inr (.inr 17)), (0, .inr (.inr 0)), (1, .inl 1), (2, .inl f), (3, .inl i), (4, .inl v)] [.inl (-10 - wr)] (sw_u σ 0 9 wr) rfl ?_
        refine sw_ireturn k_X7_put rfl rfl ?_
        exact Or.inr ⟨by omega, wr, rfl, Or.inl ⟨by omega, rfl, rfl⟩⟩
    · refine sw_blk k_X7_put 0 11 [(0, .inr (.inr 0)), (1, .inl 1), (2, .inl f), (3, .inl i), (4, .inl v)] [.inl 0] σ rfl ?_
      refine sw_if_ne k_X7_put rfl (by decide) 17 14 (by decide) rfl (fun c => absurd (by decide) c) (fun _ => ?_)
      refine sw_blk k_X7_put 1 16 [(0, .inr (.inr 0)), (1, .inl 1), (2, .inl f), (3, .inl i), (4, .inl v)] [.inl (-2)] σ rfl ?_
      refine sw_ireturn k_X7_put rfl rfl ?_
      exact Or.inl ⟨by omega, rfl, rfl⟩
  · exact absurd (by decide) p1
theorem cc_get1 (σ : sw_S) (hσ : sw_gs σ) (hs0 : 0 ≤ σ 17 3) (hs1 : σ 17 3 ≤ 60) (f i : Int) (gf : sw_g f) (gi : sw_g i) : sw_Con sw_ly sw_rho M_X7_get [.inr (.inr 0), .inl 1, .inl f, .inl i] σ (fun r σ' => (¬ (0 ≤ f ∧ f ≤ 2) ∧ r = some (.inl (-2147483648)) ∧ σ = σ') ∨ ((0 ≤ f ∧ f ≤ 2) ∧ ∃ wr : Int, (if σ 17 1 = 0 then (if σ 17 2 = f then (if 0 ≤ i ∧ i < σ 17 3 then (0 : Int) else 2) else 3) else 1) = wr ∧ ((¬ wr = 0 ∧ r = some (.inl (-2147483648)) ∧ sw_u σ 0 9 wr = σ') ∨ (wr = 0 ∧ r = some (.inl (σ 18 i.toNat)) ∧ σ = σ')))) := by
  refine sw_con (by decide) (Nat.le_of_ble_eq_true rfl) ?_
  refine sw_blk k_X7_get 1 1 [(0, .inr (.inr 0)), (1, .inl 1), (2, .inl f), (3, .inl i)] [.inl 1] σ rfl ?_
  refine sw_callS k_X7_get rfl cS_X7_isSheet ml_X7_219 ⟨by decide, by decide⟩ [.inl 1] [] rfl rfl (Nat.le_of_ble_eq_true rfl) 4 rfl (sp_isSheet σ 1 (by decide)) (fun r2 σ3 hq4 => ?_)
  obtain ⟨rfl, ⟨p1, rfl⟩ | ⟨p1, rfl⟩⟩ := hq4
  · refine sw_blk k_X7_get 0 4 [(0, .inr (.inr 0)), (1, .inl 1), (2, .inl f), (3, .inl i)] [.inl 1] σ rfl ?_
    refine sw_if_eq k_X7_get rfl (by decide) 14 7 (by decide) rfl (fun c => absurd c (by decide)) (fun _ => ?_)
    refine sw_blk k_X7_get 1 8 [(0, .inr (.inr 0)), (1, .inl 1), (2, .inl f), (3, .inl i)] [.inl f] σ rfl ?_
    refine sw_callS k_X7_get rfl cS_X7_isForm ml_X7_222 ⟨by decide, by decide⟩ [.inl f] [] rfl rfl (Nat.le_of_ble_eq_true rfl) 11 rfl (sp_isForm σ f (by omega)) (fun r6 σ7 hq8 => ?_)
    obtain ⟨rfl, ⟨p5, rfl⟩ | ⟨p5, rfl⟩⟩ := hq8
    · refine sw_blk k_X7_get 0 11 [(0, .inr (.inr 0)), (1, .inl 1), (2, .inl f), (3, .inl i)] [.inl 1] σ rfl ?_
      refine sw_if_ne k_X7_get rfl (by decide) 17 14 (by decide) rfl (fun _ => ?_) (fun c => absurd c (by decide))
      refine sw_blk k_X7_get 3 22 [(0, .inr (.inr 0)), (1, .inl 1), (2, .inl f), (3, .inl i)] [.inl 1, .inr (.inr 14)] σ rfl ?_
      refine sw_aald k_X7_get rfl (i := 14) (n := 4) (r := 17) rfl (by decide) (by decide) (by decide) rfl 23 rfl ?_
      refine sw_blk k_X7_get 4 29 [(4, .inr (.inr 17)), (0, .inr (.inr 0)), (1, .inl 1), (2, .inl f), (3, .inl i)] [.inl i, .inl f, .inr (.inr 17)] σ rfl ?_
      refine sw_callS k_X7_get rfl cS_X7_wrongOfItem ml_X7_237 ⟨by decide, by decide⟩ [.inr (.inr 17), .inl f, .inl i] [] rfl rfl (Nat.le_of_ble_eq_true rfl) 32 rfl (sp_wrong1 σ hσ f i (by omega) (by omega) hs0 hs1) (fun r9 σ10 hq11 => ?_)
      obtain ⟨rfl, rfl⟩ := hq11
      generalize hwr : (if σ 17 1 = 0 then (if σ 17 2 = f then (if 0 ≤ i ∧ i < σ 17 3 then (0 : Int) else 2) else 3) else 1) = wr
      have gwr : 0 ≤ wr ∧ wr ≤ 3 := by omega
      refine sw_blk k_X7_get 2 36 [(5, .inl wr), (4, .inr (.inr 17)), (0, .inr (.inr 0)), (1, .inl 1), (2, .inl f), (3, .inl i)] [.inl wr] σ rfl ?_
      refine sw_if_eq k_X7_get rfl (by omega) 48 39 (by decide) rfl (fun c12 => ?_) (fun c12 => ?_)
      · refine sw_blk k_X7_get 3 54 [(5, .inl wr), (4, .inr (.inr 17)), (0, .inr (.inr 0)), (1, .inl 1), (2, .inl f), (3, .inl i)] [.inl i, .inr (.inr 18)] σ rfl ?_
        refine sw_iald k_X7_get rfl (i := 18) (n := 60) rfl (by decide) (by omega) (by omega) 55 rfl ?_
        refine sw_blk k_X7_get 0 55 [(5, .inl wr), (4, .inr (.inr 17)), (0, .inr (.inr 0)), (1, .inl 1), (2, .inl f), (3, .inl i)] [.inl (σ 18 i.toNat)] σ rfl ?_
        refine sw_ireturn k_X7_get rfl rfl ?_
        exact Or.inr ⟨by omega, wr, rfl, Or.inr ⟨by omega, rfl, rfl⟩⟩
      · refine sw_blk k_X7_get 4 47 [(5, .inl wr), (4, .inr (.inr 17)), (0, .inr (.inr 0)), (1, .inl 1), (2, .inl f), (3, .inl i)] [.inl (-2147483648)] (sw_u σ 0 9 wr) rfl ?_
        refine sw_ireturn k_X7_get rfl rfl ?_
        exact Or.inr ⟨by omega, wr, rfl, Or.inl ⟨by omega, rfl, rfl⟩⟩
    · refine sw_blk k_X7_get 0 11 [(0, .inr (.inr 0)), (1, .inl 1), (2, .inl f), (3, .inl i)] [.inl 0] σ rfl ?_
      refine sw_if_ne k_X7_get rfl (by decide) 17 14 (by decide) rfl (fun c => absurd (by decide) c) (fun _ => ?_)
      refine sw_blk k_X7_get 1 16 [(0, .inr (.inr 0)), (1, .inl 1), (2, .inl f), (3, .inl i)] [.inl (-2147483648)] σ rfl ?_
      refine sw_ireturn k_X7_get rfl rfl ?_
      exact Or.inl ⟨by omega, rfl, rfl⟩
  · exact absurd (by decide) p1
theorem cc_read1 (σ : sw_S) (hσ : sw_gs σ) (hs0 : 0 ≤ σ 17 3) (hs1 : σ 17 3 ≤ 60) : sw_Con sw_ly sw_rho M_X7_read [.inr (.inr 0), .inl 1] σ (fun r σ' => (¬ σ 17 1 = 0 ∧ r = some (.inl (-10 - 1)) ∧ (sw_u σ 0 9 1) = σ') ∨ (σ 17 1 = 0 ∧ r = some (.inl (σ 17 3)) ∧ (sw_pf σ 13 (fun j : Nat => max 0 (min (σ 18 j) 99)) (σ 17 3).toNat) = σ')) := by
  refine sw_con (by decide) (Nat.le_of_ble_eq_true rfl) ?_
  refine sw_blk k_X7_read 1 1 [(0, .inr (.inr 0)), (1, .inl 1)] [.inl 1] σ rfl ?_
  refine sw_callS k_X7_read rfl cS_X7_isSheet ml_X7_219 ⟨by decide, by decide⟩ [.inl 1] [] rfl rfl (Nat.le_of_ble_eq_true rfl) 4 rfl (sp_isSheet σ 1 (by decide)) (fun r2 σ3 hq4 => ?_)
  obtain ⟨rfl, ⟨p1, rfl⟩ | ⟨p1, rfl⟩⟩ := hq4
  · refine sw_blk k_X7_read 0 4 [(0, .inr (.inr 0)), (1, .inl 1)] [.inl 1] σ rfl ?_
    refine sw_if_ne k_X7_read rfl (by decide) 10 7 (by decide) rfl (fun _ => ?_) (fun c => absurd c (by decide))
    refine sw_blk k_X7_read 3 15 [(0, .inr (.inr 0)), (1, .inl 1)] [.inl 1, .inr (.inr 14)] σ rfl ?_
    refine sw_aald k_X7_read rfl (i := 14) (n := 4) (r := 17) rfl (by decide) (by decide) (by decide) rfl 16 rfl ?_
    refine sw_blk k_X7_read 3 21 [(2, .inr (.inr 17)), (0, .inr (.inr 0)), (1, .inl 1)] [.inl (σ 17 1)] σ rfl ?_
    refine sw_if_eq k_X7_read rfl (hσ 17 _) 30 24 (by decide) rfl (fun c5 => ?_) (fun c5 => ?_)
    · refine sw_blk k_X7_read 6 42 [(2, .inr (.inr 17)), (0, .inr (.inr 0)), (1, .inl 1)] [.inl (σ 17 3), .inr (.inr 18), .inr (.inr 12)] σ rfl ?_
      refine sw_callV k_X7_read rfl cV_X0_take ml_X7_261 ⟨by decide, by decide⟩ 12 rfl rfl [.inr (.inr 18), .inl (σ 17 3)] [] rfl rfl (Nat.le_of_ble_eq_true rfl) 45 rfl (sp_take1 σ hσ (σ 17 3) (by omega)) (fun r6 σ7 hq8 => ?_)
      obtain ⟨rfl, rfl⟩ := hq8
      refine sw_blk k_X7_read 2 49 [(2, .inr (.inr 17)), (0, .inr (.inr 0)), (1, .inl 1)] [.inl ((sw_pf σ 13 (fun j : Nat => max 0 (min (σ 18 j) 99)) (σ 17 3).toNat) 17 3)] (sw_pf σ 13 (fun j : Nat => max 0 (min (σ 18 j) 99)) (σ 17 3).toNat) rfl ?_
      refine sw_ireturn k_X7_read rfl rfl ?_
      exact Or.inr (⟨by omega, rfl, rfl⟩)
    · refine sw_blk k_X7_read 2 26 [(2, .inr (.inr 17)), (0, .inr (.inr 0)), (1, .inl 1)] [.inl 1, .inr (.inr 0)] σ rfl ?_
      refine sw_callV k_X7_read rfl cV_X7_finding ml_X7_225 ⟨by decide, by decide⟩ 0 rfl rfl [.inl 1] [] rfl rfl (Nat.le_of_ble_eq_true rfl) 29 rfl (sp_finding σ 1) (fun r9 σ10 hq11 => ?_)
      obtain ⟨rfl, rfl⟩ := hq11
      refine sw_blk k_X7_read 0 29 [(2, .inr (.inr 17)), (0, .inr (.inr 0)), (1, .inl 1)] [.inl (-10 - 1)] (sw_u σ 0 9 1) rfl ?_
      refine sw_ireturn k_X7_read rfl rfl ?_
      exact Or.inl ⟨by omega, rfl, rfl⟩
  · exact absurd (by decide) p1
theorem cc_check1 (σ : sw_S) (hσ : sw_gs σ) (hD : 10 ≤ σ 1 0 ∧ σ 1 0 ≤ 400) (hV : 1 ≤ σ 1 1 ∧ σ 1 1 ≤ 20) (hA : 1 ≤ σ 1 2 ∧ σ 1 2 ≤ 5) (hL : ∀ x : Int, 0 ≤ x → x ≤ σ 1 0 → 1 ≤ σ 2 x.toNat ∧ σ 2 x.toNat ≤ σ 1 1) (hs0 : 0 ≤ σ 17 3) (hs1 : σ 17 3 ≤ 60) (hpl : 0 ≤ σ 5 7 ∧ σ 5 7 ≤ σ 1 0) : sw_Con sw_ly sw_rho M_X7_check [.inr (.inr 0), .inl 1] σ (fun r σ' => (¬ σ 5 9 = 0 ∧ r = some (.inl (-4)) ∧ σ = σ') ∨ ((σ 5 9 = 0 ∧ ¬ σ 17 1 = 0) ∧ r = some (.inl (-10 - 1)) ∧ sw_u σ 0 9 1 = σ') ∨ ((σ 5 9 = 0 ∧ σ 17 1 = 0) ∧ σ = σ' ∧ ∃ m : Nat, (m : Int) ≤ σ 17 3 ∧ (∀ j, j < m → sw_lw (σ 2) (σ 1 0) (σ 1 1) (σ 1 2) (σ 18) (σ 5 7) j) ∧ ((m : Int) < σ 17 3 → ¬ sw_lw (σ 2) (σ 1 0) (σ 1 1) (σ 1 2) (σ 18) (σ 5 7) m) ∧ r = some (.inl (if (m : Int) = σ 17 3 ∧ sw_abs (if σ 17 3 = 0 then 0 else σ 18 (σ 17 3 - 1).toNat) ≤ σ 1 2 then (m : Int) + 1000 else (m : Int))))) := by
  refine sw_con (by decide) (Nat.le_of_ble_eq_true rfl) ?_
  refine sw_blk k_X7_check 1 1 [(0, .inr (.inr 0)), (1, .inl 1)] [.inl 1] σ rfl ?_
  refine sw_callS k_X7_check rfl cS_X7_isSheet ml_X7_219 ⟨by decide, by decide⟩ [.inl 1] [] rfl rfl (Nat.le_of_ble_eq_true rfl) 4 rfl (sp_isSheet σ 1 (by decide)) (fun r2 σ3 hq4 => ?_)
  obtain ⟨rfl, ⟨p1, rfl⟩ | ⟨p1, rfl⟩⟩ := hq4
  · refine sw_blk k_X7_check 0 4 [(0, .inr (.inr 0)), (1, .inl 1)] [.inl 1] σ rfl ?_
    refine sw_if_ne k_X7_check rfl (by decide) 10 7 (by decide) rfl (fun _ => ?_) (fun c => absurd c (by decide))
    refine sw_blk k_X7_check 2 14 [(0, .inr (.inr 0)), (1, .inl 1)] [.inr (.inr 5)] σ rfl ?_
    refine sw_callV k_X7_check rfl cV_X6_rests ml_X7_67 ⟨by decide, by decide⟩ 5 rfl rfl [] [] rfl rfl (Nat.le_of_ble_eq_true rfl) 17 rfl (sp_rests σ  (hσ 5 _)) (fun r6 σ7 hq8 => ?_)
    obtain ⟨rfl, ⟨p5, rfl⟩ | ⟨p5, rfl⟩⟩ := hq8
    · refine sw_blk k_X7_check 0 17 [(0, .inr (.inr 0)), (1, .inl 1)] [.inl 1] σ rfl ?_
      refine sw_if_ne k_X7_check rfl (by decide) 23 20 (by decide) rfl (fun _ => ?_) (fun c => absurd c (by decide))
      refine sw_blk k_X7_check 3 28 [(0, .inr (.inr 0)), (1, .inl 1)] [.inl 1, .inr (.inr 14)] σ rfl ?_
      refine sw_aald k_X7_check rfl (i := 14) (n := 4) (r := 17) rfl (by decide) (by decide) (by decide) rfl 29 rfl ?_
      refine sw_blk k_X7_check 3 34 [(2, .inr (.inr 17)), (0, .inr (.inr 0)), (1, .inl 1)] [.inl (σ 17 1)] σ rfl ?_
      refine sw_if_eq k_X7_check rfl (hσ 17 _) 43 37 (by decide) rfl (fun c9 => ?_) (fun c9 => ?_)
      · refine sw_blk k_X7_check 9 62 [(2, .inr (.inr 17)), (0, .inr (.inr 0)), (1, .inl 1)] [.inl (σ 17 3), .inr (.inr 18), .inl (σ 5 7), .inr (.inr 1)] σ rfl ?_
        refine sw_callV k_X7_check rfl cV_X3_lawfulSpeeds ml_X7_270 ⟨by decide, by decide⟩ 1 rfl rfl [.inl (σ 5 7), .inr (.inr 18), .inl (σ 17 3)] [] rfl rfl (Nat.le_of_ble_eq_true rfl) 65 rfl (sp_lawful1 σ hσ hD hV hA hL (σ 5 7) (σ 17 3) hpl (by omega)) (fun r10 σ11 hq12 => ?_)
        obtain ⟨rfl, m, rfl, m1, m2, m3⟩ := hq12
        refine sw_blk k_X7_check 3 70 [(3, .inl (m : Int)), (2, .inr (.inr 17)), (0, .inr (.inr 0)), (1, .inl 1)] [.inl (σ 17 3)] σ rfl ?_
        refine sw_if_ne k_X7_check rfl (hσ 17 _) 77 73 (by decide) rfl (fun c13 => ?_) (fun c13 => ?_)
        · refine sw_blk k_X7_check 6 87 [(3, .inl (m : Int)), (2, .inr (.inr 17)), (0, .inr (.inr 0)), (1, .inl 1)] [.inl ((σ 17 3) - 1), .inr (.inr 18)] σ rfl ?_
          refine sw_iald k_X7_check rfl (i := 18) (n := 60) rfl (by decide) (by omega) (by omega) 88 rfl ?_
          refine sw_blk k_X7_check 4 95 [(4, .inl (σ 18 (((σ 17 3) - 1).toNat))), (3, .inl (m : Int)), (2, .inr (.inr 17)), (0, .inr (.inr 0)), (1, .inl 1)] [.inl (σ 17 3), .inl (m : Int)] σ rfl ?_
          refine sw_icmp_ne k_X7_check rfl (by omega) (hσ 17 _) 117 98 (by decide) rfl (fun c14 => ?_) (fun c14 => ?_)
          · refine sw_blk k_X7_check 3 122 [(5, .inl 0), (4, .inl (σ 18 (((σ 17 3) - 1).toNat))), (3, .inl (m : Int)), (2, .inr (.inr 17)), (0, .inr (.inr 0)), (1, .inl 1)] [.inl 0] σ rfl ?_
            refine sw_if_eq k_X7_check rfl (by decide) 133 125 (by decide) rfl (fun _ => ?_) (fun c => absurd (by decide) c)
            refine sw_blk k_X7_check 1 134 [(5, .inl 0), (4, .inl (σ 18 (((σ 17 3) - 1).toNat))), (3, .inl (m : Int)), (2, .inr (.inr 17)), (0, .inr (.inr 0)), (1, .inl 1)] [.inl (m : Int)] σ rfl ?_
            refine sw_ireturn k_X7_check rfl rfl ?_
            refine Or.inr (Or.inr ⟨by omega, rfl, m, m1, m2, m3, congrArg (fun z : Int => some (Sum.inl z)) ?_⟩)
            rw [if_neg (fun zz => ?_)]
            obtain ⟨z1, z2⟩ := zz
            first | omega | (rw [if_pos (by omega)] at z2; omega) | (rw [if_neg (by omega)] at z2; omega)
          · refine sw_blk k_X7_check 1 100 [(4, .inl (σ 18 (((σ 17 3) - 1).toNat))), (3, .inl (m : Int)), (2, .inr (.inr 17)), (0, .inr (.inr 0)), (1, .inl 1)] [.inl (σ 18 (((σ 17 3) - 1).toNat))] σ rfl ?_
            have gab : sw_g (σ 18 (((σ 17 3) - 1).toNat)) ∧ sw_g (sw_abs (σ 18 (((σ 17 3) - 1).toNat))) := by
              first
              | exact ⟨by decide, by decide⟩
              | (have hl := (m2 (σ 17 3 - 1).toNat (by omega)).2.1; constructor; exact hσ 18 _; unfold sw_abs at *; omega)
            refine sw_callS k_X7_check rfl cS_J9_abs_0f7a4 ml_X7_273 ⟨by decide, by decide⟩ [.inl (σ 18 (((σ 17 3) - 1).toNat))] [] rfl rfl (Nat.le_of_ble_eq_true rfl) 103 rfl (sp_abs σ (σ 18 (((σ 17 3) - 1).toNat)) gab.1) (fun r15 σ16 hq17 => ?_)
            obtain ⟨rfl, rfl⟩ := hq17
            refine sw_blk k_X7_check 3 110 [(4, .inl (σ 18 (((σ 17 3) - 1).toNat))), (3, .inl (m : Int)), (2, .inr (.inr 17)), (0, .inr (.inr 0)), (1, .inl 1)] [.inl (σ 1 2), .inl (sw_abs (σ 18 (((σ 17 3) - 1).toNat)))] σ rfl ?_
            refine sw_icmp_gt k_X7_check rfl gab.2 (hσ 1 _) 117 113 (by decide) rfl (fun c18 => ?_) (fun c18 => ?_)
            · refine sw_blk k_X7_check 3 122 [(5, .inl 0), (4, .inl (σ 18 (((σ 17 3) - 1).toNat))), (3, .inl (m : Int)), (2, .inr (.inr 17)), (0, .inr (.inr 0)), (1, .inl 1)] [.inl 0] σ rfl ?_
              refine sw_if_eq k_X7_check rfl (by decide) 133 125 (by decide) rfl (fun _ => ?_) (fun c => absurd (by decide) c)
              refine sw_blk k_X7_check 1 134 [(5, .inl 0), (4, .inl (σ 18 (((σ 17 3) - 1).toNat))), (3, .inl (m : Int)), (2, .inr (.inr 17)), (0, .inr (.inr 0)), (1, .inl 1)] [.inl (m : Int)] σ rfl ?_
              refine sw_ireturn k_X7_check rfl rfl ?_
              refine Or.inr (Or.inr ⟨by omega, rfl, m, m1, m2, m3, congrArg (fun z : Int => some (Sum.inl z)) ?_⟩)
              rw [if_neg (fun zz => ?_)]
              obtain ⟨z1, z2⟩ := zz
              first | omega | (rw [if_pos (by omega)] at z2; omega) | (rw [if_neg (by omega)] at z2; omega)
            · refine sw_blk k_X7_check 4 122 [(5, .inl 1), (4, .inl (σ 18 (((σ 17 3) - 1).toNat))), (3, .inl (m : Int)), (2, .inr (.inr 17)), (0, .inr (.inr 0)), (1, .inl 1)] [.inl 1] σ rfl ?_
              refine sw_if_eq k_X7_check rfl (by decide) 133 125 (by decide) rfl (fun c => absurd c (by decide)) (fun _ => ?_)
              refine sw_blk k_X7_check 4 134 [(5, .inl 1), (4, .inl (σ 18 (((σ 17 3) - 1).toNat))), (3, .inl (m : Int)), (2, .inr (.inr 17)), (0, .inr (.inr 0)), (1, .inl 1)] [.inl ((m : Int) + 1000)] σ rfl ?_
              refine sw_ireturn k_X7_check rfl rfl ?_
              refine Or.inr (Or.inr ⟨by omega, rfl, m, m1, m2, m3, congrArg (fun z : Int => some (Sum.inl z)) ?_⟩)
              rw [if_pos ⟨by omega, by first | (rw [if_pos (by omega)]; omega) | (rw [if_neg (by omega)]; omega)⟩]
        · refine sw_blk k_X7_check 6 95 [(4, .inl 0), (3, .inl (m : Int)), (2, .inr (.inr 17)), (0, .inr (.inr 0)), (1, .inl 1)] [.inl (σ 17 3), .inl (m : Int)] σ rfl ?_
          refine sw_icmp_ne k_X7_check rfl (by omega) (hσ 17 _) 117 98 (by decide) rfl (fun c19 => ?_) (fun c19 => ?_)
          · refine sw_blk k_X7_check 3 122 [(5, .inl 0), (4, .inl 0), (3, .inl (m : Int)), (2, .inr (.inr 17)), (0, .inr (.inr 0)), (1, .inl 1)] [.inl 0] σ rfl ?_
            refine sw_if_eq k_X7_check rfl (by decide) 133 125 (by decide) rfl (fun _ => ?_) (fun c => absurd (by decide) c)
            refine sw_blk k_X7_check 1 134 [(5, .inl 0), (4, .inl 0), (3, .inl (m : Int)), (2, .inr (.inr 17)), (0, .inr (.inr 0)), (1, .inl 1)] [.inl (m : Int)] σ rfl ?_
            refine sw_ireturn k_X7_check rfl rfl ?_
            refine Or.inr (Or.inr ⟨by omega, rfl, m, m1, m2, m3, congrArg (fun z : Int => some (Sum.inl z)) ?_⟩)
            rw [if_neg (fun zz => ?_)]
            obtain ⟨z1, z2⟩ := zz
            first | omega | (rw [if_pos (by omega)] at z2; omega) | (rw [if_neg (by omega)] at z2; omega)
          · refine sw_blk k_X7_check 1 100 [(4, .inl 0), (3, .inl (m : Int)), (2, .inr (.inr 17)), (0, .inr (.inr 0)), (1, .inl 1)] [.inl 0] σ rfl ?_
            have gab : sw_g 0 ∧ sw_g (sw_abs 0) := by
              first
              | exact ⟨by decide, by decide⟩
              | (have hl := (m2 (σ 17 3 - 1).toNat (by omega)).2.1; constructor; exact hσ 18 _; unfold sw_abs at *; omega)
            refine sw_callS k_X7_check rfl cS_J9_abs_0f7a4 ml_X7_273 ⟨by decide, by decide⟩ [.inl 0] [] rfl rfl (Nat.le_of_ble_eq_true rfl) 103 rfl (sp_abs σ 0 gab.1) (fun r20 σ21 hq22 => ?_)
            obtain ⟨rfl, rfl⟩ := hq22
            refine sw_blk k_X7_check 3 110 [(4, .inl 0), (3, .inl (m : Int)), (2, .inr (.inr 17)), (0, .inr (.inr 0)), (1, .inl 1)] [.inl (σ 1 2), .inl (sw_abs 0)] σ rfl ?_
            refine sw_icmp_gt k_X7_check rfl gab.2 (hσ 1 _) 117 113 (by decide) rfl (fun c23 => ?_) (fun c23 => ?_)
            · refine sw_blk k_X7_check 3 122 [(5, .inl 0), (4, .inl 0), (3, .inl (m : Int)), (2, .inr (.inr 17)), (0, .inr (.inr 0)), (1, .inl 1)] [.inl 0] σ rfl ?_
              refine sw_if_eq k_X7_check rfl (by decide) 133 125 (by decide) rfl (fun _ => ?_) (fun c => absurd (by decide) c)
              refine sw_blk k_X7_check 1 134 [(5, .inl 0), (4, .inl 0), (3, .inl (m : Int)), (2, .inr (.inr 17)), (0, .inr (.inr 0)), (1, .inl 1)] [.inl (m : Int)] σ rfl ?_
              refine sw_ireturn k_X7_check rfl rfl ?_
              refine Or.inr (Or.inr ⟨by omega, rfl, m, m1, m2, m3, congrArg (fun z : Int => some (Sum.inl z)) ?_⟩)
              rw [if_neg (fun zz => ?_)]
              obtain ⟨z1, z2⟩ := zz
              first | omega | (rw [if_pos (by omega)] at z2; omega) | (rw [if_neg (by omega)] at z2; omega)
            · refine sw_blk k_X7_check 4 122 [(5, .inl 1), (4, .inl 0), (3, .inl (m : Int)), (2, .inr (.inr 17)), (0, .inr (.inr 0)), (1, .inl 1)] [.inl 1] σ rfl ?_
              refine sw_if_eq k_X7_check rfl (by decide) 133 125 (by decide) rfl (fun c => absurd c (by decide)) (fun _ => ?_)
              refine sw_blk k_X7_check 4 134 [(5, .inl 1), (4, .inl 0), (3, .inl (m : Int)), (2, .inr (.inr 17)), (0, .inr (.inr 0)), (1, .inl 1)] [.inl ((m : Int) + 1000)] σ rfl ?_
              refine sw_ireturn k_X7_check rfl rfl ?_
              refine Or.inr (Or.inr ⟨by omega, rfl, m, m1, m2, m3, congrArg (fun z : Int => some (Sum.inl z)) ?_⟩)
              rw [if_pos ⟨by omega, by first | (rw [if_pos (by omega)]; omega) | (rw [if_neg (by omega)]; omega)⟩]
      · refine sw_blk k_X7_check 2 39 [(2, .inr (.inr 17)), (0, .inr (.inr 0)), (1, .inl 1)] [.inl 1, .inr (.inr 0)] σ rfl ?_
        refine sw_callV k_X7_check rfl cV_X7_finding ml_X7_225 ⟨by decide, by decide⟩ 0 rfl rfl [.inl 1] [] rfl rfl (Nat.le_of_ble_eq_true rfl) 42 rfl (sp_finding σ 1) (fun r24 σ25 hq26 => ?_)
        obtain ⟨rfl, rfl⟩ := hq26
        refine sw_blk k_X7_check 0 42 [(2, .inr (.inr 17)), (0, .inr (.inr 0)), (1, .inl 1)] [.inl (-10 - 1)] (sw_u σ 0 9 1) rfl ?_
        refine sw_ireturn k_X7_check rfl rfl ?_
        exact Or.inr (Or.inl ⟨by omega, rfl, rfl⟩)
    · refine sw_blk k_X7_check 0 17 [(0, .inr (.inr 0)), (1, .inl 1)] [.inl 0] σ rfl ?_
      refine sw_if_ne k_X7_check rfl (by decide) 23 20 (by decide) rfl (fun c => absurd (by decide) c) (fun _ => ?_)
      refine sw_blk k_X7_check 1 22 [(0, .inr (.inr 0)), (1, .inl 1)] [.inl (-4)] σ rfl ?_
      refine sw_ireturn k_X7_check rfl rfl ?_
      exact Or.inl ⟨by omega, rfl, rfl⟩
  · exact absurd (by decide) p1
theorem cc_sheet2 (σ : sw_S) (f k : Int) (gf : sw_g f) (gk : sw_g k) : sw_Con sw_ly sw_rho M_X7_sheet [.inr (.inr 0), .inl 2, .inl f, .inl k] σ (fun r σ' => (¬ ((0 ≤ f ∧ f ≤ 2) ∧ k ≤ 60) ∧ r = some (.inl (-2)) ∧ σ = σ') ∨ ((((0 ≤ f ∧ f ≤ 2) ∧ k ≤ 60) ∧ k < 0) ∧ r = some (.inl (-10 - 5)) ∧ (sw_u σ 0 9 5) = σ') ∨ ((((0 ≤ f ∧ f ≤ 2) ∧ k ≤ 60) ∧ 0 ≤ k) ∧ r = some (.inl (k)) ∧ (sw_fl (sw_u (sw_u (sw_u σ 19 2 f) 19 3 k) 19 1 0) 20 60 0) = σ')) := by
  refine sw_con (by decide) (Nat.le_of_ble_eq_true rfl) ?_
  refine sw_blk k_X7_sheet 1 1 [(0, .inr (.inr 0)), (1, .inl 2), (2, .inl f), (3, .inl k)] [.inl 2] σ rfl ?_
  refine sw_callS k_X7_sheet rfl cS_X7_isSheet ml_X7_219 ⟨by decide, by decide⟩ [.inl 2] [] rfl rfl (Nat.le_of_ble_eq_true rfl) 4 rfl (sp_isSheet σ 2 (by decide)) (fun r2 σ3 hq4 => ?_)
  obtain ⟨rfl, ⟨p1, rfl⟩ | ⟨p1, rfl⟩⟩ := hq4
  · refine sw_blk k_X7_sheet 0 4 [(0, .inr (.inr 0)), (1, .inl 2), (2, .inl f), (3, .inl k)] [.inl 1] σ rfl ?_
    refine sw_if_eq k_X7_sheet rfl (by decide) 20 7 (by decide) rfl (fun c => absurd c (by decide)) (fun _ => ?_)
    refine sw_blk k_X7_sheet 1 8 [(0, .inr (.inr 0)), (1, .inl 2), (2, .inl f), (3, .inl k)] [.inl f] σ rfl ?_
    refine sw_callS k_X7_sheet rfl cS_X7_isForm ml_X7_222 ⟨by decide, by decide⟩ [.inl f] [] rfl rfl (Nat.le_of_ble_eq_true rfl) 11 rfl (sp_isForm σ f (by omega)) (fun r6 σ7 hq8 => ?_)
    obtain ⟨rfl, ⟨p5, rfl⟩ | ⟨p5, rfl⟩⟩ := hq8
    · refine sw_blk k_X7_sheet 0 11 [(0, .inr (.inr 0)), (1, .inl 2), (2, .inl f), (3, .inl k)] [.inl 1] σ rfl ?_
      refine sw_if_eq k_X7_sheet rfl (by decide) 20 14 (by decide) rfl (fun c => absurd c (by decide)) (fun _ => ?_)
      refine sw_blk k_X7_sheet 2 17 [(0, .inr (.inr 0)), (1, .inl 2), (2, .inl f), (3, .inl k)] [.inl 60, .inl k] σ rfl ?_
      refine sw_icmp_le k_X7_sheet rfl (by omega) (by decide) 23 20 (by decide) rfl (fun c9 => ?_) (fun c9 => ?_)
      · refine sw_blk k_X7_sheet 1 24 [(0, .inr (.inr 0)), (1, .inl 2), (2, .inl f), (3, .inl k)] [.inl k] σ rfl ?_
        refine sw_if_ge k_X7_sheet rfl (by omega) 33 27 (by decide) rfl (fun c10 => ?_) (fun c10 => ?_)
        · refine sw_blk k_X7_sheet 3 38 [(0, .inr (.inr 0)), (1, .inl 2), (2, .inl f), (3, .inl k)] [.inl 2, .inr (.inr 14)] σ rfl ?_
          refine sw_aald k_X7_sheet rfl (i := 14) (n := 4) (r := 19) rfl (by decide) (by decide) (by decide) rfl 39 rfl ?_
          refine sw_blk k_X7_sheet 2 41 [(0, .inr (.inr 0)), (1, .inl 2), (2, .inl f), (3, .inl k)] [.inl k, .inl f, .inr (.inr 19)] σ rfl ?_
          refine sw_callV k_X7_sheet rfl cV_X4_renew ml_X7_228 ⟨by decide, by decide⟩ 19 rfl rfl [.inl f, .inl k] [] rfl rfl (Nat.le_of_ble_eq_true rfl) 44 rfl (sp_srenew2 σ f k) (fun r11 σ12 hq13 => ?_)
          obtain ⟨rfl, rfl⟩ := hq13
          refine sw_blk k_X7_sheet 1 45 [(0, .inr (.inr 0)), (1, .inl 2), (2, .inl f), (3, .inl k)] [.inl k] (sw_fl (sw_u (sw_u (sw_u σ 19 2 f) 19 3 k) 19 1 0) 20 60 0) rfl ?_
          refine sw_ireturn k_X7_sheet rfl rfl ?_
          exact Or.inr (Or.inr (⟨by omega, rfl, rfl⟩))
        · refine sw_blk k_X7_sheet 2 29 [(0, .inr (.inr 0)), (1, .inl 2), (2, .inl f), (3, .inl k)] [.inl 5, .inr (.inr 0)] σ rfl ?_
          refine sw_callV k_X7_sheet rfl cV_X7_finding ml_X7_225 ⟨by decide, by decide⟩ 0 rfl rfl [.inl 5] [] rfl rfl (Nat.le_of_ble_eq_true rfl) 32 rfl (sp_finding σ 5) (fun r14 σ15 hq16 => ?_)
          obtain ⟨rfl, rfl⟩ := hq16
          refine sw_blk k_X7_sheet 0 32 [(0, .inr (.inr 0)), (1, .inl 2), (2, .inl f), (3, .inl k)] [.inl (-10 - 5)] (sw_u σ 0 9 5) rfl ?_
          refine sw_ireturn k_X7_sheet rfl rfl ?_
          exact Or.inr (Or.inl ⟨by omega, rfl, rfl⟩)
      · refine sw_blk k_X7_sheet 1 22 [(0, .inr (.inr 0)), (1, .inl 2), (2, .inl f), (3, .inl k)] [.inl (-2)] σ rfl ?_
        refine sw_ireturn k_X7_sheet rfl rfl ?_
        exact Or.inl ⟨by omega, rfl, rfl⟩
    · refine sw_blk k_X7_sheet 0 11 [(0, .inr (.inr 0)), (1, .inl 2), (2, .inl f), (3, .inl k)] [.inl 0] σ rfl ?_
      refine sw_if_eq k_X7_sheet rfl (by decide) 20 14 (by decide) rfl (fun _ => ?_) (fun c => absurd (by decide) c)
      refine sw_blk k_X7_sheet 1 22 [(0, .inr (.inr 0)), (1, .inl 2), (2, .inl f), (3, .inl k)] [.inl (-2)] σ rfl ?_
      refine sw_ireturn k_X7_sheet rfl rfl ?_
      exact Or.inl ⟨by omega, rfl, rfl⟩
  · exact absurd (by decide) p1
theorem cc_lose2 (σ : sw_S) (hσ : sw_gs σ) : sw_Con sw_ly sw_rho M_X7_lose [.inr (.inr 0), .inl 2] σ (fun r σ' => (¬ σ 19 1 = 0 ∧ r = some (.inl (-10 - 1)) ∧ (sw_u σ 0 9 1) = σ') ∨ (σ 19 1 = 0 ∧ r = some (.inl (σ 19 3)) ∧ (sw_u σ 19 1 1) = σ')) := by
  refine sw_con (by decide) (Nat.le_of_ble_eq_true rfl) ?_
  refine sw_blk k_X7_lose 1 1 [(0, .inr (.inr 0)), (1, .inl 2)] [.inl 2] σ rfl ?_
  refine sw_callS k_X7_lose rfl cS_X7_isSheet ml_X7_219 ⟨by decide, by decide⟩ [.inl 2] [] rfl rfl (Nat.le_of_ble_eq_true rfl) 4 rfl (sp_isSheet σ 2 (by decide)) (fun r2 σ3 hq4 => ?_)
  obtain ⟨rfl, ⟨p1, rfl⟩ | ⟨p1, rfl⟩⟩ := hq4
  · refine sw_blk k_X7_lose 0 4 [(0, .inr (.inr 0)), (1, .inl 2)] [.inl 1] σ rfl ?_
    refine sw_if_ne k_X7_lose rfl (by decide) 10 7 (by decide) rfl (fun _ => ?_) (fun c => absurd c (by decide))
    refine sw_blk k_X7_lose 3 15 [(0, .inr (.inr 0)), (1, .inl 2)] [.inl 2, .inr (.inr 14)] σ rfl ?_
    refine sw_aald k_X7_lose rfl (i := 14) (n := 4) (r := 19) rfl (by decide) (by decide) (by decide) rfl 16 rfl ?_
    refine sw_blk k_X7_lose 3 21 [(2, .inr (.inr 19)), (0, .inr (.inr 0)), (1, .inl 2)] [.inl (σ 19 1)] σ rfl ?_
    refine sw_if_eq k_X7_lose rfl (hσ 19 _) 30 24 (by decide) rfl (fun c5 => ?_) (fun c5 => ?_)
    · refine sw_blk k_X7_lose 5 39 [(2, .inr (.inr 19)), (0, .inr (.inr 0)), (1, .inl 2)] [.inl (σ 19 3)] (sw_u σ 19 1 1) rfl ?_
      refine sw_ireturn k_X7_lose rfl rfl ?_
      exact Or.inr (⟨by omega, rfl, rfl⟩)
    · refine sw_blk k_X7_lose 2 26 [(2, .inr (.inr 19)), (0, .inr (.inr 0)), (1, .inl 2)] [.inl 1, .inr (.inr 0)] σ rfl ?_
      refine sw_callV k_X7_lose rfl cV_X7_finding ml_X7_225 ⟨by decide, by decide⟩ 0 rfl rfl [.inl 1] [] rfl rfl (Nat.le_of_ble_eq_true rfl) 29 rfl (sp_finding σ 1) (fun r6 σ7 hq8 => ?_)
      obtain ⟨rfl, rfl⟩ := hq8
      refine sw_blk k_X7_lose 0 29 [(2, .inr (.inr 19)), (0, .inr (.inr 0)), (1, .inl 2)] [.inl (-10 - 1)] (sw_u σ 0 9 1) rfl ?_
      refine sw_ireturn k_X7_lose rfl rfl ?_
      exact Or.inl ⟨by omega, rfl, rfl⟩
  · exact absurd (by decide) p1
theorem cc_put2 (σ : sw_S) (hσ : sw_gs σ) (hs0 : 0 ≤ σ 19 3) (hs1 : σ 19 3 ≤ 60) (hfm : 0 ≤ σ 19 2 ∧ σ 19 2 ≤ 2) (f i v : Int) (gf : sw_g f) (gi : sw_g i) (gv : sw_g v) : sw_Con sw_ly sw_rho M_X7_put [.inr (.inr 0), .inl 2, .inl f, .inl i, .inl v] σ (fun r σ' => (¬ (0 ≤ f ∧ f ≤ 2) ∧ r = some (.inl (-2)) ∧ σ = σ') ∨ ((0 ≤ f ∧ f ≤ 2) ∧ ∃ wr : Int, (if σ 19 1 = 0 then (if σ 19 2 = f then (if 0 ≤ i ∧ i < σ 19 3 then (0 : Int) else 2) else 3) else 1) = wr ∧ ((¬ wr = 0 ∧ r = some (.inl (-10 - wr)) ∧ sw_u σ 0 9 wr = σ') ∨ (wr = 0 ∧ r = some (.inl 1) ∧ sw_u σ 20 i.toNat (sw_cv (σ 19 2) v) = σ')))) := by
  refine sw_con (by decide) (Nat.le_of_ble_eq_true rfl) ?_
  refine sw_blk k_X7_put 1 1 [(0, .inr (.inr 0)), (1, .inl 2), (2, .inl f), (3, .inl i), (4, .inl v)] [.inl 2] σ rfl ?_
  refine sw_callS k_X7_put rfl cS_X7_isSheet ml_X7_219 ⟨by decide, by decide⟩ [.inl 2] [] rfl rfl (Nat.le_of_ble_eq_true rfl) 4 rfl (sp_isSheet σ 2 (by decide)) (fun r2 σ3 hq4 => ?_)
  obtain ⟨rfl, ⟨p1, rfl⟩ | ⟨p1, rfl⟩⟩ := hq4
  · refine sw_blk k_X7_put 0 4 [(0, .inr (.inr 0)), (1, .inl 2), (2, .inl f), (3, .inl i), (4, .inl v)] [.inl 1] σ rfl ?_
    refine sw_if_eq k_X7_put rfl (by decide) 14 7 (by decide) rfl (fun c => absurd c (by decide)) (fun _ => ?_)
    refine sw_blk k_X7_put 1 8 [(0, .inr (.inr 0)), (1, .inl 2), (2, .inl f), (3, .inl i), (4, .inl v)] [.inl f] σ rfl ?_
    refine sw_callS k_X7_put rfl cS_X7_isForm ml_X7_222 ⟨by decide, by decide⟩ [.inl f] [] rfl rfl (Nat.le_of_ble_eq_true rfl) 11 rfl (sp_isForm σ f (by omega)) (fun r6 σ7 hq8 => ?_)
    obtain ⟨rfl, ⟨p5, rfl⟩ | ⟨p5, rfl⟩⟩ := hq8
    · refine sw_blk k_X7_put 0 11 [(0, .inr (.inr 0)), (1, .inl 2), (2, .inl f), (3, .inl i), (4, .inl v)] [.inl 1] σ rfl ?_
      refine sw_if_ne k_X7_put rfl (by decide) 17 14 (by decide) rfl (fun _ => ?_) (fun c => absurd c (by decide))
      refine sw_blk k_X7_put 3 22 [(0, .inr (.inr 0)), (1, .inl 2), (2, .inl f), (3, .inl i), (4, .inl v)] [.inl 2, .inr (.inr 14)] σ rfl ?_
      refine sw_aald k_X7_put rfl (i := 14) (n := 4) (r := 19) rfl (by decide) (by decide) (by decide) rfl 23 rfl ?_
      refine sw_blk k_X7_put 4 29 [(5, .inr (.inr 19)), (0, .inr (.inr 0)), (1, .inl 2), (2, .inl f), (3, .inl i), (4, .inl v)] [.inl i, .inl f, .inr (.inr 19)] σ rfl ?_
      refine sw_callS k_X7_put rfl cS_X7_wrongOfItem ml_X7_237 ⟨by decide, by decide⟩ [.inr (.inr 19), .inl f, .inl i] [] rfl rfl (Nat.le_of_ble_eq_true rfl) 32 rfl (sp_wrong2 σ hσ f i (by omega) (by omega) hs0 hs1) (fun r9 σ10 hq11 => ?_)
      obtain ⟨rfl, rfl⟩ := hq11
      generalize hwr : (if σ 19 1 = 0 then (if σ 19 2 = f then (if 0 ≤ i ∧ i < σ 19 3 then (0 : Int) else 2) else 3) else 1) = wr
      have gwr : 0 ≤ wr ∧ wr ≤ 3 := by omega
      refine sw_blk k_X7_put 2 36 [(6, .inl wr), (5, .inr (.inr 19)), (0, .inr (.inr 0)), (1, .inl 2), (2, .inl f), (3, .inl i), (4, .inl v)] [.inl wr] σ rfl ?_
      refine sw_if_eq k_X7_put rfl (by omega) 46 39 (by decide) rfl (fun c12 => ?_) (fun c12 => ?_)
      · refine sw_blk k_X7_put 3 51 [(6, .inl wr), (5, .inr (.inr 19)), (0, .inr (.inr 0)), (1, .inl 2), (2, .inl f), (3, .inl i), (4, .inl v)] [.inl v, .inl i, .inr (.inr 19)] σ rfl ?_
        refine sw_callV k_X7_put rfl cV_X4_store ml_X7_241 ⟨by decide, by decide⟩ 19 rfl rfl [.inl i, .inl v] [] rfl rfl (Nat.le_of_ble_eq_true rfl) 54 rfl (sp_store2 σ hσ i v (by omega) hfm) (fun r13 σ14 hq15 => ?_)
        obtain ⟨rfl, rfl⟩ := hq15
        refine sw_blk k_X7_put 1 55 [(6, .inl wr), (5, .inr (.inr 19)), (0, .inr (.inr 0)), (1, .inl 2), (2, .inl f), (3, .inl i), (4, .inl v)] [.inl 1] (sw_u σ 20 i.toNat (if σ 19 2 = 0 then sw_b v else if σ 19 2 = 1 then sw_h v else v)) rfl ?_
        refine sw_ireturn k_X7_put rfl rfl ?_
        exact Or.inr ⟨by omega, wr, rfl, Or.inr ⟨by omega, rfl, rfl⟩⟩
      · refine sw_blk k_X7_put 2 42 [(6, .inl wr), (5, .inr (.inr 19)), (0, .inr (.inr 0)), (1, .inl 2), (2, .inl f), (3, .inl i), (4, .inl v)] [.inl wr, .inr (.inr 0)] σ rfl ?_
        refine sw_callV k_X7_put rfl cV_X7_finding ml_X7_225 ⟨by decide, by decide⟩ 0 rfl rfl [.inl wr] [] rfl rfl (Nat.le_of_ble_eq_true rfl) 45 rfl (sp_finding σ wr) (fun r16 σ17 hq18 => ?_)
        obtain ⟨rfl, rfl⟩ := hq18
        refine sw_blk k_X7_put 0 45 [(6, .inl wr), (5, .inr (.inr 19)), (0, .inr (.inr 0)), (1, .inl 2), (2, .inl f), (3, .inl i), (4, .inl v)] [.inl (-10 - wr)] (sw_u σ 0 9 wr) rfl ?_
        refine sw_ireturn k_X7_put rfl rfl ?_
        exact Or.inr ⟨by omega, wr, rfl, Or.inl ⟨by omega, rfl, rfl⟩⟩
    · refine sw_blk k_X7_put 0 11 [(0, .inr (.inr 0)), (1, .inl 2), (2, .inl f), (3, .inl i), (4, .inl v)] [.inl 0] σ rfl ?_
      refine sw_if_ne k_X7_put rfl (by decide) 17 14 (by decide) rfl (fun c => absurd (by decide) c) (fun _ => ?_)
      refine sw_blk k_X7_put 1 16 [(0, .inr (.inr 0)), (1, .inl 2), (2, .inl f), (3, .inl i), (4, .inl v)] [.inl (-2)] σ rfl ?_
      refine sw_ireturn k_X7_put rfl rfl ?_
      exact Or.inl ⟨by omega, rfl, rfl⟩
  · exact absurd (by decide) p1
theorem cc_get2 (σ : sw_S) (hσ : sw_gs σ) (hs0 : 0 ≤ σ 19 3) (hs1 : σ 19 3 ≤ 60) (f i : Int) (gf : sw_g f) (gi : sw_g i) : sw_Con sw_ly sw_rho M_X7_get [.inr (.inr 0), .inl 2, .inl f, .inl i] σ (fun r σ' => (¬ (0 ≤ f ∧ f ≤ 2) ∧ r = some (.inl (-2147483648)) ∧ σ = σ') ∨ ((0 ≤ f ∧ f ≤ 2) ∧ ∃ wr : Int, (if σ 19 1 = 0 then (if σ 19 2 = f then (if 0 ≤ i ∧ i < σ 19 3 then (0 : Int) else 2) else 3) else 1) = wr ∧ ((¬ wr = 0 ∧ r = some (.inl (-2147483648)) ∧ sw_u σ 0 9 wr = σ') ∨ (wr = 0 ∧ r = some (.inl (σ 20 i.toNat)) ∧ σ = σ')))) := by
  refine sw_con (by decide) (Nat.le_of_ble_eq_true rfl) ?_
  refine sw_blk k_X7_get 1 1 [(0, .inr (.inr 0)), (1, .inl 2), (2, .inl f), (3, .inl i)] [.inl 2] σ rfl ?_
  refine sw_callS k_X7_get rfl cS_X7_isSheet ml_X7_219 ⟨by decide, by decide⟩ [.inl 2] [] rfl rfl (Nat.le_of_ble_eq_true rfl) 4 rfl (sp_isSheet σ 2 (by decide)) (fun r2 σ3 hq4 => ?_)
  obtain ⟨rfl, ⟨p1, rfl⟩ | ⟨p1, rfl⟩⟩ := hq4
  · refine sw_blk k_X7_get 0 4 [(0, .inr (.inr 0)), (1, .inl 2), (2, .inl f), (3, .inl i)] [.inl 1] σ rfl ?_
    refine sw_if_eq k_X7_get rfl (by decide) 14 7 (by decide) rfl (fun c => absurd c (by decide)) (fun _ => ?_)
    refine sw_blk k_X7_get 1 8 [(0, .inr (.inr 0)), (1, .inl 2), (2, .inl f), (3, .inl i)] [.inl f] σ rfl ?_
    refine sw_callS k_X7_get rfl cS_X7_isForm ml_X7_222 ⟨by decide, by decide⟩ [.inl f] [] rfl rfl (Nat.le_of_ble_eq_true rfl) 11 rfl (sp_isForm σ f (by omega)) (fun r6 σ7 hq8 => ?_)
    obtain ⟨rfl, ⟨p5, rfl⟩ | ⟨p5, rfl⟩⟩ := hq8
    · refine sw_blk k_X7_get 0 11 [(0, .inr (.inr 0)), (1, .inl 2), (2, .inl f), (3, .inl i)] [.inl 1] σ rfl ?_
      refine sw_if_ne k_X7_get rfl (by decide) 17 14 (by decide) rfl (fun _ => ?_) (fun c => absurd c (by decide))
      refine sw_blk k_X7_get 3 22 [(0, .inr (.inr 0)), (1, .inl 2), (2, .inl f), (3, .inl i)] [.inl 2, .inr (.inr 14)] σ rfl ?_
      refine sw_aald k_X7_get rfl (i := 14) (n := 4) (r := 19) rfl (by decide) (by decide) (by decide) rfl 23 rfl ?_
      refine sw_blk k_X7_get 4 29 [(4, .inr (.inr 19)), (0, .inr (.inr 0)), (1, .inl 2), (2, .inl f), (3, .inl i)] [.inl i, .inl f, .inr (.inr 19)] σ rfl ?_
      refine sw_callS k_X7_get rfl cS_X7_wrongOfItem ml_X7_237 ⟨by decide, by decide⟩ [.inr (.inr 19), .inl f, .inl i] [] rfl rfl (Nat.le_of_ble_eq_true rfl) 32 rfl (sp_wrong2 σ hσ f i (by omega) (by omega) hs0 hs1) (fun r9 σ10 hq11 => ?_)
      obtain ⟨rfl, rfl⟩ := hq11
      generalize hwr : (if σ 19 1 = 0 then (if σ 19 2 = f then (if 0 ≤ i ∧ i < σ 19 3 then (0 : Int) else 2) else 3) else 1) = wr
      have gwr : 0 ≤ wr ∧ wr ≤ 3 := by omega
      refine sw_blk k_X7_get 2 36 [(5, .inl wr), (4, .inr (.inr 19)), (0, .inr (.inr 0)), (1, .inl 2), (2, .inl f), (3, .inl i)] [.inl wr] σ rfl ?_
      refine sw_if_eq k_X7_get rfl (by omega) 48 39 (by decide) rfl (fun c12 => ?_) (fun c12 => ?_)
      · refine sw_blk k_X7_get 3 54 [(5, .inl wr), (4, .inr (.inr 19)), (0, .inr (.inr 0)), (1, .inl 2), (2, .inl f), (3, .inl i)] [.inl i, .inr (.inr 20)] σ rfl ?_
        refine sw_iald k_X7_get rfl (i := 20) (n := 60) rfl (by decide) (by omega) (by omega) 55 rfl ?_
        refine sw_blk k_X7_get 0 55 [(5, .inl wr), (4, .inr (.inr 19)), (0, .inr (.inr 0)), (1, .inl 2), (2, .inl f), (3, .inl i)] [.inl (σ 20 i.toNat)] σ rfl ?_
        refine sw_ireturn k_X7_get rfl rfl ?_
        exact Or.inr ⟨by omega, wr, rfl, Or.inr ⟨by omega, rfl, rfl⟩⟩
      · refine sw_blk k_X7_get 4 47 [(5, .inl wr), (4, .inr (.inr 19)), (0, .inr (.inr 0)), (1, .inl 2), (2, .inl f), (3, .inl i)] [.inl (-2147483648)] (sw_u σ 0 9 wr) rfl ?_
        refine sw_ireturn k_X7_get rfl rfl ?_
        exact Or.inr ⟨by omega, wr, rfl, Or.inl ⟨by omega, rfl, rfl⟩⟩
    · refine sw_blk k_X7_get 0 11 [(0, .inr (.inr 0)), (1, .inl 2), (2, .inl f), (3, .inl i)] [.inl 0] σ rfl ?_
      refine sw_if_ne k_X7_get rfl (by decide) 17 14 (by decide) rfl (fun c => absurd (by decide) c) (fun _ => ?_)
      refine sw_blk k_X7_get 1 16 [(0, .inr (.inr 0)), (1, .inl 2), (2, .inl f), (3, .inl i)] [.inl (-2147483648)] σ rfl ?_
      refine sw_ireturn k_X7_get rfl rfl ?_
      exact Or.inl ⟨by omega, rfl, rfl⟩
  · exact absurd (by decide) p1
theorem cc_read2 (σ : sw_S) (hσ : sw_gs σ) (hs0 : 0 ≤ σ 19 3) (hs1 : σ 19 3 ≤ 60) : sw_Con sw_ly sw_rho M_X7_read [.inr (.inr 0), .inl 2] σ (fun r σ' => (¬ σ 19 1 = 0 ∧ r = some (.inl (-10 - 1)) ∧ (sw_u σ 0 9 1) = σ') ∨ (σ 19 1 = 0 ∧ r = some (.inl (σ 19 3)) ∧ (sw_pf σ 13 (fun j : Nat => max 0 (min (σ 20 j) 99)) (σ 19 3).toNat) = σ')) := by
  refine sw_con (by decide) (Nat.le_of_ble_eq_true rfl) ?_
  refine sw_blk k_X7_read 1 1 [(0, .inr (.inr 0)), (1, .inl 2)] [.inl 2] σ rfl ?_
  refine sw_callS k_X7_read rfl cS_X7_isSheet ml_X7_219 ⟨by decide, by decide⟩ [.inl 2] [] rfl rfl (Nat.le_of_ble_eq_true rfl) 4 rfl (sp_isSheet σ 2 (by decide)) (fun r2 σ3 hq4 => ?_)
  obtain ⟨rfl, ⟨p1, rfl⟩ | ⟨p1, rfl⟩⟩ := hq4
  · refine sw_blk k_X7_read 0 4 [(0, .inr (.inr 0)), (1, .inl 2)] [.inl 1] σ rfl ?_
    refine sw_if_ne k_X7_read rfl (by decide) 10 7 (by decide) rfl (fun _ => ?_) (fun c => absurd c (by decide))
    refine sw_blk k_X7_read 3 15 [(0, .inr (.inr 0)), (1, .inl 2)] [.inl 2, .inr (.inr 14)] σ rfl ?_
    refine sw_aald k_X7_read rfl (i := 14) (n := 4) (r := 19) rfl (by decide) (by decide) (by decide) rfl 16 rfl ?_
    refine sw_blk k_X7_read 3 21 [(2, .inr (.inr 19)), (0, .inr (.inr 0)), (1, .inl 2)] [.inl (σ 19 1)] σ rfl ?_
    refine sw_if_eq k_X7_read rfl (hσ 19 _) 30 24 (by decide) rfl (fun c5 => ?_) (fun c5 => ?_)
    · refine sw_blk k_X7_read 6 42 [(2, .inr (.inr 19)), (0, .inr (.inr 0)), (1, .inl 2)] [.inl (σ 19 3), .inr (.inr 20), .inr (.inr 12)] σ rfl ?_
      refine sw_callV k_X7_read rfl cV_X0_take ml_X7_261 ⟨by decide, by decide⟩ 12 rfl rfl [.inr (.inr 20), .inl (σ 19 3)] [] rfl rfl (Nat.le_of_ble_eq_true rfl) 45 rfl (sp_take2 σ hσ (σ 19 3) (by omega)) (fun r6 σ7 hq8 => ?_)
      obtain ⟨rfl, rfl⟩ := hq8
      refine sw_blk k_X7_read 2 49 [(2, .inr (.inr 19)), (0, .inr (.inr 0)), (1, .inl 2)] [.inl ((sw_pf σ 13 (fun j : Nat => max 0 (min (σ 20 j) 99)) (σ 19 3).toNat) 19 3)] (sw_pf σ 13 (fun j : Nat => max 0 (min (σ 20 j) 99)) (σ 19 3).toNat) rfl ?_
      refine sw_ireturn k_X7_read rfl rfl ?_
      exact Or.inr (⟨by omega, rfl, rfl⟩)
    · refine sw_blk k_X7_read 2 26 [(2, .inr (.inr 19)), (0, .inr (.inr 0)), (1, .inl 2)] [.inl 1, .inr (.inr 0)] σ rfl ?_
      refine sw_callV k_X7_read rfl cV_X7_finding ml_X7_225 ⟨by decide, by decide⟩ 0 rfl rfl [.inl 1] [] rfl rfl (Nat.le_of_ble_eq_true rfl) 29 rfl (sp_finding σ 1) (fun r9 σ10 hq11 => ?_)
      obtain ⟨rfl, rfl⟩ := hq11
      refine sw_blk k_X7_read 0 29 [(2, .inr (.inr 19)), (0, .inr (.inr 0)), (1, .inl 2)] [.inl (-10 - 1)] (sw_u σ 0 9 1) rfl ?_
      refine sw_ireturn k_X7_read rfl rfl ?_
      exact Or.inl ⟨by omega, rfl, rfl⟩
  · exact absurd (by decide) p1
theorem cc_check2 (σ : sw_S) (hσ : sw_gs σ) (hD : 10 ≤ σ 1 0 ∧ σ 1 0 ≤ 400) (hV : 1 ≤ σ 1 1 ∧ σ 1 1 ≤ 20) (hA : 1 ≤ σ 1 2 ∧ σ 1 2 ≤ 5) (hL : ∀ x : Int, 0 ≤ x → x ≤ σ 1 0 → 1 ≤ σ 2 x.toNat ∧ σ 2 x.toNat ≤ σ 1 1) (hs0 : 0 ≤ σ 19 3) (hs1 : σ 19 3 ≤ 60) (hpl : 0 ≤ σ 5 7 ∧ σ 5 7 ≤ σ 1 0) : sw_Con sw_ly sw_rho M_X7_check [.inr (.inr 0), .inl 2] σ (fun r σ' => (¬ σ 5 9 = 0 ∧ r = some (.inl (-4)) ∧ σ = σ') ∨ ((σ 5 9 = 0 ∧ ¬ σ 19 1 = 0) ∧ r = some (.inl (-10 - 1)) ∧ sw_u σ 0 9 1 = σ') ∨ ((σ 5 9 = 0 ∧ σ 19 1 = 0) ∧ σ = σ' ∧ ∃ m : Nat, (m : Int) ≤ σ 19 3 ∧ (∀ j, j < m → sw_lw (σ 2) (σ 1 0) (σ 1 1) (σ 1 2) (σ 20) (σ 5 7) j) ∧ ((m : Int) < σ 19 3 → ¬ sw_lw (σ 2) (σ 1 0) (σ 1 1) (σ 1 2) (σ 20) (σ 5 7) m) ∧ r = some (.inl (if (m : Int) = σ 19 3 ∧ sw_abs (if σ 19 3 = 0 then 0 else σ 20 (σ 19 3 - 1).toNat) ≤ σ 1 2 then (m : Int) + 1000 else (m : Int))))) := by
  refine sw_con (by decide) (Nat.le_of_ble_eq_true rfl) ?_
  refine sw_blk k_X7_check 1 1 [(0, .inr (.inr 0)), (1, .inl 2)] [.inl 2] σ rfl ?_
  refine sw_callS k_X7_check rfl cS_X7_isSheet ml_X7_219 ⟨by decide, by decide⟩ [.inl 2] [] rfl rfl (Nat.le_of_ble_eq_true rfl) 4 rfl (sp_isSheet σ 2 (by decide)) (fun r2 σ3 hq4 => ?_)
  obtain ⟨rfl, ⟨p1, rfl⟩ | ⟨p1, rfl⟩⟩ := hq4
  · refine sw_blk k_X7_check 0 4 [(0, .inr (.inr 0)), (1, .inl 2)] [.inl 1] σ rfl ?_
    refine sw_if_ne k_X7_check rfl (by decide) 10 7 (by decide) rfl (fun _ => ?_) (fun c => absurd c (by decide))
    refine sw_blk k_X7_check 2 14 [(0, .inr (.inr 0)), (1, .inl 2)] [.inr (.inr 5)] σ rfl ?_
    refine sw_callV k_X7_check rfl cV_X6_rests ml_X7_67 ⟨by decide, by decide⟩ 5 rfl rfl [] [] rfl rfl (Nat.le_of_ble_eq_true rfl) 17 rfl (sp_rests σ  (hσ 5 _)) (fun r6 σ7 hq8 => ?_)
    obtain ⟨rfl, ⟨p5, rfl⟩ | ⟨p5, rfl⟩⟩ := hq8
    · refine sw_blk k_X7_check 0 17 [(0, .inr (.inr 0)), (1, .inl 2)] [.inl 1] σ rfl ?_
      refine sw_if_ne k_X7_check rfl (by decide) 23 20 (by decide) rfl (fun _ => ?_) (fun c => absurd c (by decide))
      refine sw_blk k_X7_check 3 28 [(0, .inr (.inr 0)), (1, .inl 2)] [.inl 2, .inr (.inr 14)] σ rfl ?_
      refine sw_aald k_X7_check rfl (i := 14) (n := 4) (r := 19) rfl (by decide) (by decide) (by decide) rfl 29 rfl ?_
      refine sw_blk k_X7_check 3 34 [(2, .inr (.inr 19)), (0, .inr (.inr 0)), (1, .inl 2)] [.inl (σ 19 1)] σ rfl ?_
      refine sw_if_eq k_X7_check rfl (hσ 19 _) 43 37 (by decide) rfl (fun c9 => ?_) (fun c9 => ?_)
      · refine sw_blk k_X7_check 9 62 [(2, .inr (.inr 19)), (0, .inr (.inr 0)), (1, .inl 2)] [.inl (σ 19 3), .inr (.inr 20), .inl (σ 5 7), .inr (.inr 1)] σ rfl ?_
        refine sw_callV k_X7_check rfl cV_X3_lawfulSpeeds ml_X7_270 ⟨by decide, by decide⟩ 1 rfl rfl [.inl (σ 5 7), .inr (.inr 20), .inl (σ 19 3)] [] rfl rfl (Nat.le_of_ble_eq_true rfl) 65 rfl (sp_lawful2 σ hσ hD hV hA hL (σ 5 7) (σ 19 3) hpl (by omega)) (fun r10 σ11 hq12 => ?_)
        obtain ⟨rfl, m, rfl, m1, m2, m3⟩ := hq12
        refine sw_blk k_X7_check 3 70 [(3, .inl (m : Int)), (2, .inr (.inr 19)), (0, .inr (.inr 0)), (1, .inl 2)] [.inl (σ 19 3)] σ rfl ?_
        refine sw_if_ne k_X7_check rfl (hσ 19 _) 77 73 (by decide) rfl (fun c13 => ?_) (fun c13 => ?_)
        · refine sw_blk k_X7_check 6 87 [(3, .inl (m : Int)), (2, .inr (.inr 19)), (0, .inr (.inr 0)), (1, .inl 2)] [.inl ((σ 19 3) - 1), .inr (.inr 20)] σ rfl ?_
          refine sw_iald k_X7_check rfl (i := 20) (n := 60) rfl (by decide) (by omega) (by omega) 88 rfl ?_
          refine sw_blk k_X7_check 4 95 [(4, .inl (σ 20 (((σ 19 3) - 1).toNat))), (3, .inl (m : Int)), (2, .inr (.inr 19)), (0, .inr (.inr 0)), (1, .inl 2)] [.inl (σ 19 3), .inl (m : Int)] σ rfl ?_
          refine sw_icmp_ne k_X7_check rfl (by omega) (hσ 19 _) 117 98 (by decide) rfl (fun c14 => ?_) (fun c14 => ?_)
          · refine sw_blk k_X7_check 3 122 [(5, .inl 0), (4, .inl (σ 20 (((σ 19 3) - 1).toNat))), (3, .inl (m : Int)), (2, .inr (.inr 19)), (0, .inr (.inr 0)), (1, .inl 2)] [.inl 0] σ rfl ?_
            refine sw_if_eq k_X7_check rfl (by decide) 133 125 (by decide) rfl (fun _ => ?_) (fun c => absurd (by decide) c)
            refine sw_blk k_X7_check 1 134 [(5, .inl 0), (4, .inl (σ 20 (((σ 19 3) - 1).toNat))), (3, .inl (m : Int)), (2, .inr (.inr 19)), (0, .inr (.inr 0)), (1, .inl 2)] [.inl (m : Int)] σ rfl ?_
            refine sw_ireturn k_X7_check rfl rfl ?_
            refine Or.inr (Or.inr ⟨by omega, rfl, m, m1, m2, m3, congrArg (fun z : Int => some (Sum.inl z)) ?_⟩)
            rw [if_neg (fun zz => ?_)]
            obtain ⟨z1, z2⟩ := zz
            first | omega | (rw [if_pos (by omega)] at z2; omega) | (rw [if_neg (by omega)] at z2; omega)
          · refine sw_blk k_X7_check 1 100 [(4, .inl (σ 20 (((σ 19 3) - 1).toNat))), (3, .inl (m : Int)), (2, .inr (.inr 19)), (0, .inr (.inr 0)), (1, .inl 2)] [.inl (σ 20 (((σ 19 3) - 1).toNat))] σ rfl ?_
            have gab : sw_g (σ 20 (((σ 19 3) - 1).toNat)) ∧ sw_g (sw_abs (σ 20 (((σ 19 3) - 1).toNat))) := by
              first
              | exact ⟨by decide, by decide⟩
              | (have hl := (m2 (σ 19 3 - 1).toNat (by omega)).2.1; constructor; exact hσ 20 _; unfold sw_abs at *; omega)
            refine sw_callS k_X7_check rfl cS_J9_abs_0f7a4 ml_X7_273 ⟨by decide, by decide⟩ [.inl (σ 20 (((σ 19 3) - 1).toNat))] [] rfl rfl (Nat.le_of_ble_eq_true rfl) 103 rfl (sp_abs σ (σ 20 (((σ 19 3) - 1).toNat)) gab.1) (fun r15 σ16 hq17 => ?_)
            obtain ⟨rfl, rfl⟩ := hq17
            refine sw_blk k_X7_check 3 110 [(4, .inl (σ 20 (((σ 19 3) - 1).toNat))), (3, .inl (m : Int)), (2, .inr (.inr 19)), (0, .inr (.inr 0)), (1, .inl 2)] [.inl (σ 1 2), .inl (sw_abs (σ 20 (((σ 19 3) - 1).toNat)))] σ rfl ?_
            refine sw_icmp_gt k_X7_check rfl gab.2 (hσ 1 _) 117 113 (by decide) rfl (fun c18 => ?_) (fun c18 => ?_)
            · refine sw_blk k_X7_check 3 122 [(5, .inl 0), (4, .inl (σ 20 (((σ 19 3) - 1).toNat))), (3, .inl (m : Int)), (2, .inr (.inr 19)), (0, .inr (.inr 0)), (1, .inl 2)] [.inl 0] σ rfl ?_
              refine sw_if_eq k_X7_check rfl (by decide) 133 125 (by decide) rfl (fun _ => ?_) (fun c => absurd (by decide) c)
              refine sw_blk k_X7_check 1 134 [(5, .inl 0), (4, .inl (σ 20 (((σ 19 3) - 1).toNat))), (3, .inl (m : Int)), (2, .inr (.inr 19)), (0, .inr (.inr 0)), (1, .inl 2)] [.inl (m : Int)] σ rfl ?_
              refine sw_ireturn k_X7_check rfl rfl ?_
              refine Or.inr (Or.inr ⟨by omega, rfl, m, m1, m2, m3, congrArg (fun z : Int => some (Sum.inl z)) ?_⟩)
              rw [if_neg (fun zz => ?_)]
              obtain ⟨z1, z2⟩ := zz
              first | omega | (rw [if_pos (by omega)] at z2; omega) | (rw [if_neg (by omega)] at z2; omega)
            · refine sw_blk k_X7_check 4 122 [(5, .inl 1), (4, .inl (σ 20 (((σ 19 3) - 1).toNat))), (3, .inl (m : Int)), (2, .inr (.inr 19)), (0, .inr (.inr 0)), (1, .inl 2)] [.inl 1] σ rfl ?_
              refine sw_if_eq k_X7_check rfl (by decide) 133 125 (by decide) rfl (fun c => absurd c (by decide)) (fun _ => ?_)
              refine sw_blk k_X7_check 4 134 [(5, .inl 1), (4, .inl (σ 20 (((σ 19 3) - 1).toNat))), (3, .inl (m : Int)), (2, .inr (.inr 19)), (0, .inr (.inr 0)), (1, .inl 2)] [.inl ((m : Int) + 1000)] σ rfl ?_
              refine sw_ireturn k_X7_check rfl rfl ?_
              refine Or.inr (Or.inr ⟨by omega, rfl, m, m1, m2, m3, congrArg (fun z : Int => some (Sum.inl z)) ?_⟩)
              rw [if_pos ⟨by omega, by first | (rw [if_pos (by omega)]; omega) | (rw [if_neg (by omega)]; omega)⟩]
        · refine sw_blk k_X7_check 6 95 [(4, .inl 0), (3, .inl (m : Int)), (2, .inr (.inr 19)), (0, .inr (.inr 0)), (1, .inl 2)] [.inl (σ 19 3), .inl (m : Int)] σ rfl ?_
          refine sw_icmp_ne k_X7_check rfl (by omega) (hσ 19 _) 117 98 (by decide) rfl (fun c19 => ?_) (fun c19 => ?_)
          · refine sw_blk k_X7_check 3 122 [(5, .inl 0), (4, .inl 0), (3, .inl (m : Int)), (2, .inr (.inr 19)), (0, .inr (.inr 0)), (1, .inl 2)] [.inl 0] σ rfl ?_
            refine sw_if_eq k_X7_check rfl (by decide) 133 125 (by decide) rfl (fun _ => ?_) (fun c => absurd (by decide) c)
            refine sw_blk k_X7_check 1 134 [(5, .inl 0), (4, .inl 0), (3, .inl (m : Int)), (2, .inr (.inr 19)), (0, .inr (.inr 0)), (1, .inl 2)] [.inl (m : Int)] σ rfl ?_
            refine sw_ireturn k_X7_check rfl rfl ?_
            refine Or.inr (Or.inr ⟨by omega, rfl, m, m1, m2, m3, congrArg (fun z : Int => some (Sum.inl z)) ?_⟩)
            rw [if_neg (fun zz => ?_)]
            obtain ⟨z1, z2⟩ := zz
            first | omega | (rw [if_pos (by omega)] at z2; omega) | (rw [if_neg (by omega)] at z2; omega)
          · refine sw_blk k_X7_check 1 100 [(4, .inl 0), (3, .inl (m : Int)), (2, .inr (.inr 19)), (0, .inr (.inr 0)), (1, .inl 2)] [.inl 0] σ rfl ?_
            have gab : sw_g 0 ∧ sw_g (sw_abs 0) := by
              first
              | exact ⟨by decide, by decide⟩
              | (have hl := (m2 (σ 19 3 - 1).toNat (by omega)).2.1; constructor; exact hσ 20 _; unfold sw_abs at *; omega)
            refine sw_callS k_X7_check rfl cS_J9_abs_0f7a4 ml_X7_273 ⟨by decide, by decide⟩ [.inl 0] [] rfl rfl (Nat.le_of_ble_eq_true rfl) 103 rfl (sp_abs σ 0 gab.1) (fun r20 σ21 hq22 => ?_)
            obtain ⟨rfl, rfl⟩ := hq22
            refine sw_blk k_X7_check 3 110 [(4, .inl 0), (3, .inl (m : Int)), (2, .inr (.inr 19)), (0, .inr (.inr 0)), (1, .inl 2)] [.inl (σ 1 2), .inl (sw_abs 0)] σ rfl ?_
            refine sw_icmp_gt k_X7_check rfl gab.2 (hσ 1 _) 117 113 (by decide) rfl (fun c23 => ?_) (fun c23 => ?_)
            · refine sw_blk k_X7_check 3 122 [(5, .inl 0), (4, .inl 0), (3, .inl (m : Int)), (2, .inr (.inr 19)), (0, .inr (.inr 0)), (1, .inl 2)] [.inl 0] σ rfl ?_
              refine sw_if_eq k_X7_check rfl (by decide) 133 125 (by decide) rfl (fun _ => ?_) (fun c => absurd (by decide) c)
              refine sw_blk k_X7_check 1 134 [(5, .inl 0), (4, .inl 0), (3, .inl (m : Int)), (2, .inr (.inr 19)), (0, .inr (.inr 0)), (1, .inl 2)] [.inl (m : Int)] σ rfl ?_
              refine sw_ireturn k_X7_check rfl rfl ?_
              refine Or.inr (Or.inr ⟨by omega, rfl, m, m1, m2, m3, congrArg (fun z : Int => some (Sum.inl z)) ?_⟩)
              rw [if_neg (fun zz => ?_)]
              obtain ⟨z1, z2⟩ := zz
              first | omega | (rw [if_pos (by omega)] at z2; omega) | (rw [if_neg (by omega)] at z2; omega)
            · refine sw_blk k_X7_check 4 122 [(5, .inl 1), (4, .inl 0), (3, .inl (m : Int)), (2, .inr (.inr 19)), (0, .inr (.inr 0)), (1, .inl 2)] [.inl 1] σ rfl ?_
              refine sw_if_eq k_X7_check rfl (by decide) 133 125 (by decide) rfl (fun c => absurd c (by decide)) (fun _ => ?_)
              refine sw_blk k_X7_check 4 134 [(5, .inl 1), (4, .inl 0), (3, .inl (m : Int)), (2, .inr (.inr 19)), (0, .inr (.inr 0)), (1, .inl 2)] [.inl ((m : Int) + 1000)] σ rfl ?_
              refine sw_ireturn k_X7_check rfl rfl ?_
              refine Or.inr (Or.inr ⟨by omega, rfl, m, m1, m2, m3, congrArg (fun z : Int => some (Sum.inl z)) ?_⟩)
              rw [if_pos ⟨by omega, by first | (rw [if_pos (by omega)]; omega) | (rw [if_neg (by omega)]; omega)⟩]
      · refine sw_blk k_X7_check 2 39 [(2, .inr (.inr 19)), (0, .inr (.inr 0)), (1, .inl 2)] [.inl 1, .inr (.inr 0)] σ rfl ?_
        refine sw_callV k_X7_check rfl cV_X7_finding ml_X7_225 ⟨by decide, by decide⟩ 0 rfl rfl [.inl 1] [] rfl rfl (Nat.le_of_ble_eq_true rfl) 42 rfl (sp_finding σ 1) (fun r24 σ25 hq26 => ?_)
        obtain ⟨rfl, rfl⟩ := hq26
        refine sw_blk k_X7_check 0 42 [(2, .inr (.inr 19)), (0, .inr (.inr 0)), (1, .inl 2)] [.inl (-10 - 1)] (sw_u σ 0 9 1) rfl ?_
        refine sw_ireturn k_X7_check rfl rfl ?_
        exact Or.inr (Or.inl ⟨by omega, rfl, rfl⟩)
    · refine sw_blk k_X7_check 0 17 [(0, .inr (.inr 0)), (1, .inl 2)] [.inl 0] σ rfl ?_
      refine sw_if_ne k_X7_check rfl (by decide) 23 20 (by decide) rfl (fun c => absurd (by decide) c) (fun _ => ?_)
      refine sw_blk k_X7_check 1 22 [(0, .inr (.inr 0)), (1, .inl 2)] [.inl (-4)] σ rfl ?_
      refine sw_ireturn k_X7_check rfl rfl ?_
      exact Or.inl ⟨by omega, rfl, rfl⟩
  · exact absurd (by decide) p1
theorem cc_sheet3 (σ : sw_S) (f k : Int) (gf : sw_g f) (gk : sw_g k) : sw_Con sw_ly sw_rho M_X7_sheet [.inr (.inr 0), .inl 3, .inl f, .inl k] σ (fun r σ' => (¬ ((0 ≤ f ∧ f ≤ 2) ∧ k ≤ 60) ∧ r = some (.inl (-2)) ∧ σ = σ') ∨ ((((0 ≤ f ∧ f ≤ 2) ∧ k ≤ 60) ∧ k < 0) ∧ r = some (.inl (-10 - 5)) ∧ (sw_u σ 0 9 5) = σ') ∨ ((((0 ≤ f ∧ f ≤ 2) ∧ k ≤ 60) ∧ 0 ≤ k) ∧ r = some (.inl (k)) ∧ (sw_fl (sw_u (sw_u (sw_u σ 21 2 f) 21 3 k) 21 1 0) 22 60 0) = σ')) := by
  refine sw_con (by decide) (Nat.le_of_ble_eq_true rfl) ?_
  refine sw_blk k_X7_sheet 1 1 [(0, .inr (.inr 0)), (1, .inl 3), (2, .inl f), (3, .inl k)] [.inl 3] σ rfl ?_
  refine sw_callS k_X7_sheet rfl cS_X7_isSheet ml_X7_219 ⟨by decide, by decide⟩ [.inl 3] [] rfl rfl (Nat.le_of_ble_eq_true rfl) 4 rfl (sp_isSheet σ 3 (by decide)) (fun r2 σ3 hq4 => ?_)
  obtain ⟨rfl, ⟨p1, rfl⟩ | ⟨p1, rfl⟩⟩ := hq4
  · refine sw_blk k_X7_sheet 0 4 [(0, .inr (.inr 0)), (1, .inl 3), (2, .inl f), (3, .inl k)] [.inl 1] σ rfl ?_
    refine sw_if_eq k_X7_sheet rfl (by decide) 20 7 (by decide) rfl (fun c => absurd c (by decide)) (fun _ => ?_)
    refine sw_blk k_X7_sheet 1 8 [(0, .inr (.inr 0)), (1, .inl 3), (2, .inl f), (3, .inl k)] [.inl f] σ rfl ?_
    refine sw_callS k_X7_sheet rfl cS_X7_isForm ml_X7_222 ⟨by decide, by decide⟩ [.inl f] [] rfl rfl (Nat.le_of_ble_eq_true rfl) 11 rfl (sp_isForm σ f (by omega)) (fun r6 σ7 hq8 => ?_)
    obtain ⟨rfl, ⟨p5, rfl⟩ | ⟨p5, rfl⟩⟩ := hq8
    · refine sw_blk k_X7_sheet 0 11 [(0, .inr (.inr 0)), (1, .inl 3), (2, .inl f), (3, .inl k)] [.inl 1] σ rfl ?_
      refine sw_if_eq k_X7_sheet rfl (by decide) 20 14 (by decide) rfl (fun c => absurd c (by decide)) (fun _ => ?_)
      refine sw_blk k_X7_sheet 2 17 [(0, .inr (.inr 0)), (1, .inl 3), (2, .inl f), (3, .inl k)] [.inl 60, .inl k] σ rfl ?_
      refine sw_icmp_le k_X7_sheet rfl (by omega) (by decide) 23 20 (by decide) rfl (fun c9 => ?_) (fun c9 => ?_)
      · refine sw_blk k_X7_sheet 1 24 [(0, .inr (.inr 0)), (1, .inl 3), (2, .inl f), (3, .inl k)] [.inl k] σ rfl ?_
        refine sw_if_ge k_X7_sheet rfl (by omega) 33 27 (by decide) rfl (fun c10 => ?_) (fun c10 => ?_)
        · refine sw_blk k_X7_sheet 3 38 [(0, .inr (.inr 0)), (1, .inl 3), (2, .inl f), (3, .inl k)] [.inl 3, .inr (.inr 14)] σ rfl ?_
          refine sw_aald k_X7_sheet rfl (i := 14) (n := 4) (r := 21) rfl (by decide) (by decide) (by decide) rfl 39 rfl ?_
          refine sw_blk k_X7_sheet 2 41 [(0, .inr (.inr 0)), (1, .inl 3), (2, .inl f), (3, .inl k)] [.inl k, .inl f, .inr (.inr 21)] σ rfl ?_
          refine sw_callV k_X7_sheet rfl cV_X4_renew ml_X7_228 ⟨by decide, by decide⟩ 21 rfl rfl [.inl f, .inl k] [] rfl rfl (Nat.le_of_ble_eq_true rfl) 44 rfl (sp_srenew3 σ f k) (fun r11 σ12 hq13 => ?_)
          obtain ⟨rfl, rfl⟩ := hq13
          refine sw_blk k_X7_sheet 1 45 [(0, .inr (.inr 0)), (1, .inl 3), (2, .inl f), (3, .inl k)] [.inl k] (sw_fl (sw_u (sw_u (sw_u σ 21 2 f) 21 3 k) 21 1 0) 22 60 0) rfl ?_
          refine sw_ireturn k_X7_sheet rfl rfl ?_
          exact Or.inr (Or.inr (⟨by omega, rfl, rfl⟩))
        · refine sw_blk k_X7_sheet 2 29 [(0, .inr (.inr 0)), (1, .inl 3), (2, .inl f), (3, .inl k)] [.inl 5, .inr (.inr 0)] σ rfl ?_
          refine sw_callV k_X7_sheet rfl cV_X7_finding ml_X7_225 ⟨by decide, by decide⟩ 0 rfl rfl [.inl 5] [] rfl rfl (Nat.le_of_ble_eq_true rfl) 32 rfl (sp_finding σ 5) (fun r14 σ15 hq16 => ?_)
          obtain ⟨rfl, rfl⟩ := hq16
          refine sw_blk k_X7_sheet 0 32 [(0, .inr (.inr 0)), (1, .inl 3), (2, .inl f), (3, .inl k)] [.inl (-10 - 5)] (sw_u σ 0 9 5) rfl ?_
          refine sw_ireturn k_X7_sheet rfl rfl ?_
          exact Or.inr (Or.inl ⟨by omega, rfl, rfl⟩)
      · refine sw_blk k_X7_sheet 1 22 [(0, .inr (.inr 0)), (1, .inl 3), (2, .inl f), (3, .inl k)] [.inl (-2)] σ rfl ?_
        refine sw_ireturn k_X7_sheet rfl rfl ?_
        exact Or.inl ⟨by omega, rfl, rfl⟩
    · refine sw_blk k_X7_sheet 0 11 [(0, .inr (.inr 0)), (1, .inl 3), (2, .inl f), (3, .inl k)] [.inl 0] σ rfl ?_
      refine sw_if_eq k_X7_sheet rfl (by decide) 20 14 (by decide) rfl (fun _ => ?_) (fun c => absurd (by decide) c)
      refine sw_blk k_X7_sheet 1 22 [(0, .inr (.inr 0)), (1, .inl 3), (2, .inl f), (3, .inl k)] [.inl (-2)] σ rfl ?_
      refine sw_ireturn k_X7_sheet rfl rfl ?_
      exact Or.inl ⟨by omega, rfl, rfl⟩
  · exact absurd (by decide) p1
theorem cc_lose3 (σ : sw_S) (hσ : sw_gs σ) : sw_Con sw_ly sw_rho M_X7_lose [.inr (.inr 0), .inl 3] σ (fun r σ' => (¬ σ 21 1 = 0 ∧ r = some (.inl (-10 - 1)) ∧ (sw_u σ 0 9 1) = σ') ∨ (σ 21 1 = 0 ∧ r = some (.inl (σ 21 3)) ∧ (sw_u σ 21 1 1) = σ')) := by
  refine sw_con (by decide) (Nat.le_of_ble_eq_true rfl) ?_
  refine sw_blk k_X7_lose 1 1 [(0, .inr (.inr 0)), (1, .inl 3)] [.inl 3] σ rfl ?_
  refine sw_callS k_X7_lose rfl cS_X7_isSheet ml_X7_219 ⟨by decide, by decide⟩ [.inl 3] [] rfl rfl (Nat.le_of_ble_eq_true rfl) 4 rfl (sp_isSheet σ 3 (by decide)) (fun r2 σ3 hq4 => ?_)
  obtain ⟨rfl, ⟨p1, rfl⟩ | ⟨p1, rfl⟩⟩ := hq4
  · refine sw_blk k_X7_lose 0 4 [(0, .inr (.inr 0)), (1, .inl 3)] [.inl 1] σ rfl ?_
    refine sw_if_ne k_X7_lose rfl (by decide) 10 7 (by decide) rfl (fun _ => ?_) (fun c => absurd c (by decide))
    refine sw_blk k_X7_lose 3 15 [(0, .inr (.inr 0)), (1, .inl 3)] [.inl 3, .inr (.inr 14)] σ rfl ?_
    refine sw_aald k_X7_lose rfl (i := 14) (n := 4) (r := 21) rfl (by decide) (by decide) (by decide) rfl 16 rfl ?_
    refine sw_blk k_X7_lose 3 21 [(2, .inr (.inr 21)), (0, .inr (.inr 0)), (1, .inl 3)] [.inl (σ 21 1)] σ rfl ?_
    refine sw_if_eq k_X7_lose rfl (hσ 21 _) 30 24 (by decide) rfl (fun c5 => ?_) (fun c5 => ?_)
    · refine sw_blk k_X7_lose 5 39 [(2, .inr (.inr 21)), (0, .inr (.inr 0)), (1, .inl 3)] [.inl (σ 21 3)] (sw_u σ 21 1 1) rfl ?_
      refine sw_ireturn k_X7_lose rfl rfl ?_
      exact Or.inr (⟨by omega, rfl, rfl⟩)
    · refine sw_blk k_X7_lose 2 26 [(2, .inr (.inr 21)), (0, .inr (.inr 0)), (1, .inl 3)] [.inl 1, .inr (.inr 0)] σ rfl ?_
      refine sw_callV k_X7_lose rfl cV_X7_finding ml_X7_225 ⟨by decide, by decide⟩ 0 rfl rfl [.inl 1] [] rfl rfl (Nat.le_of_ble_eq_true rfl) 29 rfl (sp_finding σ 1) (fun r6 σ7 hq8 => ?_)
      obtain ⟨rfl, rfl⟩ := hq8
      refine sw_blk k_X7_lose 0 29 [(2, .inr (.inr 21)), (0, .inr (.inr 0)), (1, .inl 3)] [.inl (-10 - 1)] (sw_u σ 0 9 1) rfl ?_
      refine sw_ireturn k_X7_lose rfl rfl ?_
      exact Or.inl ⟨by omega, rfl, rfl⟩
  · exact absurd (by decide) p1
theorem cc_put3 (σ : sw_S) (hσ : sw_gs σ) (hs0 : 0 ≤ σ 21 3) (hs1 : σ 21 3 ≤ 60) (hfm : 0 ≤ σ 21 2 ∧ σ 21 2 ≤ 2) (f i v : Int) (gf : sw_g f) (gi : sw_g i) (gv : sw_g v) : sw_Con sw_ly sw_rho M_X7_put [.inr (.inr 0), .inl 3, .inl f, .inl i, .inl v] σ (fun r σ' => (¬ (0 ≤ f ∧ f ≤ 2) ∧ r = some (.inl (-2)) ∧ σ = σ') ∨ ((0 ≤ f ∧ f ≤ 2) ∧ ∃ wr : Int, (if σ 21 1 = 0 then (if σ 21 2 = f then (if 0 ≤ i ∧ i < σ 21 3 then (0 : Int) else 2) else 3) else 1) = wr ∧ ((¬ wr = 0 ∧ r = some (.inl (-10 - wr)) ∧ sw_u σ 0 9 wr = σ') ∨ (wr = 0 ∧ r = some (.inl 1) ∧ sw_u σ 22 i.toNat (sw_cv (σ 21 2) v) = σ')))) := by
  refine sw_con (by decide) (Nat.le_of_ble_eq_true rfl) ?_
  refine sw_blk k_X7_put 1 1 [(0, .inr (.inr 0)), (1, .inl 3), (2, .inl f), (3, .inl i), (4, .inl v)] [.inl 3] σ rfl ?_
  refine sw_callS k_X7_put rfl cS_X7_isSheet ml_X7_219 ⟨by decide, by decide⟩ [.inl 3] [] rfl rfl (Nat.le_of_ble_eq_true rfl) 4 rfl (sp_isSheet σ 3 (by decide)) (fun r2 σ3 hq4 => ?_)
  obtain ⟨rfl, ⟨p1, rfl⟩ | ⟨p1, rfl⟩⟩ := hq4
  · refine sw_blk k_X7_put 0 4 [(0, .inr (.inr 0)), (1, .inl 3), (2, .inl f), (3, .inl i), (4, .inl v)] [.inl 1] σ rfl ?_
    refine sw_if_eq k_X7_put rfl (by decide) 14 7 (by decide) rfl (fun c => absurd c (by decide)) (fun _ => ?_)
    refine sw_blk k_X7_put 1 8 [(0, .inr (.inr 0)), (1, .inl 3), (2, .inl f), (3, .inl i), (4, .inl v)] [.inl f] σ rfl ?_
    refine sw_callS k_X7_put rfl cS_X7_isForm ml_X7_222 ⟨by decide, by decide⟩ [.inl f] [] rfl rfl (Nat.le_of_ble_eq_true rfl) 11 rfl (sp_isForm σ f (by omega)) (fun r6 σ7 hq8 => ?_)
    obtain ⟨rfl, ⟨p5, rfl⟩ | ⟨p5, rfl⟩⟩ := hq8
    · refine sw_blk k_X7_put 0 11 [(0, .inr (.inr 0)), (1, .inl 3), (2, .inl f), (3, .inl i), (4, .inl v)] [.inl 1] σ rfl ?_
      refine sw_if_ne k_X7_put rfl (by decide) 17 14 (by decide) rfl (fun _ => ?_) (fun c => absurd c (by decide))
      refine sw_blk k_X7_put 3 22 [(0, .inr (.inr 0)), (1, .inl 3), (2, .inl f), (3, .inl i), (4, .inl v)] [.inl 3, .inr (.inr 14)] σ rfl ?_
      refine sw_aald k_X7_put rfl (i := 14) (n := 4) (r := 21) rfl (by decide) (by decide) (by decide) rfl 23 rfl ?_
      refine sw_blk k_X7_put 4 29 [(5, .inr (.inr 21)), (0, .inr (.inr 0)), (1, .inl 3), (2, .inl f), (3, .inl i), (4, .inl v)] [.inl i, .inl f, .inr (.inr 21)] σ rfl ?_
      refine sw_callS k_X7_put rfl cS_X7_wrongOfItem ml_X7_237 ⟨by decide, by decide⟩ [.inr (.inr 21), .inl f, .inl i] [] rfl rfl (Nat.le_of_ble_eq_true rfl) 32 rfl (sp_wrong3 σ hσ f i (by omega) (by omega) hs0 hs1) (fun r9 σ10 hq11 => ?_)
      obtain ⟨rfl, rfl⟩ := hq11
      generalize hwr : (if σ 21 1 = 0 then (if σ 21 2 = f then (if 0 ≤ i ∧ i < σ 21 3 then (0 : Int) else 2) else 3) else 1) = wr
      have gwr : 0 ≤ wr ∧ wr ≤ 3 := by omega
      refine sw_blk k_X7_put 2 36 [(6, .inl wr), (5, .inr (.inr 21)), (0, .inr (.inr 0)), (1, .inl 3), (2, .inl f), (3, .inl i), (4, .inl v)] [.inl wr] σ rfl ?_
      refine sw_if_eq k_X7_put rfl (by omega) 46 39 (by decide) rfl (fun c12 => ?_) (fun c12 => ?_)
      · refine sw_blk k_X7_put 3 51 [(6, .inl wr), (5, .inr (.inr 21)), (0, .inr (.inr 0)), (1, .inl 3), (2, .inl f), (3, .inl i), (4, .inl v)] [.inl v, .inl i, .inr (.inr 21)] σ rfl ?_
        refine sw_callV k_X7_put rfl cV_X4_store ml_X7_241 ⟨by decide, by decide⟩ 21 rfl rfl [.inl i, .inl v] [] rfl rfl (Nat.le_of_ble_eq_true rfl) 54 rfl (sp_store3 σ hσ i v (by omega) hfm) (fun r13 σ14 hq15 => ?_)
        obtain ⟨rfl, rfl⟩ := hq15
        refine sw_blk k_X7_put 1 55 [(6, .inl wr), (5, .inr (.inr 21)), (0, .inr (.inr 0)), (1, .inl 3), (2, .inl f), (3, .inl i), (4, .inl v)] [.inl 1] (sw_u σ 22 i.toNat (if σ 21 2 = 0 then sw_b v else if σ 21 2 = 1 then sw_h v else v)) rfl ?_
        refine sw_ireturn k_X7_put rfl rfl ?_
        exact Or.inr ⟨by omega, wr, rfl, Or.inr ⟨by omega, rfl, rfl⟩⟩
      · refine sw_blk k_X7_put 2 42 [(6, .inl wr), (5, .inr (.inr 21)), (0, .inr (.inr 0)), (1, .inl 3), (2, .inl f), (3, .inl i), (4, .inl v)] [.inl wr, .inr (.inr 0)] σ rfl ?_
        refine sw_callV k_X7_put rfl cV_X7_finding ml_X7_225 ⟨by decide, by decide⟩ 0 rfl rfl [.inl wr] [] rfl rfl (Nat.le_of_ble_eq_true rfl) 45 rfl (sp_finding σ wr) (fun r16 σ17 hq18 => ?_)
        obtain ⟨rfl, rfl⟩ := hq18
        refine sw_blk k_X7_put 0 45 [(6, .inl wr), (5, .inr (.inr 21)), (0, .inr (.inr 0)), (1, .inl 3), (2, .inl f), (3, .inl i), (4, .inl v)] [.inl (-10 - wr)] (sw_u σ 0 9 wr) rfl ?_
        refine sw_ireturn k_X7_put rfl rfl ?_
        exact Or.inr ⟨by omega, wr, rfl, Or.inl ⟨by omega, rfl, rfl⟩⟩
    · refine sw_blk k_X7_put 0 11 [(0, .inr (.inr 0)), (1, .inl 3), (2, .inl f), (3, .inl i), (4, .inl v)] [.inl 0] σ rfl ?_
      refine sw_if_ne k_X7_put rfl (by decide) 17 14 (by decide) rfl (fun c => absurd (by decide) c) (fun _ => ?_)
      refine sw_blk k_X7_put 1 16 [(0, .inr (.inr 0)), (1, .inl 3), (2, .inl f), (3, .inl i), (4, .inl v)] [.inl (-2)] σ rfl ?_
      refine sw_ireturn k_X7_put rfl rfl ?_
      exact Or.inl ⟨by omega, rfl, rfl⟩
  · exact absurd (by decide) p1
theorem cc_get3 (σ : sw_S) (hσ : sw_gs σ) (hs0 : 0 ≤ σ 21 3) (hs1 : σ 21 3 ≤ 60) (f i : Int) (gf : sw_g f) (gi : sw_g i) : sw_Con sw_ly sw_rho M_X7_get [.inr (.inr 0), .inl 3, .inl f, .inl i] σ (fun r σ' => (¬ (0 ≤ f ∧ f ≤ 2) ∧ r = some (.inl (-2147483648)) ∧ σ = σ') ∨ ((0 ≤ f ∧ f ≤ 2) ∧ ∃ wr : Int, (if σ 21 1 = 0 then (if σ 21 2 = f then (if 0 ≤ i ∧ i < σ 21 3 then (0 : Int) else 2) else 3) else 1) = wr ∧ ((¬ wr = 0 ∧ r = some (.inl (-2147483648)) ∧ sw_u σ 0 9 wr = σ') ∨ (wr = 0 ∧ r = some (.inl (σ 22 i.toNat)) ∧ σ = σ')))) := by
  refine sw_con (by decide) (Nat.le_of_ble_eq_true rfl) ?_
  refine sw_blk k_X7_get 1 1 [(0, .inr (.inr 0)), (1, .inl 3), (2, .inl f), (3, .inl i)] [.inl 3] σ rfl ?_
  refine sw_callS k_X7_get rfl cS_X7_isSheet ml_X7_219 ⟨by decide, by decide⟩ [.inl 3] [] rfl rfl (Nat.le_of_ble_eq_true rfl) 4 rfl (sp_isSheet σ 3 (by decide)) (fun r2 σ3 hq4 => ?_)
  obtain ⟨rfl, ⟨p1, rfl⟩ | ⟨p1, rfl⟩⟩ := hq4
  · refine sw_blk k_X7_get 0 4 [(0, .inr (.inr 0)), (1, .inl 3), (2, .inl f), (3, .inl i)] [.inl 1] σ rfl ?_
    refine sw_if_eq k_X7_get rfl (by decide) 14 7 (by decide) rfl (fun c => absurd c (by decide)) (fun _ => ?_)
    refine sw_blk k_X7_get 1 8 [(0, .inr (.inr 0)), (1, .inl 3), (2, .inl f), (3, .inl i)] [.inl f] σ rfl ?_
    refine sw_callS k_X7_get rfl cS_X7_isForm ml_X7_222 ⟨by decide, by decide⟩ [.inl f] [] rfl rfl (Nat.le_of_ble_eq_true rfl) 11 rfl (sp_isForm σ f (by omega)) (fun r6 σ7 hq8 => ?_)
    obtain ⟨rfl, ⟨p5, rfl⟩ | ⟨p5, rfl⟩⟩ := hq8
    · refine sw_blk k_X7_get 0 11 [(0, .inr (.inr 0)), (1, .inl 3), (2, .inl f), (3, .inl i)] [.inl 1] σ rfl ?_
      refine sw_if_ne k_X7_get rfl (by decide) 17 14 (by decide) rfl (fun _ => ?_) (fun c => absurd c (by decide))
      refine sw_blk k_X7_get 3 22 [(0, .inr (.inr 0)), (1, .inl 3), (2, .inl f), (3, .inl i)] [.inl 3, .inr (.inr 14)] σ rfl ?_
      refine sw_aald k_X7_get rfl (i := 14) (n := 4) (r := 21) rfl (by decide) (by decide) (by decide) rfl 23 rfl ?_
      refine sw_blk k_X7_get 4 29 [(4, .inr (.inr 21)), (0, .inr (.inr 0)), (1, .inl 3), (2, .inl f), (3, .inl i)] [.inl i, .inl f, .inr (.inr 21)] σ rfl ?_
      refine sw_callS k_X7_get rfl cS_X7_wrongOfItem ml_X7_237 ⟨by decide, by decide⟩ [.inr (.inr 21), .inl f, .inl i] [] rfl rfl (Nat.le_of_ble_eq_true rfl) 32 rfl (sp_wrong3 σ hσ f i (by omega) (by omega) hs0 hs1) (fun r9 σ10 hq11 => ?_)
      obtain ⟨rfl, rfl⟩ := hq11
      generalize hwr : (if σ 21 1 = 0 then (if σ 21 2 = f then (if 0 ≤ i ∧ i < σ 21 3 then (0 : Int) else 2) else 3) else 1) = wr
      have gwr : 0 ≤ wr ∧ wr ≤ 3 := by omega
      refine sw_blk k_X7_get 2 36 [(5, .inl wr), (4, .inr (.inr 21)), (0, .inr (.inr 0)), (1, .inl 3), (2, .inl f), (3, .inl i)] [.inl wr] σ rfl ?_
      refine sw_if_eq k_X7_get rfl (by omega) 48 39 (by decide) rfl (fun c12 => ?_) (fun c12 => ?_)
      · refine sw_blk k_X7_get 3 54 [(5, .inl wr), (4, .inr (.inr 21)), (0, .inr (.inr 0)), (1, .inl 3), (2, .inl f), (3, .inl i)] [.inl i, .inr (.inr 22)] σ rfl ?_
        refine sw_iald k_X7_get rfl (i := 22) (n := 60) rfl (by decide) (by omega) (by omega) 55 rfl ?_
        refine sw_blk k_X7_get 0 55 [(5, .inl wr), (4, .inr (.inr 21)), (0, .inr (.inr 0)), (1, .inl 3), (2, .inl f), (3, .inl i)] [.inl (σ 22 i.toNat)] σ rfl ?_
        refine sw_ireturn k_X7_get rfl rfl ?_
        exact Or.inr ⟨by omega, wr, rfl, Or.inr ⟨by omega, rfl, rfl⟩⟩
      · refine sw_blk k_X7_get 4 47 [(5, .inl wr), (4, .inr (.inr 21)), (0, .inr (.inr 0)), (1, .inl 3), (2, .inl f), (3, .inl i)] [.inl (-2147483648)] (sw_u σ 0 9 wr) rfl ?_
        refine sw_ireturn k_X7_get rfl rfl ?_
        exact Or.inr ⟨by omega, wr, rfl, Or.inl ⟨by omega, rfl, rfl⟩⟩
    · refine sw_blk k_X7_get 0 11 [(0, .inr (.inr 0)), (1, .inl 3), (2, .inl f), (3, .inl i)] [.inl 0] σ rfl ?_
      refine sw_if_ne k_X7_get rfl (by decide) 17 14 (by decide) rfl (fun c => absurd (by decide) c) (fun _ => ?_)
      refine sw_blk k_X7_get 1 16 [(0, .inr (.inr 0)), (1, .inl 3), (2, .inl f), (3, .inl i)] [.inl (-2147483648)] σ rfl ?_
      refine sw_ireturn k_X7_get rfl rfl ?_
      exact Or.inl ⟨by omega, rfl, rfl⟩
  · exact absurd (by decide) p1
theorem cc_read3 (σ : sw_S) (hσ : sw_gs σ) (hs0 : 0 ≤ σ 21 3) (hs1 : σ 21 3 ≤ 60) : sw_Con sw_ly sw_rho M_X7_read [.inr (.inr 0), .inl 3] σ (fun r σ' => (¬ σ 21 1 = 0 ∧ r = some (.inl (-10 - 1)) ∧ (sw_u σ 0 9 1) = σ') ∨ (σ 21 1 = 0 ∧ r = some (.inl (σ 21 3)) ∧ (sw_pf σ 13 (fun j : Nat => max 0 (min (σ 22 j) 99)) (σ 21 3).toNat) = σ')) := by
  refine sw_con (by decide) (Nat.le_of_ble_eq_true rfl) ?_
  refine sw_blk k_X7_read 1 1 [(0, .inr (.inr 0)), (1, .inl 3)] [.inl 3] σ rfl ?_
  refine sw_callS k_X7_read rfl cS_X7_isSheet ml_X7_219 ⟨by decide, by decide⟩ [.inl 3] [] rfl rfl (Nat.le_of_ble_eq_true rfl) 4 rfl (sp_isSheet σ 3 (by decide)) (fun r2 σ3 hq4 => ?_)
  obtain ⟨rfl, ⟨p1, rfl⟩ | ⟨p1, rfl⟩⟩ := hq4
  · refine sw_blk k_X7_read 0 4 [(0, .inr (.inr 0)), (1, .inl 3)] [.inl 1] σ rfl ?_
    refine sw_if_ne k_X7_read rfl (by decide) 10 7 (by decide) rfl (fun _ => ?_) (fun c => absurd c (by decide))
    refine sw_blk k_X7_read 3 15 [(0, .inr (.inr 0)), (1, .inl 3)] [.inl 3, .inr (.inr 14)] σ rfl ?_
    refine sw_aald k_X7_read rfl (i := 14) (n := 4) (r := 21) rfl (by decide) (by decide) (by decide) rfl 16 rfl ?_
    refine sw_blk k_X7_read 3 21 [(2, .inr (.inr 21)), (0, .inr (.inr 0)), (1, .inl 3)] [.inl (σ 21 1)] σ rfl ?_
    refine sw_if_eq k_X7_read rfl (hσ 21 _) 30 24 (by decide) rfl (fun c5 => ?_) (fun c5 => ?_)
    · refine sw_blk k_X7_read 6 42 [(2, .inr (.inr 21)), (0, .inr (.inr 0)), (1, .inl 3)] [.inl (σ 21 3), .inr (.inr 22), .inr (.inr 12)] σ rfl ?_
      refine sw_callV k_X7_read rfl cV_X0_take ml_X7_261 ⟨by decide, by decide⟩ 12 rfl rfl [.inr (.inr 22), .inl (σ 21 3)] [] rfl rfl (Nat.le_of_ble_eq_true rfl) 45 rfl (sp_take3 σ hσ (σ 21 3) (by omega)) (fun r6 σ7 hq8 => ?_)
      obtain ⟨rfl, rfl⟩ := hq8
      refine sw_blk k_X7_read 2 49 [(2, .inr (.inr 21)), (0, .inr (.inr 0)), (1, .inl 3)] [.inl ((sw_pf σ 13 (fun j : Nat => max 0 (min (σ 22 j) 99)) (σ 21 3).toNat) 21 3)] (sw_pf σ 13 (fun j : Nat => max 0 (min (σ 22 j) 99)) (σ 21 3).toNat) rfl ?_
      refine sw_ireturn k_X7_read rfl rfl ?_
      exact Or.inr (⟨by omega, rfl, rfl⟩)
    · refine sw_blk k_X7_read 2 26 [(2, .inr (.inr 21)), (0, .inr (.inr 0)), (1, .inl 3)] [.inl 1, .inr (.inr 0)] σ rfl ?_
      refine sw_callV k_X7_read rfl cV_X7_finding ml_X7_225 ⟨by decide, by decide⟩ 0 rfl rfl [.inl 1] [] rfl rfl (Nat.le_of_ble_eq_true rfl) 29 rfl (sp_finding σ 1) (fun r9 σ10 hq11 => ?_)
      obtain ⟨rfl, rfl⟩ := hq11
      refine sw_blk k_X7_read 0 29 [(2, .inr (.inr 21)), (0, .inr (.inr 0)), (1, .inl 3)] [.inl (-10 - 1)] (sw_u σ 0 9 1) rfl ?_
      refine sw_ireturn k_X7_read rfl rfl ?_
      exact Or.inl ⟨by omega, rfl, rfl⟩
  · exact absurd (by decide) p1
theorem cc_check3 (σ : sw_S) (hσ : sw_gs σ) (hD : 10 ≤ σ 1 0 ∧ σ 1 0 ≤ 400) (hV : 1 ≤ σ 1 1 ∧ σ 1 1 ≤ 20) (hA : 1 ≤ σ 1 2 ∧ σ 1 2 ≤ 5) (hL : ∀ x : Int, 0 ≤ x → x ≤ σ 1 0 → 1 ≤ σ 2 x.toNat ∧ σ 2 x.toNat ≤ σ 1 1) (hs0 : 0 ≤ σ 21 3) (hs1 : σ 21 3 ≤ 60) (hpl : 0 ≤ σ 5 7 ∧ σ 5 7 ≤ σ 1 0) : sw_Con sw_ly sw_rho M_X7_check [.inr (.inr 0), .inl 3] σ (fun r σ' => (¬ σ 5 9 = 0 ∧ r = some (.inl (-4)) ∧ σ = σ') ∨ ((σ 5 9 = 0 ∧ ¬ σ 21 1 = 0) ∧ r = some (.inl (-10 - 1)) ∧ sw_u σ 0 9 1 = σ') ∨ ((σ 5 9 = 0 ∧ σ 21 1 = 0) ∧ σ = σ' ∧ ∃ m : Nat, (m : Int) ≤ σ 21 3 ∧ (∀ j, j < m → sw_lw (σ 2) (σ 1 0) (σ 1 1) (σ 1 2) (σ 22) (σ 5 7) j) ∧ ((m : Int) < σ 21 3 → ¬ sw_lw (σ 2) (σ 1 0) (σ 1 1) (σ 1 2) (σ 22) (σ 5 7) m) ∧ r = some (.inl (if (m : Int) = σ 21 3 ∧ sw_abs (if σ 21 3 = 0 then 0 else σ 22 (σ 21 3 - 1).toNat) ≤ σ 1 2 then (m : Int) + 1000 else (m : Int))))) := by
  refine sw_con (by decide) (Nat.le_of_ble_eq_true rfl) ?_
  refine sw_blk k_X7_check 1 1 [(0, .inr (.inr 0)), (1, .inl 3)] [.inl 3] σ rfl ?_
  refine sw_callS k_X7_check rfl cS_X7_isSheet ml_X7_219 ⟨by decide, by decide⟩ [.inl 3] [] rfl rfl (Nat.le_of_ble_eq_true rfl) 4 rfl (sp_isSheet σ 3 (by decide)) (fun r2 σ3 hq4 => ?_)
  obtain ⟨rfl, ⟨p1, rfl⟩ | ⟨p1, rfl⟩⟩ := hq4
  · refine sw_blk k_X7_check 0 4 [(0, .inr (.inr 0)), (1, .inl 3)] [.inl 1] σ rfl ?_
    refine sw_if_ne k_X7_check rfl (by decide) 10 7 (by decide) rfl (fun _ => ?_) (fun c => absurd c (by decide))
    refine sw_blk k_X7_check 2 14 [(0, .inr (.inr 0)), (1, .inl 3)] [.inr (.inr 5)] σ rfl ?_
    refine sw_callV k_X7_check rfl cV_X6_rests ml_X7_67 ⟨by decide, by decide⟩ 5 rfl rfl [] [] rfl rfl (Nat.le_of_ble_eq_true rfl) 17 rfl (sp_rests σ  (hσ 5 _)) (fun r6 σ7 hq8 => ?_)
    obtain ⟨rfl, ⟨p5, rfl⟩ | ⟨p5, rfl⟩⟩ := hq8
    · refine sw_blk k_X7_check 0 17 [(0, .inr (.inr 0)), (1, .inl 3)] [.inl 1] σ rfl ?_
      refine sw_if_ne k_X7_check rfl (by decide) 23 20 (by decide) rfl (fun _ => ?_) (fun c => absurd c (by decide))
      refine sw_blk k_X7_check 3 28 [(0, .inr (.inr 0)), (1, .inl 3)] [.inl 3, .inr (.inr 14)] σ rfl ?_
      refine sw_aald k_X7_check rfl (i := 14) (n := 4) (r := 21) rfl (by decide) (by decide) (by decide) rfl 29 rfl ?_
      refine sw_blk k_X7_check 3 34 [(2, .inr (.inr 21)), (0, .inr (.inr 0)), (1, .inl 3)] [.inl (σ 21 1)] σ rfl ?_
      refine sw_if_eq k_X7_check rfl (hσ 21 _) 43 37 (by decide) rfl (fun c9 => ?_) (fun c9 => ?_)
      · refine sw_blk k_X7_check 9 62 [(2, .inr (.inr 21)), (0, .inr (.inr 0)), (1, .inl 3)] [.inl (σ 21 3), .inr (.inr 22), .inl (σ 5 7), .inr (.inr 1)] σ rfl ?_
        refine sw_callV k_X7_check rfl cV_X3_lawfulSpeeds ml_X7_270 ⟨by decide, by decide⟩ 1 rfl rfl [.inl (σ 5 7), .inr (.inr 22), .inl (σ 21 3)] [] rfl rfl (Nat.le_of_ble_eq_true rfl) 65 rfl (sp_lawful3 σ hσ hD hV hA hL (σ 5 7) (σ 21 3) hpl (by omega)) (fun r10 σ11 hq12 => ?_)
        obtain ⟨rfl, m, rfl, m1, m2, m3⟩ := hq12
        refine sw_blk k_X7_check 3 70 [(3, .inl (m : Int)), (2, .inr (.inr 21)), (0, .inr (.inr 0)), (1, .inl 3)] [.inl (σ 21 3)] σ rfl ?_
        refine sw_if_ne k_X7_check rfl (hσ 21 _) 77 73 (by decide) rfl (fun c13 => ?_) (fun c13 => ?_)
        · refine sw_blk k_X7_check 6 87 [(3, .inl (m : Int)), (2, .inr (.inr 21)), (0, .inr (.inr 0)), (1, .inl 3)] [.inl ((σ 21 3) - 1), .inr (.inr 22)] σ rfl ?_
          refine sw_iald k_X7_check rfl (i := 22) (n := 60) rfl (by decide) (by omega) (by omega) 88 rfl ?_
          refine sw_blk k_X7_check 4 95 [(4, .inl (σ 22 (((σ 21 3) - 1).toNat))), (3, .inl (m : Int)), (2, .inr (.inr 21)), (0, .inr (.inr 0)), (1, .inl 3)] [.inl (σ 21 3), .inl (m : Int)] σ rfl ?_
          refine sw_icmp_ne k_X7_check rfl (by omega) (hσ 21 _) 117 98 (by decide) rfl (fun c14 => ?_) (fun c14 => ?_)
          · refine sw_blk k_X7_check 3 122 [(5, .inl 0), (4, .inl (σ 22 (((σ 21 3) - 1).toNat))), (3, .inl (m : Int)), (2, .inr (.inr 21)), (0, .inr (.inr 0)), (1, .inl 3)] [.inl 0] σ rfl ?_
            refine sw_if_eq k_X7_check rfl (by decide) 133 125 (by decide) rfl (fun _ => ?_) (fun c => absurd (by decide) c)
            refine sw_blk k_X7_check 1 134 [(5, .inl 0), (4, .inl (σ 22 (((σ 21 3) - 1).toNat))), (3, .inl (m : Int)), (2, .inr (.inr 21)), (0, .inr (.inr 0)), (1, .inl 3)] [.inl (m : Int)] σ rfl ?_
            refine sw_ireturn k_X7_check rfl rfl ?_
            refine Or.inr (Or.inr ⟨by omega, rfl, m, m1, m2, m3, congrArg (fun z : Int => some (Sum.inl z)) ?_⟩)
            rw [if_neg (fun zz => ?_)]
            obtain ⟨z1, z2⟩ := zz
            first | omega | (rw [if_pos (by omega)] at z2; omega) | (rw [if_neg (by omega)] at z2; omega)
          · refine sw_blk k_X7_check 1 100 [(4, .inl (σ 22 (((σ 21 3) - 1).toNat))), (3, .inl (m : Int)), (2, .inr (.inr 21)), (0, .inr (.inr 0)), (1, .inl 3)] [.inl (σ 22 (((σ 21 3) - 1).toNat))] σ rfl ?_
            have gab : sw_g (σ 22 (((σ 21 3) - 1).toNat)) ∧ sw_g (sw_abs (σ 22 (((σ 21 3) - 1).toNat))) := by
              first
              | exact ⟨by decide, by decide⟩
              | (have hl := (m2 (σ 21 3 - 1).toNat (by omega)).2.1; constructor; exact hσ 22 _; unfold sw_abs at *; omega)
            refine sw_callS k_X7_check rfl cS_J9_abs_0f7a4 ml_X7_273 ⟨by decide, by decide⟩ [.inl (σ 22 (((σ 21 3) - 1).toNat))] [] rfl rfl (Nat.le_of_ble_eq_true rfl) 103 rfl (sp_abs σ (σ 22 (((σ 21 3) - 1).toNat)) gab.1) (fun r15 σ16 hq17 => ?_)
            obtain ⟨rfl, rfl⟩ := hq17
            refine sw_blk k_X7_check 3 110 [(4, .inl (σ 22 (((σ 21 3) - 1).toNat))), (3, .inl (m : Int)), (2, .inr (.inr 21)), (0, .inr (.inr 0)), (1, .inl 3)] [.inl (σ 1 2), .inl (sw_abs (σ 22 (((σ 21 3) - 1).toNat)))] σ rfl ?_
            refine sw_icmp_gt k_X7_check rfl gab.2 (hσ 1 _) 117 113 (by decide) rfl (fun c18 => ?_) (fun c18 => ?_)
            · refine sw_blk k_X7_check 3 122 [(5, .inl 0), (4, .inl (σ 22 (((σ 21 3) - 1).toNat))), (3, .inl (m : Int)), (2, .inr (.inr 21)), (0, .inr (.inr 0)), (1, .inl 3)] [.inl 0] σ rfl ?_
              refine sw_if_eq k_X7_check rfl (by decide) 133 125 (by decide) rfl (fun _ => ?_) (fun c => absurd (by decide) c)
              refine sw_blk k_X7_check 1 134 [(5, .inl 0), (4, .inl (σ 22 (((σ 21 3) - 1).toNat))), (3, .inl (m : Int)), (2, .inr (.inr 21)), (0, .inr (.inr 0)), (1, .inl 3)] [.inl (m : Int)] σ rfl ?_
              refine sw_ireturn k_X7_check rfl rfl ?_
              refine Or.inr (Or.inr ⟨by omega, rfl, m, m1, m2, m3, congrArg (fun z : Int => some (Sum.inl z)) ?_⟩)
              rw [if_neg (fun zz => ?_)]
              obtain ⟨z1, z2⟩ := zz
              first | omega | (rw [if_pos (by omega)] at z2; omega) | (rw [if_neg (by omega)] at z2; omega)
            · refine sw_blk k_X7_check 4 122 [(5, .inl 1), (4, .inl (σ 22 (((σ 21 3) - 1).toNat))), (3, .inl (m : Int)), (2, .inr (.inr 21)), (0, .inr (.inr 0)), (1, .inl 3)] [.inl 1] σ rfl ?_
              refine sw_if_eq k_X7_check rfl (by decide) 133 125 (by decide) rfl (fun c => absurd c (by decide)) (fun _ => ?_)
              refine sw_blk k_X7_check 4 134 [(5, .inl 1), (4, .inl (σ 22 (((σ 21 3) - 1).toNat))), (3, .inl (m : Int)), (2, .inr (.inr 21)), (0, .inr (.inr 0)), (1, .inl 3)] [.inl ((m : Int) + 1000)] σ rfl ?_
              refine sw_ireturn k_X7_check rfl rfl ?_
              refine Or.inr (Or.inr ⟨by omega, rfl, m, m1, m2, m3, congrArg (fun z : Int => some (Sum.inl z)) ?_⟩)
              rw [if_pos ⟨by omega, by first | (rw [if_pos (by omega)]; omega) | (rw [if_neg (by omega)]; omega)⟩]
        · refine sw_blk k_X7_check 6 95 [(4, .inl 0), (3, .inl (m : Int)), (2, .inr (.inr 21)), (0, .inr (.inr 0)), (1, .inl 3)] [.inl (σ 21 3), .inl (m : Int)] σ rfl ?_
          refine sw_icmp_ne k_X7_check rfl (by omega) (hσ 21 _) 117 98 (by decide) rfl (fun c19 => ?_) (fun c19 => ?_)
          · refine sw_blk k_X7_check 3 122 [(5, .inl 0), (4, .inl 0), (3, .inl (m : Int)), (2, .inr (.inr 21)), (0, .inr (.inr 0)), (1, .inl 3)] [.inl 0] σ rfl ?_
            refine sw_if_eq k_X7_check rfl (by decide) 133 125 (by decide) rfl (fun _ => ?_) (fun c => absurd (by decide) c)
            refine sw_blk k_X7_check 1 134 [(5, .inl 0), (4, .inl 0), (3, .inl (m : Int)), (2, .inr (.inr 21)), (0, .inr (.inr 0)), (1, .inl 3)] [.inl (m : Int)] σ rfl ?_
            refine sw_ireturn k_X7_check rfl rfl ?_
            refine Or.inr (Or.inr ⟨by omega, rfl, m, m1, m2, m3, congrArg (fun z : Int => some (Sum.inl z)) ?_⟩)
            rw [if_neg (fun zz => ?_)]
            obtain ⟨z1, z2⟩ := zz
            first | omega | (rw [if_pos (by omega)] at z2; omega) | (rw [if_neg (by omega)] at z2; omega)
          · refine sw_blk k_X7_check 1 100 [(4, .inl 0), (3, .inl (m : Int)), (2, .inr (.inr 21)), (0, .inr (.inr 0)), (1, .inl 3)] [.inl 0] σ rfl ?_
            have gab : sw_g 0 ∧ sw_g (sw_abs 0) := by
              first
              | exact ⟨by decide, by decide⟩
              | (have hl := (m2 (σ 21 3 - 1).toNat (by omega)).2.1; constructor; exact hσ 22 _; unfold sw_abs at *; omega)
            refine sw_callS k_X7_check rfl cS_J9_abs_0f7a4 ml_X7_273 ⟨by decide, by decide⟩ [.inl 0] [] rfl rfl (Nat.le_of_ble_eq_true rfl) 103 rfl (sp_abs σ 0 gab.1) (fun r20 σ21 hq22 => ?_)
            obtain ⟨rfl, rfl⟩ := hq22
            refine sw_blk k_X7_check 3 110 [(4, .inl 0), (3, .inl (m : Int)), (2, .inr (.inr 21)), (0, .inr (.inr 0)), (1, .inl 3)] [.inl (σ 1 2), .inl (sw_abs 0)] σ rfl ?_
            refine sw_icmp_gt k_X7_check rfl gab.2 (hσ 1 _) 117 113 (by decide) rfl (fun c23 => ?_) (fun c23 => ?_)
            · refine sw_blk k_X7_check 3 122 [(5, .inl 0), (4, .inl 0), (3, .inl (m : Int)), (2, .inr (.inr 21)), (0, .inr (.inr 0)), (1, .inl 3)] [.inl 0] σ rfl ?_
              refine sw_if_eq k_X7_check rfl (by decide) 133 125 (by decide) rfl (fun _ => ?_) (fun c => absurd (by decide) c)
              refine sw_blk k_X7_check 1 134 [(5, .inl 0), (4, .inl 0), (3, .inl (m : Int)), (2, .inr (.inr 21)), (0, .inr (.inr 0)), (1, .inl 3)] [.inl (m : Int)] σ rfl ?_
              refine sw_ireturn k_X7_check rfl rfl ?_
              refine Or.inr (Or.inr ⟨by omega, rfl, m, m1, m2, m3, congrArg (fun z : Int => some (Sum.inl z)) ?_⟩)
              rw [if_neg (fun zz => ?_)]
              obtain ⟨z1, z2⟩ := zz
              first | omega | (rw [if_pos (by omega)] at z2; omega) | (rw [if_neg (by omega)] at z2; omega)
            · refine sw_blk k_X7_check 4 122 [(5, .inl 1), (4, .inl 0), (3, .inl (m : Int)), (2, .inr (.inr 21)), (0, .inr (.inr 0)), (1, .inl 3)] [.inl 1] σ rfl ?_
              refine sw_if_eq k_X7_check rfl (by decide) 133 125 (by decide) rfl (fun c => absurd c (by decide)) (fun _ => ?_)
              refine sw_blk k_X7_check 4 134 [(5, .inl 1), (4, .inl 0), (3, .inl (m : Int)), (2, .inr (.inr 21)), (0, .inr (.inr 0)), (1, .inl 3)] [.inl ((m : Int) + 1000)] σ rfl ?_
              refine sw_ireturn k_X7_check rfl rfl ?_
              refine Or.inr (Or.inr ⟨by omega, rfl, m, m1, m2, m3, congrArg (fun z : Int => some (Sum.inl z)) ?_⟩)
              rw [if_pos ⟨by omega, by first | (rw [if_pos (by omega)]; omega) | (rw [if_neg (by omega)]; omega)⟩]
      · refine sw_blk k_X7_check 2 39 [(2, .inr (.inr 21)), (0, .inr (.inr 0)), (1, .inl 3)] [.inl 1, .inr (.inr 0)] σ rfl ?_
        refine sw_callV k_X7_check rfl cV_X7_finding ml_X7_225 ⟨by decide, by decide⟩ 0 rfl rfl [.inl 1] [] rfl rfl (Nat.le_of_ble_eq_true rfl) 42 rfl (sp_finding σ 1) (fun r24 σ25 hq26 => ?_)
        obtain ⟨rfl, rfl⟩ := hq26
        refine sw_blk k_X7_check 0 42 [(2, .inr (.inr 21)), (0, .inr (.inr 0)), (1, .inl 3)] [.inl (-10 - 1)] (sw_u σ 0 9 1) rfl ?_
        refine sw_ireturn k_X7_check rfl rfl ?_
        exact Or.inr (Or.inl ⟨by omega, rfl, rfl⟩)
    · refine sw_blk k_X7_check 0 17 [(0, .inr (.inr 0)), (1, .inl 3)] [.inl 0] σ rfl ?_
      refine sw_if_ne k_X7_check rfl (by decide) 23 20 (by decide) rfl (fun c => absurd (by decide) c) (fun _ => ?_)
      refine sw_blk k_X7_check 1 22 [(0, .inr (.inr 0)), (1, .inl 3)] [.inl (-4)] σ rfl ?_
      refine sw_ireturn k_X7_check rfl rfl ?_
      exact Or.inl ⟨by omega, rfl, rfl⟩
  · exact absurd (by decide) p1
end
