section
-- ===== PART A: goes FIRST, ahead of the names: the tables' words, and 'selects' of the private methods out of them =====
/-- a private method of a class that the tables say can be made, by its rows of tables_1 -/
def lw_okq (q : MethodName × Nat) : Prop := (q.1.cls ≠ "java/lang/invoke/MethodHandle" ∧ q.1.cls ≠ "java/lang/invoke/VarHandle") ∧ Cond.instantiable q.1.cls q.2 ∈ tables_1 ∧ Cond.privateMethod q.1 ∈ tables_1 ∧ Cond.instanceMethod q.1 ∈ tables_1
theorem lw_p0 : lw_okq (⟨"RotationOfFarmers", "refuse", "(I)I"⟩, 9) := ⟨⟨by decide +kernel, by decide +kernel⟩, List.mem_of_getElem? (i := 16) (by decide +kernel), List.mem_of_getElem? (i := 196) (by decide +kernel), List.mem_of_getElem? (i := 197) (by decide +kernel)⟩
theorem lw_p1 : lw_okq (⟨"RotationOfFarmers$Letters", "placeOfWrongLetter", "()I"⟩, 2) := ⟨⟨by decide +kernel, by decide +kernel⟩, List.mem_of_getElem? (i := 98) (by decide +kernel), List.mem_of_getElem? (i := 219) (by decide +kernel), List.mem_of_getElem? (i := 220) (by decide +kernel)⟩
theorem lw_p2 : lw_okq (⟨"RotationOfFarmers$Letters", "comes", "(LRotationOfFarmers$Land;I)Z"⟩, 2) := ⟨⟨by decide +kernel, by decide +kernel⟩, List.mem_of_getElem? (i := 98) (by decide +kernel), List.mem_of_getElem? (i := 350) (by decide +kernel), List.mem_of_getElem? (i := 351) (by decide +kernel)⟩
theorem lw_p3 : lw_okq (⟨"RotationOfFarmers$Letters", "farmComes", "(LRotationOfFarmers$Land;I)Z"⟩, 2) := ⟨⟨by decide +kernel, by decide +kernel⟩, List.mem_of_getElem? (i := 98) (by decide +kernel), List.mem_of_getElem? (i := 354) (by decide +kernel), List.mem_of_getElem? (i := 355) (by decide +kernel)⟩
theorem lw_p4 : lw_okq (⟨"RotationOfFarmers$Letters", "number", "(I)I"⟩, 2) := ⟨⟨by decide +kernel, by decide +kernel⟩, List.mem_of_getElem? (i := 98) (by decide +kernel), List.mem_of_getElem? (i := 358) (by decide +kernel), List.mem_of_getElem? (i := 359) (by decide +kernel)⟩
theorem lw_p5 : lw_okq (⟨"RotationOfFarmers$Letters", "digit", "(I)I"⟩, 2) := ⟨⟨by decide +kernel, by decide +kernel⟩, List.mem_of_getElem? (i := 98) (by decide +kernel), List.mem_of_getElem? (i := 362) (by decide +kernel), List.mem_of_getElem? (i := 363) (by decide +kernel)⟩
theorem lw_p6 : lw_okq (⟨"RotationOfFarmers$Letters", "toldAt", "(I)I"⟩, 2) := ⟨⟨by decide +kernel, by decide +kernel⟩, List.mem_of_getElem? (i := 98) (by decide +kernel), List.mem_of_getElem? (i := 366) (by decide +kernel), List.mem_of_getElem? (i := 367) (by decide +kernel)⟩
theorem lw_p7 : lw_okq (⟨"RotationOfFarmers$Letters", "farmerComes", "(LRotationOfFarmers$Land;I)Z"⟩, 2) := ⟨⟨by decide +kernel, by decide +kernel⟩, List.mem_of_getElem? (i := 98) (by decide +kernel), List.mem_of_getElem? (i := 378) (by decide +kernel), List.mem_of_getElem? (i := 379) (by decide +kernel)⟩
theorem lw_p8 : lw_okq (⟨"RotationOfFarmers$Land", "lieUntilled", "(I)V"⟩, 13) := ⟨⟨by decide +kernel, by decide +kernel⟩, List.mem_of_getElem? (i := 24) (by decide +kernel), List.mem_of_getElem? (i := 433) (by decide +kernel), List.mem_of_getElem? (i := 434) (by decide +kernel)⟩
theorem lw_p9 : lw_okq (⟨"RotationOfFarmers$Land", "till", "(II)V"⟩, 13) := ⟨⟨by decide +kernel, by decide +kernel⟩, List.mem_of_getElem? (i := 24) (by decide +kernel), List.mem_of_getElem? (i := 451) (by decide +kernel), List.mem_of_getElem? (i := 452) (by decide +kernel)⟩
theorem lw_p10 : lw_okq (⟨"RotationOfFarmers$Land", "moveOn", "()V"⟩, 13) := ⟨⟨by decide +kernel, by decide +kernel⟩, List.mem_of_getElem? (i := 24) (by decide +kernel), List.mem_of_getElem? (i := 468) (by decide +kernel), List.mem_of_getElem? (i := 469) (by decide +kernel)⟩
theorem lw_p11 : lw_okq (⟨"RotationOfFarmers$Seating", "mostBehind", "(II)I"⟩, 1) := ⟨⟨by decide +kernel, by decide +kernel⟩, List.mem_of_getElem? (i := 120) (by decide +kernel), List.mem_of_getElem? (i := 640) (by decide +kernel), List.mem_of_getElem? (i := 641) (by decide +kernel)⟩
theorem lw_p12 : lw_okq (⟨"RotationOfFarmers$Seating", "planSeat", "(IIII)V"⟩, 1) := ⟨⟨by decide +kernel, by decide +kernel⟩, List.mem_of_getElem? (i := 120) (by decide +kernel), List.mem_of_getElem? (i := 645) (by decide +kernel), List.mem_of_getElem? (i := 646) (by decide +kernel)⟩
theorem lw_p13 : lw_okq (⟨"RotationOfFarmers$Seating", "firstSeat", "(LRotationOfFarmers$Land;II)I"⟩, 1) := ⟨⟨by decide +kernel, by decide +kernel⟩, List.mem_of_getElem? (i := 120) (by decide +kernel), List.mem_of_getElem? (i := 661) (by decide +kernel), List.mem_of_getElem? (i := 662) (by decide +kernel)⟩
theorem lw_p14 : lw_okq (⟨"RotationOfFarmers$Mind", "weigh", "(LRotationOfFarmers$Land;IIII)V"⟩, 6) := ⟨⟨by decide +kernel, by decide +kernel⟩, List.mem_of_getElem? (i := 112) (by decide +kernel), List.mem_of_getElem? (i := 741) (by decide +kernel), List.mem_of_getElem? (i := 742) (by decide +kernel)⟩
theorem lw_p15 : lw_okq (⟨"RotationOfFarmers", "greensAreTheRow", "(I)Z"⟩, 9) := ⟨⟨by decide +kernel, by decide +kernel⟩, List.mem_of_getElem? (i := 16) (by decide +kernel), List.mem_of_getElem? (i := 778) (by decide +kernel), List.mem_of_getElem? (i := 779) (by decide +kernel)⟩
def lw_privs_1 : List (MethodName × Nat) := [(⟨"RotationOfFarmers", "refuse", "(I)I"⟩, 9), (⟨"RotationOfFarmers$Letters", "placeOfWrongLetter", "()I"⟩, 2), (⟨"RotationOfFarmers$Letters", "comes", "(LRotationOfFarmers$Land;I)Z"⟩, 2), (⟨"RotationOfFarmers$Letters", "farmComes", "(LRotationOfFarmers$Land;I)Z"⟩, 2), (⟨"RotationOfFarmers$Letters", "number", "(I)I"⟩, 2), (⟨"RotationOfFarmers$Letters", "digit", "(I)I"⟩, 2), (⟨"RotationOfFarmers$Letters", "toldAt", "(I)I"⟩, 2), (⟨"RotationOfFarmers$Letters", "farmerComes", "(LRotationOfFarmers$Land;I)Z"⟩, 2), (⟨"RotationOfFarmers$Land", "lieUntilled", "(I)V"⟩, 13), (⟨"RotationOfFarmers$Land", "till", "(II)V"⟩, 13), (⟨"RotationOfFarmers$Land", "moveOn", "()V"⟩, 13), (⟨"RotationOfFarmers$Seating", "mostBehind", "(II)I"⟩, 1), (⟨"RotationOfFarmers$Seating", "planSeat", "(IIII)V"⟩, 1), (⟨"RotationOfFarmers$Seating", "firstSeat", "(LRotationOfFarmers$Land;II)I"⟩, 1), (⟨"RotationOfFarmers$Mind", "weigh", "(LRotationOfFarmers$Land;IIII)V"⟩, 6), (⟨"RotationOfFarmers", "greensAreTheRow", "(I)Z"⟩, 9)]
theorem lw_r1 : ∀ q ∈ lw_privs_1, lw_okq q := List.forall_mem_cons.mpr ⟨lw_p0, List.forall_mem_cons.mpr ⟨lw_p1, List.forall_mem_cons.mpr ⟨lw_p2, List.forall_mem_cons.mpr ⟨lw_p3, List.forall_mem_cons.mpr ⟨lw_p4, List.forall_mem_cons.mpr ⟨lw_p5, List.forall_mem_cons.mpr ⟨lw_p6, List.forall_mem_cons.mpr ⟨lw_p7, List.forall_mem_cons.mpr ⟨lw_p8, List.forall_mem_cons.mpr ⟨lw_p9, List.forall_mem_cons.mpr ⟨lw_p10, List.forall_mem_cons.mpr ⟨lw_p11, List.forall_mem_cons.mpr ⟨lw_p12, List.forall_mem_cons.mpr ⟨lw_p13, List.forall_mem_cons.mpr ⟨lw_p14, List.forall_mem_cons.mpr ⟨lw_p15, fun _ h => absurd h List.not_mem_nil⟩⟩⟩⟩⟩⟩⟩⟩⟩⟩⟩⟩⟩⟩⟩⟩
theorem lw_p16 : lw_okq (⟨"RotationOfFarmers", "firstWrongCrop", "()I"⟩, 9) := ⟨⟨by decide +kernel, by decide +kernel⟩, List.mem_of_getElem? (i := 16) (by decide +kernel), List.mem_of_getElem? (i := 791) (by decide +kernel), List.mem_of_getElem? (i := 792) (by decide +kernel)⟩
theorem lw_p17 : lw_okq (⟨"RotationOfFarmers$Mind", "draw", "(I)I"⟩, 6) := ⟨⟨by decide +kernel, by decide +kernel⟩, List.mem_of_getElem? (i := 112) (by decide +kernel), List.mem_of_getElem? (i := 807) (by decide +kernel), List.mem_of_getElem? (i := 808) (by decide +kernel)⟩
theorem lw_p18 : lw_okq (⟨"RotationOfFarmersModel", "no", "(I)I"⟩, 18) := ⟨⟨by decide +kernel, by decide +kernel⟩, List.mem_of_getElem? (i := 827) (by decide +kernel), List.mem_of_getElem? (i := 892) (by decide +kernel), List.mem_of_getElem? (i := 893) (by decide +kernel)⟩
theorem lw_p19 : lw_okq (⟨"RotationOfFarmersModel", "readsStatement", "()Z"⟩, 18) := ⟨⟨by decide +kernel, by decide +kernel⟩, List.mem_of_getElem? (i := 827) (by decide +kernel), List.mem_of_getElem? (i := 900) (by decide +kernel), List.mem_of_getElem? (i := 901) (by decide +kernel)⟩
theorem lw_p20 : lw_okq (⟨"RotationOfFarmersModel", "here", "()I"⟩, 18) := ⟨⟨by decide +kernel, by decide +kernel⟩, List.mem_of_getElem? (i := 827) (by decide +kernel), List.mem_of_getElem? (i := 904) (by decide +kernel), List.mem_of_getElem? (i := 905) (by decide +kernel)⟩
theorem lw_p21 : lw_okq (⟨"RotationOfFarmersModel", "readsNumber", "(II)Z"⟩, 18) := ⟨⟨by decide +kernel, by decide +kernel⟩, List.mem_of_getElem? (i := 827) (by decide +kernel), List.mem_of_getElem? (i := 908) (by decide +kernel), List.mem_of_getElem? (i := 909) (by decide +kernel)⟩
theorem lw_p22 : lw_okq (⟨"RotationOfFarmersModel", "readsKind", "()Z"⟩, 18) := ⟨⟨by decide +kernel, by decide +kernel⟩, List.mem_of_getElem? (i := 827) (by decide +kernel), List.mem_of_getElem? (i := 915) (by decide +kernel), List.mem_of_getElem? (i := 916) (by decide +kernel)⟩
theorem lw_p23 : lw_okq (⟨"RotationOfFarmersModel", "isDone", "(I)Z"⟩, 18) := ⟨⟨by decide +kernel, by decide +kernel⟩, List.mem_of_getElem? (i := 827) (by decide +kernel), List.mem_of_getElem? (i := 925) (by decide +kernel), List.mem_of_getElem? (i := 926) (by decide +kernel)⟩
theorem lw_p24 : lw_okq (⟨"RotationOfFarmersModel", "isFarmer", "(I)Z"⟩, 18) := ⟨⟨by decide +kernel, by decide +kernel⟩, List.mem_of_getElem? (i := 827) (by decide +kernel), List.mem_of_getElem? (i := 935) (by decide +kernel), List.mem_of_getElem? (i := 936) (by decide +kernel)⟩
theorem lw_p25 : lw_okq (⟨"RotationOfFarmersModel", "isFarm", "(I)Z"⟩, 18) := ⟨⟨by decide +kernel, by decide +kernel⟩, List.mem_of_getElem? (i := 827) (by decide +kernel), List.mem_of_getElem? (i := 939) (by decide +kernel), List.mem_of_getElem? (i := 940) (by decide +kernel)⟩
theorem lw_p26 : lw_okq (⟨"RotationOfFarmersModel", "yearsOn", "([II)I"⟩, 18) := ⟨⟨by decide +kernel, by decide +kernel⟩, List.mem_of_getElem? (i := 827) (by decide +kernel), List.mem_of_getElem? (i := 949) (by decide +kernel), List.mem_of_getElem? (i := 950) (by decide +kernel)⟩
theorem lw_p27 : lw_okq (⟨"RotationOfFarmersModel", "year", "([IZ)I"⟩, 18) := ⟨⟨by decide +kernel, by decide +kernel⟩, List.mem_of_getElem? (i := 827) (by decide +kernel), List.mem_of_getElem? (i := 953) (by decide +kernel), List.mem_of_getElem? (i := 954) (by decide +kernel)⟩
theorem lw_p28 : lw_okq (⟨"RotationOfFarmersModel", "takes", "(I)I"⟩, 18) := ⟨⟨by decide +kernel, by decide +kernel⟩, List.mem_of_getElem? (i := 827) (by decide +kernel), List.mem_of_getElem? (i := 1018) (by decide +kernel), List.mem_of_getElem? (i := 1019) (by decide +kernel)⟩
theorem lw_p29 : lw_okq (⟨"RotationOfFarmersModel", "sets", "(III)V"⟩, 18) := ⟨⟨by decide +kernel, by decide +kernel⟩, List.mem_of_getElem? (i := 827) (by decide +kernel), List.mem_of_getElem? (i := 1065) (by decide +kernel), List.mem_of_getElem? (i := 1066) (by decide +kernel)⟩
theorem lw_p30 : lw_okq (⟨"RotationOfFarmersModel", "areWhereTheyAre", "()Z"⟩, 18) := ⟨⟨by decide +kernel, by decide +kernel⟩, List.mem_of_getElem? (i := 827) (by decide +kernel), List.mem_of_getElem? (i := 1087) (by decide +kernel), List.mem_of_getElem? (i := 1088) (by decide +kernel)⟩
theorem lw_p31 : lw_okq (⟨"RotationOfFarmersModel", "ownBy", "(IIIIII)I"⟩, 18) := ⟨⟨by decide +kernel, by decide +kernel⟩, List.mem_of_getElem? (i := 827) (by decide +kernel), List.mem_of_getElem? (i := 1104) (by decide +kernel), List.mem_of_getElem? (i := 1105) (by decide +kernel)⟩
def lw_privs_2 : List (MethodName × Nat) := [(⟨"RotationOfFarmers", "firstWrongCrop", "()I"⟩, 9), (⟨"RotationOfFarmers$Mind", "draw", "(I)I"⟩, 6), (⟨"RotationOfFarmersModel", "no", "(I)I"⟩, 18), (⟨"RotationOfFarmersModel", "readsStatement", "()Z"⟩, 18), (⟨"RotationOfFarmersModel", "here", "()I"⟩, 18), (⟨"RotationOfFarmersModel", "readsNumber", "(II)Z"⟩, 18), (⟨"RotationOfFarmersModel", "readsKind", "()Z"⟩, 18), (⟨"RotationOfFarmersModel", "isDone", "(I)Z"⟩, 18), (⟨"RotationOfFarmersModel", "isFarmer", "(I)Z"⟩, 18), (⟨"RotationOfFarmersModel", "isFarm", "(I)Z"⟩, 18), (⟨"RotationOfFarmersModel", "yearsOn", "([II)I"⟩, 18), (⟨"RotationOfFarmersModel", "year", "([IZ)I"⟩, 18), (⟨"RotationOfFarmersModel", "takes", "(I)I"⟩, 18), (⟨"RotationOfFarmersModel", "sets", "(III)V"⟩, 18), (⟨"RotationOfFarmersModel", "areWhereTheyAre", "()Z"⟩, 18), (⟨"RotationOfFarmersModel", "ownBy", "(IIIIII)I"⟩, 18)]
theorem lw_r2 : ∀ q ∈ lw_privs_2, lw_okq q := List.forall_mem_cons.mpr ⟨lw_p16, List.forall_mem_cons.mpr ⟨lw_p17, List.forall_mem_cons.mpr ⟨lw_p18, List.forall_mem_cons.mpr ⟨lw_p19, List.forall_mem_cons.mpr ⟨lw_p20, List.forall_mem_cons.mpr ⟨lw_p21, List.forall_mem_cons.mpr ⟨lw_p22, List.forall_mem_cons.mpr ⟨lw_p23, List.forall_mem_cons.mpr ⟨lw_p24, List.forall_mem_cons.mpr ⟨lw_p25, List.forall_mem_cons.mpr ⟨lw_p26, List.forall_mem_cons.mpr ⟨lw_p27, List.forall_mem_cons.mpr ⟨lw_p28, List.forall_mem_cons.mpr ⟨lw_p29, List.forall_mem_cons.mpr ⟨lw_p30, List.forall_mem_cons.mpr ⟨lw_p31, fun _ h => absurd h List.not_mem_nil⟩⟩⟩⟩⟩⟩⟩⟩⟩⟩⟩⟩⟩⟩⟩⟩
theorem lw_p32 : lw_okq (⟨"RotationOfFarmersModel", "noWide", "(I)J"⟩, 18) := ⟨⟨by decide +kernel, by decide +kernel⟩, List.mem_of_getElem? (i := 827) (by decide +kernel), List.mem_of_getElem? (i := 1112) (by decide +kernel), List.mem_of_getElem? (i := 1113) (by decide +kernel)⟩
theorem lw_p33 : lw_okq (⟨"RotationOfFarmersModel", "drawn", "(I)I"⟩, 18) := ⟨⟨by decide +kernel, by decide +kernel⟩, List.mem_of_getElem? (i := 827) (by decide +kernel), List.mem_of_getElem? (i := 1150) (by decide +kernel), List.mem_of_getElem? (i := 1151) (by decide +kernel)⟩
def lw_privs_3 : List (MethodName × Nat) := [(⟨"RotationOfFarmersModel", "noWide", "(I)J"⟩, 18), (⟨"RotationOfFarmersModel", "drawn", "(I)I"⟩, 18)]
theorem lw_r3 : ∀ q ∈ lw_privs_3, lw_okq q := List.forall_mem_cons.mpr ⟨lw_p32, List.forall_mem_cons.mpr ⟨lw_p33, fun _ h => absurd h List.not_mem_nil⟩⟩
def lw_privs : List (MethodName × Nat) := lw_privs_1 ++ (lw_privs_2 ++ (lw_privs_3))
def lw_tbl : List Cond := k2_sels lw_privs ++ tables_1
theorem lw_privs_ok : ∀ q ∈ lw_privs, lw_okq q := by
  show ∀ q ∈ lw_privs_1 ++ (lw_privs_2 ++ (lw_privs_3)), lw_okq q
  exact List.forall_mem_append.mpr ⟨lw_r1, List.forall_mem_append.mpr ⟨lw_r2, lw_r3⟩⟩
-- names: printed by program out of the claim
def RX0 : String := "RotationOfFarmers$Kinds"
def TX0 : u_T := fun k => match k with
  | _ => ("", "", "", false)
def tyX0 : Nat → FieldType := fun k => match k with
  | _ => .int
abbrev wsX00 : List Cond := u_ws RX0 TX0 0
theorem nmX0 : ∀ a, a < 0 → ∀ b, b < 0 → a ≠ b → (TX0 a).2.1 ≠ (TX0 b).2.1 := by decide +kernel
theorem tyX0_ok : ∀ k, k < 0 → parseFieldDescriptor (TX0 k).2.2.1 = some (tyX0 k) := by decide +kernel
abbrev cX0_ofLetter : ByteArray := prog_2_method_2_code
def yX0_ofLetter : MethodName := ⟨RX0, "ofLetter", "(I)I"⟩
abbrev cX0_growing : ByteArray := prog_2_method_3_code
def yX0_growing : MethodName := ⟨RX0, "growing", "(III)I"⟩
abbrev cX0_giving : ByteArray := prog_2_method_4_code
def yX0_giving : MethodName := ⟨RX0, "giving", "(III)I"⟩
abbrev cX0_tiring : ByteArray := prog_2_method_5_code
def yX0_tiring : MethodName := ⟨RX0, "tiring", "(I)I"⟩
def RX1 : String := "RotationOfFarmers$Land"
def TX1 : u_T := fun k => match k with
  | 0 => ("RotationOfFarmers$Land", "farms", "I", false)
  | 1 => ("RotationOfFarmers$Land", "farmers", "I", false)
  | 2 => ("RotationOfFarmers$Land", "step", "I", false)
  | 3 => ("RotationOfFarmers$Land", "barn", "I", false)
  | 4 => ("RotationOfFarmers$Land", "year", "I", false)
  | 5 => ("RotationOfFarmers$Land", "grown", "I", false)
  | 6 => ("RotationOfFarmers$Land", "heart", "[I", true)
  | 7 => ("RotationOfFarmers$Land", "grownThere", "[I", true)
  | 8 => ("RotationOfFarmers$Land", "kind", "[I", true)
  | 9 => ("RotationOfFarmers$Land", "figure", "[I", true)
  | 10 => ("RotationOfFarmers$Land", "tired", "[I", true)
  | 11 => ("RotationOfFarmers$Land", "place", "[I", true)
  | _ => ("RotationOfFarmers$Land", "grownBy", "[I", true)
def tyX1 : Nat → FieldType := fun k => match k with
  | 0 => .int
  | 1 => .int
  | 2 => .int
  | 3 => .int
  | 4 => .int
  | 5 => .int
  | 6 => .array .int
  | 7 => .array .int
  | 8 => .array .int
  | 9 => .array .int
  | 10 => .array .int
  | 11 => .array .int
  | _ => .array .int
abbrev wsX10 : List Cond := u_ws RX1 TX1 13
theorem nmX1 : ∀ a, a < 13 → ∀ b, b < 13 → a ≠ b → (TX1 a).2.1 ≠ (TX1 b).2.1 := by decide +kernel
theorem tyX1_ok : ∀ k, k < 13 → parseFieldDescriptor (TX1 k).2.2.1 = some (tyX1 k) := by decide +kernel
abbrev cX1_init : ByteArray := prog_3_method_1_code
def yX1_init : MethodName := ⟨RX1, "<init>", "()V"⟩
abbrev cX1_become : ByteArray := prog_3_method_2_code
def yX1_become : MethodName := ⟨RX1, "become", "(LRotationOfFarmers$Land;)V"⟩
abbrev cX1_hasFarm : ByteArray := prog_3_method_3_code
def yX1_hasFarm : MethodName := ⟨RX1, "hasFarm", "(I)Z"⟩
abbrev cX1_hasFarmer : ByteArray := prog_3_method_4_code
def yX1_hasFarmer : MethodName := ⟨RX1, "hasFarmer", "(I)Z"⟩
abbrev cX1_hasSort : ByteArray := prog_3_method_5_code
def yX1_hasSort : MethodName := ⟨RX1, "hasSort", "(I)Z"⟩
abbrev cX1_hasYears : ByteArray := prog_3_method_6_code
def yX1_hasYears : MethodName := ⟨RX1, "hasYears", "(I)Z"⟩
abbrev cX1_heartOf : ByteArray := prog_3_method_7_code
def yX1_heartOf : MethodName := ⟨RX1, "heartOf", "(II)I"⟩
abbrev cX1_setHeart : ByteArray := prog_3_method_8_code
def yX1_setHeart : MethodName := ⟨RX1, "setHeart", "(III)V"⟩
abbrev cX1_addFarm : ByteArray := prog_3_method_9_code
def yX1_addFarm : MethodName := ⟨RX1, "addFarm", "(III)V"⟩
abbrev cX1_addFarmer : ByteArray := prog_3_method_10_code
def yX1_addFarmer : MethodName := ⟨RX1, "addFarmer", "(II)V"⟩
abbrev cX1_seat : ByteArray := prog_3_method_11_code
def yX1_seat : MethodName := ⟨RX1, "seat", "(II)V"⟩
abbrev cX1_exchange : ByteArray := prog_3_method_12_code
def yX1_exchange : MethodName := ⟨RX1, "exchange", "(II)V"⟩
abbrev cX1_tenantOf : ByteArray := prog_3_method_13_code
def yX1_tenantOf : MethodName := ⟨RX1, "tenantOf", "(I)I"⟩
abbrev cX1_greenOf : ByteArray := prog_3_method_14_code
def yX1_greenOf : MethodName := ⟨RX1, "greenOf", "(I)I"⟩
abbrev cX1_greenOfAll : ByteArray := prog_3_method_15_code
def yX1_greenOfAll : MethodName := ⟨RX1, "greenOfAll", "()I"⟩
abbrev cX1_greenestFarm : ByteArray := prog_3_method_16_code
def yX1_greenestFarm : MethodName := ⟨RX1, "greenestFarm", "()I"⟩
abbrev cX1_mostGreen : ByteArray := prog_3_method_17_code
def yX1_mostGreen : MethodName := ⟨RX1, "mostGreen", "()I"⟩
abbrev cX1_leastGreen : ByteArray := prog_3_method_18_code
def yX1_leastGreen : MethodName := ⟨RX1, "leastGreen", "()I"⟩
abbrev cX1_firstBarrenFarm : ByteArray := prog_3_method_19_code
def yX1_firstBarrenFarm : MethodName := ⟨RX1, "firstBarrenFarm", "()I"⟩
abbrev cX1_freeFarms : ByteArray := prog_3_method_20_code
def yX1_freeFarms : MethodName := ⟨RX1, "freeFarms", "()I"⟩
abbrev cX1_idleFarmers : ByteArray := prog_3_method_21_code
def yX1_idleFarmers : MethodName := ⟨RX1, "idleFarmers", "()I"⟩
abbrev cX1_wornFarmers : ByteArray := prog_3_method_22_code
def yX1_wornFarmers : MethodName := ⟨RX1, "wornFarmers", "()I"⟩
abbrev cX1_isWorn : ByteArray := prog_3_method_23_code
def yX1_isWorn : MethodName := ⟨RX1, "isWorn", "(I)Z"⟩
abbrev cX1_grownAt : ByteArray := prog_3_method_24_code
def yX1_grownAt : MethodName := ⟨RX1, "grownAt", "(II)I"⟩
abbrev cX1_grownNow : ByteArray := prog_3_method_25_code
def yX1_grownNow : MethodName := ⟨RX1, "grownNow", "(I)I"⟩
abbrev cX1_feedingKind : ByteArray := prog_3_method_26_code
def yX1_feedingKind : MethodName := ⟨RX1, "feedingKind", "(I)I"⟩
abbrev cX1_greenFedBy : ByteArray := prog_3_method_27_code
def yX1_greenFedBy : MethodName := ⟨RX1, "greenFedBy", "(II)I"⟩
abbrev cX1_grownIn : ByteArray := prog_3_method_28_code
def yX1_grownIn : MethodName := ⟨RX1, "grownIn", "(I)I"⟩
abbrev cX1_passYear : ByteArray := prog_3_method_29_code
def yX1_passYear : MethodName := ⟨RX1, "passYear", "()V"⟩
abbrev cX1_isAsFreshAs : ByteArray := prog_3_method_30_code
def yX1_isAsFreshAs : MethodName := ⟨RX1, "isAsFreshAs", "(LRotationOfFarmers$Land;)Z"⟩
abbrev cX1_isSeatedAs : ByteArray := prog_3_method_31_code
def yX1_isSeatedAs : MethodName := ⟨RX1, "isSeatedAs", "(LRotationOfFarmers$Land;)Z"⟩
abbrev cX1_lieUntilled : ByteArray := prog_3_method_32_code
def yX1_lieUntilled : MethodName := ⟨RX1, "lieUntilled", "(I)V"⟩
abbrev cX1_till : ByteArray := prog_3_method_33_code
def yX1_till : MethodName := ⟨RX1, "till", "(II)V"⟩
abbrev cX1_moveOn : ByteArray := prog_3_method_34_code
def yX1_moveOn : MethodName := ⟨RX1, "moveOn", "()V"⟩
abbrev cX1_asHeart : ByteArray := prog_3_method_35_code
def yX1_asHeart : MethodName := ⟨RX1, "asHeart", "(I)I"⟩
def RX2 : String := "RotationOfFarmers$Letters"
def TX2 : u_T := fun k => match k with
  | 0 => ("RotationOfFarmers$Letters", "told", "[I", true)
  | _ => ("RotationOfFarmers$Letters", "size", "I", false)
def tyX2 : Nat → FieldType := fun k => match k with
  | 0 => .array .int
  | _ => .int
abbrev wsX20 : List Cond := u_ws RX2 TX2 2
theorem nmX2 : ∀ a, a < 2 → ∀ b, b < 2 → a ≠ b → (TX2 a).2.1 ≠ (TX2 b).2.1 := by decide +kernel
theorem tyX2_ok : ∀ k, k < 2 → parseFieldDescriptor (TX2 k).2.2.1 = some (tyX2 k) := by decide +kernel
abbrev cX2_init : ByteArray := prog_4_method_1_code
def yX2_init : MethodName := ⟨RX2, "<init>", "()V"⟩
abbrev cX2_isFull : ByteArray := prog_4_method_2_code
def yX2_isFull : MethodName := ⟨RX2, "isFull", "()Z"⟩
abbrev cX2_add : ByteArray := prog_4_method_3_code
def yX2_add : MethodName := ⟨RX2, "add", "(I)V"⟩
abbrev cX2_tellTo : ByteArray := prog_4_method_4_code
def yX2_tellTo : MethodName := ⟨RX2, "tellTo", "(LRotationOfFarmers$Land;)I"⟩
abbrev cX2_placeOfWrongLetter : ByteArray := prog_4_method_5_code
def yX2_placeOfWrongLetter : MethodName := ⟨RX2, "placeOfWrongLetter", "()I"⟩
abbrev cX2_shapeBehind : ByteArray := prog_4_method_6_code
def yX2_shapeBehind : MethodName := ⟨RX2, "shapeBehind", "(I)Ljava/lang/String;"⟩
abbrev cX2_fits : ByteArray := prog_4_method_7_code
def yX2_fits : MethodName := ⟨RX2, "fits", "(IC)Z"⟩
abbrev cX2_comes : ByteArray := prog_4_method_8_code
def yX2_comes : MethodName := ⟨RX2, "comes", "(LRotationOfFarmers$Land;I)Z"⟩
abbrev cX2_farmComes : ByteArray := prog_4_method_9_code
def yX2_farmComes : MethodName := ⟨RX2, "farmComes", "(LRotationOfFarmers$Land;I)Z"⟩
abbrev cX2_farmerComes : ByteArray := prog_4_method_10_code
def yX2_farmerComes : MethodName := ⟨RX2, "farmerComes", "(LRotationOfFarmers$Land;I)Z"⟩
abbrev cX2_seatComes : ByteArray := prog_4_method_11_code
def yX2_seatComes : MethodName := ⟨RX2, "seatComes", "(LRotationOfFarmers$Land;II)Z"⟩
abbrev cX2_leaveComes : ByteArray := prog_4_method_12_code
def yX2_leaveComes : MethodName := ⟨RX2, "leaveComes", "(LRotationOfFarmers$Land;I)Z"⟩
abbrev cX2_heartComes : ByteArray := prog_4_method_13_code
def yX2_heartComes : MethodName := ⟨RX2, "heartComes", "(LRotationOfFarmers$Land;III)Z"⟩
abbrev cX2_stepComes : ByteArray := prog_4_method_14_code
def yX2_stepComes : MethodName := ⟨RX2, "stepComes", "(LRotationOfFarmers$Land;I)Z"⟩
abbrev cX2_yearsCome : ByteArray := prog_4_method_15_code
def yX2_yearsCome : MethodName := ⟨RX2, "yearsCome", "(LRotationOfFarmers$Land;I)Z"⟩
abbrev cX2_toldAt : ByteArray := prog_4_method_16_code
def yX2_toldAt : MethodName := ⟨RX2, "toldAt", "(I)I"⟩
abbrev cX2_digit : ByteArray := prog_4_method_17_code
def yX2_digit : MethodName := ⟨RX2, "digit", "(I)I"⟩
abbrev cX2_number : ByteArray := prog_4_method_18_code
def yX2_number : MethodName := ⟨RX2, "number", "(I)I"⟩
def RX3 : String := "RotationOfFarmers$Mind"
def TX3 : u_T := fun k => match k with
  | 0 => ("RotationOfFarmers$Mind", "then", "LRotationOfFarmers$Land;", true)
  | 1 => ("RotationOfFarmers$Mind", "seating", "LRotationOfFarmers$Seating;", true)
  | 2 => ("RotationOfFarmers$Mind", "before", "LRotationOfFarmers$Land;", true)
  | 3 => ("RotationOfFarmers$Mind", "cornOfYear", "[I", true)
  | 4 => ("RotationOfFarmers$Mind", "worth", "[I", true)
  | _ => ("RotationOfFarmers$Mind", "seed", "I", false)
def tyX3 : Nat → FieldType := fun k => match k with
  | 0 => .object "RotationOfFarmers$Land"
  | 1 => .object "RotationOfFarmers$Seating"
  | 2 => .object "RotationOfFarmers$Land"
  | 3 => .array .int
  | 4 => .array .int
  | _ => .int
abbrev wsX30 : List Cond := u_ws RX3 TX3 6
theorem nmX3 : ∀ a, a < 6 → ∀ b, b < 6 → a ≠ b → (TX3 a).2.1 ≠ (TX3 b).2.1 := by decide +kernel
theorem tyX3_ok : ∀ k, k < 6 → parseFieldDescriptor (TX3 k).2.2.1 = some (tyX3 k) := by decide +kernel
abbrev cX3_init : ByteArray := prog_5_method_1_code
def yX3_init : MethodName := ⟨RX3, "<init>", "()V"⟩
abbrev cX3_after : ByteArray := prog_5_method_2_code
def yX3_after : MethodName := ⟨RX3, "after", "(LRotationOfFarmers$Land;I)LRotationOfFarmers$Land;"⟩
abbrev cX3_suppose : ByteArray := prog_5_method_3_code
def yX3_suppose : MethodName := ⟨RX3, "suppose", "(LRotationOfFarmers$Land;III)V"⟩
abbrev cX3_lostYear : ByteArray := prog_5_method_4_code
def yX3_lostYear : MethodName := ⟨RX3, "lostYear", "(LRotationOfFarmers$Land;)I"⟩
abbrev cX3_lostFarm : ByteArray := prog_5_method_5_code
def yX3_lostFarm : MethodName := ⟨RX3, "lostFarm", "(LRotationOfFarmers$Land;)I"⟩
abbrev cX3_grownOfAll : ByteArray := prog_5_method_6_code
def yX3_grownOfAll : MethodName := ⟨RX3, "grownOfAll", "(LRotationOfFarmers$Land;I)I"⟩
abbrev cX3_grownOn : ByteArray := prog_5_method_7_code
def yX3_grownOn : MethodName := ⟨RX3, "grownOn", "(LRotationOfFarmers$Land;II)I"⟩
abbrev cX3_grownByStep : ByteArray := prog_5_method_8_code
def yX3_grownByStep : MethodName := ⟨RX3, "grownByStep", "(LRotationOfFarmers$Land;II)I"⟩
abbrev cX3_stepOfMost : ByteArray := prog_5_method_9_code
def yX3_stepOfMost : MethodName := ⟨RX3, "stepOfMost", "(LRotationOfFarmers$Land;I)I"⟩
abbrev cX3_farmerToSend : ByteArray := prog_5_method_10_code
def yX3_farmerToSend : MethodName := ⟨RX3, "farmerToSend", "(LRotationOfFarmers$Land;I)I"⟩
abbrev cX3_pairToChange : ByteArray := prog_5_method_11_code
def yX3_pairToChange : MethodName := ⟨RX3, "pairToChange", "(LRotationOfFarmers$Land;I)I"⟩
abbrev cX3_settledYear : ByteArray := prog_5_method_12_code
def yX3_settledYear : MethodName := ⟨RX3, "settledYear", "(LRotationOfFarmers$Land;)I"⟩
abbrev cX3_roundYear : ByteArray := prog_5_method_13_code
def yX3_roundYear : MethodName := ⟨RX3, "roundYear", "(LRotationOfFarmers$Land;)I"⟩
abbrev cX3_restingPair : ByteArray := prog_5_method_14_code
def yX3_restingPair : MethodName := ⟨RX3, "restingPair", "(LRotationOfFarmers$Land;III)I"⟩
abbrev cX3_weigh : ByteArray := prog_5_method_15_code
def yX3_weigh : MethodName := ⟨RX3, "weigh", "(LRotationOfFarmers$Land;IIII)V"⟩
abbrev cX3_waysThroughFrost : ByteArray := prog_5_method_16_code
def yX3_waysThroughFrost : MethodName := ⟨RX3, "waysThroughFrost", "(LRotationOfFarmers$Land;III)J"⟩
abbrev cX3_sumOfHundreds : ByteArray := prog_5_method_17_code
def yX3_sumOfHundreds : MethodName := ⟨RX3, "sumOfHundreds", "(LRotationOfFarmers$Land;IIZ)I"⟩
abbrev cX3_draw : ByteArray := prog_5_method_18_code
def yX3_draw : MethodName := ⟨RX3, "draw", "(I)I"⟩
def RX4 : String := "RotationOfFarmers$Seating"
def TX4 : u_T := fun k => match k with
  | _ => ("RotationOfFarmers$Seating", "best", "[I", true)
def tyX4 : Nat → FieldType := fun k => match k with
  | _ => .array .int
abbrev wsX40 : List Cond := u_ws RX4 TX4 1
theorem nmX4 : ∀ a, a < 1 → ∀ b, b < 1 → a ≠ b → (TX4 a).2.1 ≠ (TX4 b).2.1 := by decide +kernel
theorem tyX4_ok : ∀ k, k < 1 → parseFieldDescriptor (TX4 k).2.2.1 = some (tyX4 k) := by decide +kernel
abbrev cX4_init : ByteArray := prog_6_method_1_code
def yX4_init : MethodName := ⟨RX4, "<init>", "()V"⟩
abbrev cX4_plan : ByteArray := prog_6_method_2_code
def yX4_plan : MethodName := ⟨RX4, "plan", "(LRotationOfFarmers$Land;)V"⟩
abbrev cX4_planSeat : ByteArray := prog_6_method_3_code
def yX4_planSeat : MethodName := ⟨RX4, "planSeat", "(IIII)V"⟩
abbrev cX4_most : ByteArray := prog_6_method_4_code
def yX4_most : MethodName := ⟨RX4, "most", "()I"⟩
abbrev cX4_seatOf : ByteArray := prog_6_method_5_code
def yX4_seatOf : MethodName := ⟨RX4, "seatOf", "(LRotationOfFarmers$Land;I)I"⟩
abbrev cX4_firstSeat : ByteArray := prog_6_method_6_code
def yX4_firstSeat : MethodName := ⟨RX4, "firstSeat", "(LRotationOfFarmers$Land;II)I"⟩
abbrev cX4_mostBehind : ByteArray := prog_6_method_7_code
def yX4_mostBehind : MethodName := ⟨RX4, "mostBehind", "(II)I"⟩
abbrev cX4_isOpen : ByteArray := prog_6_method_8_code
def yX4_isOpen : MethodName := ⟨RX4, "isOpen", "(II)Z"⟩
def RX5 : String := "RotationOfFarmers"
def TX5 : u_T := fun k => match k with
  | 0 => ("RotationOfFarmers", "now", "LRotationOfFarmers$Land;", true)
  | 1 => ("RotationOfFarmers", "kept", "LRotationOfFarmers$Land;", true)
  | 2 => ("RotationOfFarmers", "hasKept", "Z", false)
  | 3 => ("RotationOfFarmers", "trial", "LRotationOfFarmers$Land;", true)
  | 4 => ("RotationOfFarmers", "letters", "LRotationOfFarmers$Letters;", true)
  | 5 => ("RotationOfFarmers", "mind", "LRotationOfFarmers$Mind;", true)
  | 6 => ("RotationOfFarmers", "row", "[I", true)
  | 7 => ("RotationOfFarmers", "rowSize", "I", false)
  | _ => ("RotationOfFarmers", "refusals", "[I", true)
def tyX5 : Nat → FieldType := fun k => match k with
  | 0 => .object "RotationOfFarmers$Land"
  | 1 => .object "RotationOfFarmers$Land"
  | 2 => .boolean
  | 3 => .object "RotationOfFarmers$Land"
  | 4 => .object "RotationOfFarmers$Letters"
  | 5 => .object "RotationOfFarmers$Mind"
  | 6 => .array .int
  | 7 => .int
  | _ => .array .int
abbrev wsX50 : List Cond := u_ws RX5 TX5 9
theorem nmX5 : ∀ a, a < 9 → ∀ b, b < 9 → a ≠ b → (TX5 a).2.1 ≠ (TX5 b).2.1 := by decide +kernel
theorem tyX5_ok : ∀ k, k < 9 → parseFieldDescriptor (TX5 k).2.2.1 = some (tyX5 k) := by decide +kernel
abbrev cX5_init : ByteArray := prog_1_method_1_code
def yX5_init : MethodName := ⟨RX5, "<init>", "()V"⟩
abbrev cX5_letter : ByteArray := prog_1_method_2_code
def yX5_letter : MethodName := ⟨RX5, "letter", "(I)I"⟩
abbrev cX5_land : ByteArray := prog_1_method_3_code
def yX5_land : MethodName := ⟨RX5, "land", "()I"⟩
abbrev cX5_farm : ByteArray := prog_1_method_4_code
def yX5_farm : MethodName := ⟨RX5, "farm", "(II)I"⟩
abbrev cX5_farmer : ByteArray := prog_1_method_5_code
def yX5_farmer : MethodName := ⟨RX5, "farmer", "(II)I"⟩
abbrev cX5_sits : ByteArray := prog_1_method_6_code
def yX5_sits : MethodName := ⟨RX5, "sits", "(II)I"⟩
abbrev cX5_leaves : ByteArray := prog_1_method_7_code
def yX5_leaves : MethodName := ⟨RX5, "leaves", "(I)I"⟩
abbrev cX5_hearts : ByteArray := prog_1_method_8_code
def yX5_hearts : MethodName := ⟨RX5, "hearts", "(III)I"⟩
abbrev cX5_steps : ByteArray := prog_1_method_9_code
def yX5_steps : MethodName := ⟨RX5, "steps", "(I)I"⟩
abbrev cX5_tires : ByteArray := prog_1_method_10_code
def yX5_tires : MethodName := ⟨RX5, "tires", "(II)I"⟩
abbrev cX5_turn : ByteArray := prog_1_method_11_code
def yX5_turn : MethodName := ⟨RX5, "turn", "(III)I"⟩
abbrev cX5_years : ByteArray := prog_1_method_12_code
def yX5_years : MethodName := ⟨RX5, "years", "(I)I"⟩
abbrev cX5_heartThen : ByteArray := prog_1_method_13_code
def yX5_heartThen : MethodName := ⟨RX5, "heartThen", "(III)I"⟩
abbrev cX5_farmerThen : ByteArray := prog_1_method_14_code
def yX5_farmerThen : MethodName := ⟨RX5, "farmerThen", "(III)I"⟩
abbrev cX5_barnThen : ByteArray := prog_1_method_15_code
def yX5_barnThen : MethodName := ⟨RX5, "barnThen", "(I)I"⟩
abbrev cX5_greenest : ByteArray := prog_1_method_16_code
def yX5_greenest : MethodName := ⟨RX5, "greenest", "()I"⟩
abbrev cX5_lost : ByteArray := prog_1_method_17_code
def yX5_lost : MethodName := ⟨RX5, "lost", "(I)I"⟩
abbrev cX5_crop : ByteArray := prog_1_method_18_code
def yX5_crop : MethodName := ⟨RX5, "crop", "(II)I"⟩
abbrev cX5_bestStep : ByteArray := prog_1_method_19_code
def yX5_bestStep : MethodName := ⟨RX5, "bestStep", "(II)I"⟩
abbrev cX5_send : ByteArray := prog_1_method_20_code
def yX5_send : MethodName := ⟨RX5, "send", "(I)I"⟩
abbrev cX5_change : ByteArray := prog_1_method_21_code
def yX5_change : MethodName := ⟨RX5, "change", "(I)I"⟩
abbrev cX5_next : ByteArray := prog_1_method_22_code
def yX5_next : MethodName := ⟨RX5, "next", "(I)I"⟩
abbrev cX5_feed : ByteArray := prog_1_method_23_code
def yX5_feed : MethodName := ⟨RX5, "feed", "(II)I"⟩
abbrev cX5_settles : ByteArray := prog_1_method_24_code
def yX5_settles : MethodName := ⟨RX5, "settles", "()I"⟩
abbrev cX5_round : ByteArray := prog_1_method_25_code
def yX5_round : MethodName := ⟨RX5, "round", "()I"⟩
abbrev cX5_free : ByteArray := prog_1_method_26_code
def yX5_free : MethodName := ⟨RX5, "free", "(I)I"⟩
abbrev cX5_inHeart : ByteArray := prog_1_method_27_code
def yX5_inHeart : MethodName := ⟨RX5, "inHeart", "()I"⟩
abbrev cX5_even : ByteArray := prog_1_method_28_code
def yX5_even : MethodName := ⟨RX5, "even", "()I"⟩
abbrev cX5_two : ByteArray := prog_1_method_29_code
def yX5_two : MethodName := ⟨RX5, "two", "(III)I"⟩
abbrev cX5_frost : ByteArray := prog_1_method_30_code
def yX5_frost : MethodName := ⟨RX5, "frost", "(IIII)J"⟩
abbrev cX5_mean : ByteArray := prog_1_method_31_code
def yX5_mean : MethodName := ⟨RX5, "mean", "(I)J"⟩
abbrev cX5_whoSat : ByteArray := prog_1_method_32_code
def yX5_whoSat : MethodName := ⟨RX5, "whoSat", "(III)I"⟩
abbrev cX5_row : ByteArray := prog_1_method_33_code
def yX5_row : MethodName := ⟨RX5, "row", "(I)I"⟩
abbrev cX5_judge : ByteArray := prog_1_method_34_code
def yX5_judge : MethodName := ⟨RX5, "judge", "()I"⟩
abbrev cX5_clear : ByteArray := prog_1_method_35_code
def yX5_clear : MethodName := ⟨RX5, "clear", "()I"⟩
abbrev cX5_lots : ByteArray := prog_1_method_36_code
def yX5_lots : MethodName := ⟨RX5, "lots", "(III)I"⟩
abbrev cX5_image : ByteArray := prog_1_method_37_code
def yX5_image : MethodName := ⟨RX5, "image", "()I"⟩
abbrev cX5_on : ByteArray := prog_1_method_38_code
def yX5_on : MethodName := ⟨RX5, "on", "()I"⟩
abbrev cX5_count : ByteArray := prog_1_method_39_code
def yX5_count : MethodName := ⟨RX5, "count", "(I)I"⟩
abbrev cX5_greensAreTheRow : ByteArray := prog_1_method_40_code
def yX5_greensAreTheRow : MethodName := ⟨RX5, "greensAreTheRow", "(I)Z"⟩
abbrev cX5_firstWrongCrop : ByteArray := prog_1_method_41_code
def yX5_firstWrongCrop : MethodName := ⟨RX5, "firstWrongCrop", "()I"⟩
abbrev cX5_refuse : ByteArray := prog_1_method_42_code
def yX5_refuse : MethodName := ⟨RX5, "refuse", "(I)I"⟩
abbrev cX5_firstOf : ByteArray := prog_1_method_43_code
def yX5_firstOf : MethodName := ⟨RX5, "firstOf", "(III)I"⟩
abbrev cX5_nobodyUnless : ByteArray := prog_1_method_44_code
def yX5_nobodyUnless : MethodName := ⟨RX5, "nobodyUnless", "(Z)I"⟩
abbrev cX5_otherUnless : ByteArray := prog_1_method_45_code
def yX5_otherUnless : MethodName := ⟨RX5, "otherUnless", "(II)I"⟩
abbrev cX5_roomIf : ByteArray := prog_1_method_46_code
def yX5_roomIf : MethodName := ⟨RX5, "roomIf", "(Z)I"⟩
abbrev cX5_inRange : ByteArray := prog_1_method_47_code
def yX5_inRange : MethodName := ⟨RX5, "inRange", "(III)I"⟩
abbrev cX5_termOf : ByteArray := prog_1_method_48_code
def yX5_termOf : MethodName := ⟨RX5, "termOf", "(JJI)J"⟩
def RX6 : String := "RotationOfFarmersModel"
def TX6 : u_T := fun k => match k with
  | 0 => ("RotationOfFarmersModel", "s", "[I", true)
  | 1 => ("RotationOfFarmersModel", "m", "[I", true)
  | 2 => ("RotationOfFarmersModel", "image", "[I", true)
  | 3 => ("RotationOfFarmersModel", "was", "[I", true)
  | 4 => ("RotationOfFarmersModel", "grown", "[I", true)
  | 5 => ("RotationOfFarmersModel", "own", "[I", true)
  | 6 => ("RotationOfFarmersModel", "hasImage", "Z", false)
  | 7 => ("RotationOfFarmersModel", "letters", "[I", true)
  | 8 => ("RotationOfFarmersModel", "row", "[I", true)
  | 9 => ("RotationOfFarmersModel", "refused", "[I", true)
  | 10 => ("RotationOfFarmersModel", "letterMany", "I", false)
  | 11 => ("RotationOfFarmersModel", "rowMany", "I", false)
  | 12 => ("RotationOfFarmersModel", "place", "I", false)
  | 13 => ("RotationOfFarmersModel", "numbers", "[I", true)
  | 14 => ("RotationOfFarmersModel", "given", "[I", true)
  | 15 => ("RotationOfFarmersModel", "bestGiven", "[I", true)
  | 16 => ("RotationOfFarmersModel", "bestGrown", "I", false)
  | _ => ("RotationOfFarmersModel", "seed", "I", false)
def tyX6 : Nat → FieldType := fun k => match k with
  | 0 => .array .int
  | 1 => .array .int
  | 2 => .array .int
  | 3 => .array .int
  | 4 => .array .int
  | 5 => .array .int
  | 6 => .boolean
  | 7 => .array .int
  | 8 => .array .int
  | 9 => .array .int
  | 10 => .int
  | 11 => .int
  | 12 => .int
  | 13 => .array .int
  | 14 => .array .int
  | 15 => .array .int
  | 16 => .int
  | _ => .int
abbrev wsX60 : List Cond := u_ws RX6 TX6 18
theorem nmX6 : ∀ a, a < 18 → ∀ b, b < 18 → a ≠ b → (TX6 a).2.1 ≠ (TX6 b).2.1 := by decide +kernel
theorem tyX6_ok : ∀ k, k < 18 → parseFieldDescriptor (TX6 k).2.2.1 = some (tyX6 k) := by decide +kernel
abbrev cX6_init : ByteArray := prog_8_method_1_code
def yX6_init : MethodName := ⟨RX6, "<init>", "()V"⟩
abbrev cX6_isIn : ByteArray := prog_8_method_2_code
def yX6_isIn : MethodName := ⟨RX6, "isIn", "(III)Z"⟩
abbrev cX6_held : ByteArray := prog_8_method_3_code
def yX6_held : MethodName := ⟨RX6, "held", "(II)I"⟩
abbrev cX6_copies : ByteArray := prog_8_method_4_code
def yX6_copies : MethodName := ⟨RX6, "copies", "([I[I)V"⟩
abbrev cX6_no : ByteArray := prog_8_method_5_code
def yX6_no : MethodName := ⟨RX6, "no", "(I)I"⟩
abbrev cX6_noWide : ByteArray := prog_8_method_6_code
def yX6_noWide : MethodName := ⟨RX6, "noWide", "(I)J"⟩
abbrev cX6_of : ByteArray := prog_8_method_7_code
def yX6_of : MethodName := ⟨RX6, "of", "(II)I"⟩
abbrev cX6_heart : ByteArray := prog_8_method_8_code
def yX6_heart : MethodName := ⟨RX6, "heart", "(II)I"⟩
abbrev cX6_isFarm : ByteArray := prog_8_method_9_code
def yX6_isFarm : MethodName := ⟨RX6, "isFarm", "(I)Z"⟩
abbrev cX6_isFarmer : ByteArray := prog_8_method_10_code
def yX6_isFarmer : MethodName := ⟨RX6, "isFarmer", "(I)Z"⟩
abbrev cX6_has : ByteArray := prog_8_method_11_code
def yX6_has : MethodName := ⟨RX6, "has", "(II)Z"⟩
abbrev cX6_growsBy : ByteArray := prog_8_method_12_code
def yX6_growsBy : MethodName := ⟨RX6, "growsBy", "([III)I"⟩
abbrev cX6_more : ByteArray := prog_8_method_13_code
def yX6_more : MethodName := ⟨RX6, "more", "([IIII)V"⟩
abbrev cX6_changes : ByteArray := prog_8_method_14_code
def yX6_changes : MethodName := ⟨RX6, "changes", "([IIII)V"⟩
abbrev cX6_tiresBy : ByteArray := prog_8_method_15_code
def yX6_tiresBy : MethodName := ⟨RX6, "tiresBy", "(I)I"⟩
abbrev cX6_farmerAt : ByteArray := prog_8_method_16_code
def yX6_farmerAt : MethodName := ⟨RX6, "farmerAt", "([II)I"⟩
abbrev cX6_year : ByteArray := prog_8_method_17_code
def yX6_year : MethodName := ⟨RX6, "year", "([IZ)I"⟩
abbrev cX6_yearsOn : ByteArray := prog_8_method_18_code
def yX6_yearsOn : MethodName := ⟨RX6, "yearsOn", "([II)I"⟩
abbrev cX6_green : ByteArray := prog_8_method_19_code
def yX6_green : MethodName := ⟨RX6, "green", "([II)I"⟩
abbrev cX6_greenAll : ByteArray := prog_8_method_20_code
def yX6_greenAll : MethodName := ⟨RX6, "greenAll", "([I)I"⟩
abbrev cX6_sitsIn : ByteArray := prog_8_method_21_code
def yX6_sitsIn : MethodName := ⟨RX6, "sitsIn", "([III)V"⟩
abbrev cX6_letter : ByteArray := prog_8_method_22_code
def yX6_letter : MethodName := ⟨RX6, "letter", "(I)I"⟩
abbrev cX6_here : ByteArray := prog_8_method_23_code
def yX6_here : MethodName := ⟨RX6, "here", "()I"⟩
abbrev cX6_readsNumber : ByteArray := prog_8_method_24_code
def yX6_readsNumber : MethodName := ⟨RX6, "readsNumber", "(II)Z"⟩
abbrev cX6_kindBy : ByteArray := prog_8_method_25_code
def yX6_kindBy : MethodName := ⟨RX6, "kindBy", "(I)I"⟩
abbrev cX6_readsKind : ByteArray := prog_8_method_26_code
def yX6_readsKind : MethodName := ⟨RX6, "readsKind", "()Z"⟩
abbrev cX6_readsStatement : ByteArray := prog_8_method_27_code
def yX6_readsStatement : MethodName := ⟨RX6, "readsStatement", "()Z"⟩
abbrev cX6_isDone : ByteArray := prog_8_method_28_code
def yX6_isDone : MethodName := ⟨RX6, "isDone", "(I)Z"⟩
abbrev cX6_land : ByteArray := prog_8_method_29_code
def yX6_land : MethodName := ⟨RX6, "land", "()I"⟩
abbrev cX6_farm : ByteArray := prog_8_method_30_code
def yX6_farm : MethodName := ⟨RX6, "farm", "(II)I"⟩
abbrev cX6_farmer : ByteArray := prog_8_method_31_code
def yX6_farmer : MethodName := ⟨RX6, "farmer", "(II)I"⟩
abbrev cX6_sits : ByteArray := prog_8_method_32_code
def yX6_sits : MethodName := ⟨RX6, "sits", "(II)I"⟩
abbrev cX6_leaves : ByteArray := prog_8_method_33_code
def yX6_leaves : MethodName := ⟨RX6, "leaves", "(I)I"⟩
abbrev cX6_wrongBy : ByteArray := prog_8_method_34_code
def yX6_wrongBy : MethodName := ⟨RX6, "wrongBy", "(III)I"⟩
abbrev cX6_hearts : ByteArray := prog_8_method_35_code
def yX6_hearts : MethodName := ⟨RX6, "hearts", "(III)I"⟩
abbrev cX6_steps : ByteArray := prog_8_method_36_code
def yX6_steps : MethodName := ⟨RX6, "steps", "(I)I"⟩
abbrev cX6_tires : ByteArray := prog_8_method_37_code
def yX6_tires : MethodName := ⟨RX6, "tires", "(II)I"⟩
abbrev cX6_turn : ByteArray := prog_8_method_38_code
def yX6_turn : MethodName := ⟨RX6, "turn", "(III)I"⟩
abbrev cX6_years : ByteArray := prog_8_method_39_code
def yX6_years : MethodName := ⟨RX6, "years", "(I)I"⟩
abbrev cX6_takes : ByteArray := prog_8_method_40_code
def yX6_takes : MethodName := ⟨RX6, "takes", "(I)I"⟩
abbrev cX6_heartThen : ByteArray := prog_8_method_41_code
def yX6_heartThen : MethodName := ⟨RX6, "heartThen", "(III)I"⟩
abbrev cX6_farmerThen : ByteArray := prog_8_method_42_code
def yX6_farmerThen : MethodName := ⟨RX6, "farmerThen", "(III)I"⟩
abbrev cX6_barnThen : ByteArray := prog_8_method_43_code
def yX6_barnThen : MethodName := ⟨RX6, "barnThen", "(I)I"⟩
abbrev cX6_greenest : ByteArray := prog_8_method_44_code
def yX6_greenest : MethodName := ⟨RX6, "greenest", "()I"⟩
abbrev cX6_lostIn : ByteArray := prog_8_method_45_code
def yX6_lostIn : MethodName := ⟨RX6, "lostIn", "([I)I"⟩
abbrev cX6_lost : ByteArray := prog_8_method_46_code
def yX6_lost : MethodName := ⟨RX6, "lost", "(I)I"⟩
abbrev cX6_inHeart : ByteArray := prog_8_method_47_code
def yX6_inHeart : MethodName := ⟨RX6, "inHeart", "()I"⟩
abbrev cX6_crop : ByteArray := prog_8_method_48_code
def yX6_crop : MethodName := ⟨RX6, "crop", "(II)I"⟩
abbrev cX6_bestStep : ByteArray := prog_8_method_49_code
def yX6_bestStep : MethodName := ⟨RX6, "bestStep", "(II)I"⟩
abbrev cX6_send : ByteArray := prog_8_method_50_code
def yX6_send : MethodName := ⟨RX6, "send", "(I)I"⟩
abbrev cX6_change : ByteArray := prog_8_method_51_code
def yX6_change : MethodName := ⟨RX6, "change", "(I)I"⟩
abbrev cX6_sets : ByteArray := prog_8_method_52_code
def yX6_sets : MethodName := ⟨RX6, "sets", "(III)V"⟩
abbrev cX6_next : ByteArray := prog_8_method_53_code
def yX6_next : MethodName := ⟨RX6, "next", "(I)I"⟩
abbrev cX6_feed : ByteArray := prog_8_method_54_code
def yX6_feed : MethodName := ⟨RX6, "feed", "(II)I"⟩
abbrev cX6_areAlike : ByteArray := prog_8_method_55_code
def yX6_areAlike : MethodName := ⟨RX6, "areAlike", "([I[I)Z"⟩
abbrev cX6_settles : ByteArray := prog_8_method_56_code
def yX6_settles : MethodName := ⟨RX6, "settles", "()I"⟩
abbrev cX6_areWhereTheyAre : ByteArray := prog_8_method_57_code
def yX6_areWhereTheyAre : MethodName := ⟨RX6, "areWhereTheyAre", "()Z"⟩
abbrev cX6_round : ByteArray := prog_8_method_58_code
def yX6_round : MethodName := ⟨RX6, "round", "()I"⟩
abbrev cX6_free : ByteArray := prog_8_method_59_code
def yX6_free : MethodName := ⟨RX6, "free", "(I)I"⟩
abbrev cX6_even : ByteArray := prog_8_method_60_code
def yX6_even : MethodName := ⟨RX6, "even", "()I"⟩
abbrev cX6_ownBy : ByteArray := prog_8_method_61_code
def yX6_ownBy : MethodName := ⟨RX6, "ownBy", "(IIIIII)I"⟩
abbrev cX6_two : ByteArray := prog_8_method_62_code
def yX6_two : MethodName := ⟨RX6, "two", "(III)I"⟩
abbrev cX6_gcd : ByteArray := prog_8_method_63_code
def yX6_gcd : MethodName := ⟨RX6, "gcd", "(JJ)J"⟩
abbrev cX6_partOf : ByteArray := prog_8_method_64_code
def yX6_partOf : MethodName := ⟨RX6, "partOf", "(JJI)J"⟩
abbrev cX6_frost : ByteArray := prog_8_method_65_code
def yX6_frost : MethodName := ⟨RX6, "frost", "(IIII)J"⟩
abbrev cX6_mean : ByteArray := prog_8_method_66_code
def yX6_mean : MethodName := ⟨RX6, "mean", "(I)J"⟩
abbrev cX6_whoSat : ByteArray := prog_8_method_67_code
def yX6_whoSat : MethodName := ⟨RX6, "whoSat", "(III)I"⟩
abbrev cX6_row : ByteArray := prog_8_method_68_code
def yX6_row : MethodName := ⟨RX6, "row", "(I)I"⟩
abbrev cX6_judge : ByteArray := prog_8_method_69_code
def yX6_judge : MethodName := ⟨RX6, "judge", "()I"⟩
abbrev cX6_clear : ByteArray := prog_8_method_70_code
def yX6_clear : MethodName := ⟨RX6, "clear", "()I"⟩
abbrev cX6_drawn : ByteArray := prog_8_method_71_code
def yX6_drawn : MethodName := ⟨RX6, "drawn", "(I)I"⟩
abbrev cX6_lots : ByteArray := prog_8_method_72_code
def yX6_lots : MethodName := ⟨RX6, "lots", "(III)I"⟩
abbrev cX6_image : ByteArray := prog_8_method_73_code
def yX6_image : MethodName := ⟨RX6, "image", "()I"⟩
abbrev cX6_on : ByteArray := prog_8_method_74_code
def yX6_on : MethodName := ⟨RX6, "on", "()I"⟩
abbrev cX6_count : ByteArray := prog_8_method_75_code
def yX6_count : MethodName := ⟨RX6, "count", "(I)I"⟩
def RJ11 : String := "java/lang/Character"
def TJ11 : u_T := fun k => match k with
  | _ => ("", "", "", false)
def tyJ11 : Nat → FieldType := fun k => match k with
  | _ => .int
abbrev cJ11_isValidCodePoint_9a6ad : ByteArray := prog_9_method_11_code
def yJ11_isValidCodePoint_9a6ad : MethodName := ⟨RJ11, "isValidCodePoint", "(I)Z"⟩
abbrev cJ11_highSurrogate_5068e : ByteArray := prog_9_method_28_code
def yJ11_highSurrogate_5068e : MethodName := ⟨RJ11, "highSurrogate", "(I)C"⟩
abbrev cJ11_lowSurrogate_5068e : ByteArray := prog_9_method_29_code
def yJ11_lowSurrogate_5068e : MethodName := ⟨RJ11, "lowSurrogate", "(I)C"⟩
def RJ9 : String := "java/lang/Math"
def TJ9 : u_T := fun k => match k with
  | _ => ("", "", "", false)
def tyJ9 : Nat → FieldType := fun k => match k with
  | _ => .int
abbrev cJ9_max_7cf53 : ByteArray := prog_10_method_65_code
def yJ9_max_7cf53 : MethodName := ⟨RJ9, "max", "(II)I"⟩
abbrev cJ9_max_f86c9 : ByteArray := prog_10_method_66_code
def yJ9_max_f86c9 : MethodName := ⟨RJ9, "max", "(JJ)J"⟩
abbrev cJ9_min_7cf53 : ByteArray := prog_10_method_69_code
def yJ9_min_7cf53 : MethodName := ⟨RJ9, "min", "(II)I"⟩
def RJ0 : String := "java/lang/String"
def TJ0 : u_T := fun k => match k with
  | _ => ("", "", "", false)
def tyJ0 : Nat → FieldType := fun k => match k with
  | _ => .int
abbrev cJ0_length_8abf5 : ByteArray := prog_11_method_54_code
def yJ0_length_8abf5 : MethodName := ⟨RJ0, "length", "()I"⟩
abbrev cJ0_isEmpty_aae02 : ByteArray := prog_11_method_55_code
def yJ0_isEmpty_aae02 : MethodName := ⟨RJ0, "isEmpty", "()Z"⟩
abbrev cJ0_charAt_5068e : ByteArray := prog_11_method_56_code
def yJ0_charAt_5068e : MethodName := ⟨RJ0, "charAt", "(I)C"⟩
abbrev cJ0_indexOf_0f7a4 : ByteArray := prog_11_method_79_code
def yJ0_indexOf_0f7a4 : MethodName := ⟨RJ0, "indexOf", "(I)I"⟩
abbrev cJ0_indexOf_7cf53 : ByteArray := prog_11_method_80_code
def yJ0_indexOf_7cf53 : MethodName := ⟨RJ0, "indexOf", "(II)I"⟩
abbrev cJ0_coder_7d493 : ByteArray := prog_11_method_152_code
def yJ0_coder_7d493 : MethodName := ⟨RJ0, "coder", "()B"⟩
abbrev cJ0_isLatin1_aae02 : ByteArray := prog_11_method_154_code
def yJ0_isLatin1_aae02 : MethodName := ⟨RJ0, "isLatin1", "()Z"⟩
abbrev cJ0_checkIndex_df160 : ByteArray := prog_11_method_155_code
def yJ0_checkIndex_df160 : MethodName := ⟨RJ0, "checkIndex", "(II)V"⟩
abbrev cJ0_checkBoundsBeginEnd_23922 : ByteArray := prog_11_method_158_code
def yJ0_checkBoundsBeginEnd_23922 : MethodName := ⟨RJ0, "checkBoundsBeginEnd", "(III)V"⟩
def RJ1 : String := "java/lang/StringLatin1"
def TJ1 : u_T := fun k => match k with
  | _ => ("", "", "", false)
def tyJ1 : Nat → FieldType := fun k => match k with
  | _ => .int
abbrev cJ1_charAt_3b067 : ByteArray := prog_12_method_2_code
def yJ1_charAt_3b067 : MethodName := ⟨RJ1, "charAt", "([BI)C"⟩
abbrev cJ1_canEncode_9a6ad : ByteArray := prog_12_method_4_code
def yJ1_canEncode_9a6ad : MethodName := ⟨RJ1, "canEncode", "(I)Z"⟩
abbrev cJ1_indexOf_4cfef : ByteArray := prog_12_method_22_code
def yJ1_indexOf_4cfef : MethodName := ⟨RJ1, "indexOf", "([BIII)I"⟩
abbrev cJ1_indexOfChar_4cfef : ByteArray := prog_12_method_23_code
def yJ1_indexOfChar_4cfef : MethodName := ⟨RJ1, "indexOfChar", "([BIII)I"⟩
def RJ2 : String := "java/lang/StringUTF16"
def TJ2 : u_T := fun k => match k with
  | _ => ("", "", "", false)
def tyJ2 : Nat → FieldType := fun k => match k with
  | _ => .int
abbrev cJ2_getChar_3b067 : ByteArray := prog_13_method_5_code
def yJ2_getChar_3b067 : MethodName := ⟨RJ2, "getChar", "([BI)C"⟩
abbrev cJ2_length_9d52b : ByteArray := prog_13_method_6_code
def yJ2_length_9d52b : MethodName := ⟨RJ2, "length", "([B)I"⟩
abbrev cJ2_indexOf_4cfef : ByteArray := prog_13_method_40_code
def yJ2_indexOf_4cfef : MethodName := ⟨RJ2, "indexOf", "([BIII)I"⟩
abbrev cJ2_indexOfChar_4cfef : ByteArray := prog_13_method_47_code
def yJ2_indexOfChar_4cfef : MethodName := ⟨RJ2, "indexOfChar", "([BIII)I"⟩
abbrev cJ2_indexOfCharUnsafe_4cfef : ByteArray := prog_13_method_48_code
def yJ2_indexOfCharUnsafe_4cfef : MethodName := ⟨RJ2, "indexOfCharUnsafe", "([BIII)I"⟩
abbrev cJ2_indexOfSupplementary_4cfef : ByteArray := prog_13_method_49_code
def yJ2_indexOfSupplementary_4cfef : MethodName := ⟨RJ2, "indexOfSupplementary", "([BIII)I"⟩
abbrev cJ2_charAt_3b067 : ByteArray := prog_13_method_83_code
def yJ2_charAt_3b067 : MethodName := ⟨RJ2, "charAt", "([BI)C"⟩
abbrev cJ2_checkIndex_2214a : ByteArray := prog_13_method_91_code
def yJ2_checkIndex_2214a : MethodName := ⟨RJ2, "checkIndex", "(I[B)V"⟩
abbrev cJ2_checkBoundsBeginEnd_d044e : ByteArray := prog_13_method_93_code
def yJ2_checkBoundsBeginEnd_d044e : MethodName := ⟨RJ2, "checkBoundsBeginEnd", "(II[B)V"⟩
def RJ10 : String := "java/lang/System"
def TJ10 : u_T := fun k => match k with
  | _ => ("", "", "", false)
def tyJ10 : Nat → FieldType := fun k => match k with
  | _ => .int
def RJ3 : String := "jdk/internal/util/Preconditions"
def TJ3 : u_T := fun k => match k with
  | _ => ("", "", "", false)
def tyJ3 : Nat → FieldType := fun k => match k with
  | _ => .int
abbrev cJ3_checkIndex_8e157 : ByteArray := prog_15_method_11_code
def yJ3_checkIndex_8e157 : MethodName := ⟨RJ3, "checkIndex", "(IILjava/util/function/BiFunction;)I"⟩
abbrev cJ3_checkFromToIndex_8c36e : ByteArray := prog_15_method_12_code
def yJ3_checkFromToIndex_8c36e : MethodName := ⟨RJ3, "checkFromToIndex", "(IIILjava/util/function/BiFunction;)I"⟩
def RL : String := "RotationOfFarmersLaw"
abbrev cL_law : ByteArray := code
def yL_law : MethodName := ⟨RL, "law", "([I)Z"⟩
end
section
-- decode rows: printed by program out of the claim
theorem dX0_ofLetter_0 : decode cX0_ofLetter 0 = .ok (.ldc 9, 2) := by decide +kernel
theorem dX0_ofLetter_2 : decode cX0_ofLetter 2 = .ok (.iload_n 0, 1) := by decide +kernel
theorem dX0_ofLetter_3 : decode cX0_ofLetter 3 = .ok (.i2c, 1) := by decide +kernel
theorem dX0_ofLetter_4 : decode cX0_ofLetter 4 = .ok (.invokevirtual 11, 3) := by decide +kernel
theorem dX0_ofLetter_7 : decode cX0_ofLetter 7 = .ok (.ireturn, 1) := by decide +kernel
theorem dX0_growing_0 : decode cX0_growing 0 = .ok (.iload_n 0, 1) := by decide +kernel
theorem dX0_growing_1 : decode cX0_growing 1 = .ok (.tableswitch 51 0 3 #[31, 35, 39, 45], 31) := by decide +kernel
theorem dX0_growing_32 : decode cX0_growing 32 = .ok (.iload_n 1, 1) := by decide +kernel
theorem dX0_growing_33 : decode cX0_growing 33 = .ok (.iconst 2, 1) := by decide +kernel
theorem dX0_growing_34 : decode cX0_growing 34 = .ok (.idiv, 1) := by decide +kernel
theorem dX0_growing_35 : decode cX0_growing 35 = .ok (.ireturn, 1) := by decide +kernel
theorem dX0_growing_36 : decode cX0_growing 36 = .ok (.iload_n 2, 1) := by decide +kernel
theorem dX0_growing_37 : decode cX0_growing 37 = .ok (.iconst 2, 1) := by decide +kernel
theorem dX0_growing_38 : decode cX0_growing 38 = .ok (.idiv, 1) := by decide +kernel
theorem dX0_growing_39 : decode cX0_growing 39 = .ok (.ireturn, 1) := by decide +kernel
theorem dX0_growing_40 : decode cX0_growing 40 = .ok (.iload_n 1, 1) := by decide +kernel
theorem dX0_growing_41 : decode cX0_growing 41 = .ok (.iconst 2, 1) := by decide +kernel
theorem dX0_growing_42 : decode cX0_growing 42 = .ok (.idiv, 1) := by decide +kernel
theorem dX0_growing_43 : decode cX0_growing 43 = .ok (.iconst 3, 1) := by decide +kernel
theorem dX0_growing_44 : decode cX0_growing 44 = .ok (.iadd, 1) := by decide +kernel
theorem dX0_growing_45 : decode cX0_growing 45 = .ok (.ireturn, 1) := by decide +kernel
theorem dX0_growing_46 : decode cX0_growing 46 = .ok (.iload_n 2, 1) := by decide +kernel
theorem dX0_growing_47 : decode cX0_growing 47 = .ok (.iconst 2, 1) := by decide +kernel
theorem dX0_growing_48 : decode cX0_growing 48 = .ok (.idiv, 1) := by decide +kernel
theorem dX0_growing_49 : decode cX0_growing 49 = .ok (.iconst 2, 1) := by decide +kernel
theorem dX0_growing_50 : decode cX0_growing 50 = .ok (.idiv, 1) := by decide +kernel
theorem dX0_growing_51 : decode cX0_growing 51 = .ok (.ireturn, 1) := by decide +kernel
theorem dX0_growing_52 : decode cX0_growing 52 = .ok (.iconst 0, 1) := by decide +kernel
theorem dX0_growing_53 : decode cX0_growing 53 = .ok (.ireturn, 1) := by decide +kernel
theorem dX0_giving_0 : decode cX0_giving 0 = .ok (.iconst 3, 1) := by decide +kernel
theorem dX0_giving_1 : decode cX0_giving 1 = .ok (.iload_n 0, 1) := by decide +kernel
theorem dX0_giving_2 : decode cX0_giving 2 = .ok (.imul, 1) := by decide +kernel
theorem dX0_giving_3 : decode cX0_giving 3 = .ok (.iload_n 2, 1) := by decide +kernel
theorem dX0_giving_4 : decode cX0_giving 4 = .ok (.iadd, 1) := by decide +kernel
theorem dX0_giving_5 : decode cX0_giving 5 = .ok (.istore_n 3, 1) := by decide +kernel
theorem dX0_giving_6 : decode cX0_giving 6 = .ok (.iload_n 3, 1) := by decide +kernel
theorem dX0_giving_7 : decode cX0_giving 7 = .ok (.ifCond .lt 19, 3) := by decide +kernel
theorem dX0_giving_10 : decode cX0_giving 10 = .ok (.iload_n 3, 1) := by decide +kernel
theorem dX0_giving_11 : decode cX0_giving 11 = .ok (.getstatic 17, 3) := by decide +kernel
theorem dX0_giving_14 : decode cX0_giving 14 = .ok (.arraylength, 1) := by decide +kernel
theorem dX0_giving_15 : decode cX0_giving 15 = .ok (.if_icmp .ge 11, 3) := by decide +kernel
theorem dX0_giving_18 : decode cX0_giving 18 = .ok (.getstatic 17, 3) := by decide +kernel
theorem dX0_giving_21 : decode cX0_giving 21 = .ok (.iload_n 3, 1) := by decide +kernel
theorem dX0_giving_22 : decode cX0_giving 22 = .ok (.iaload, 1) := by decide +kernel
theorem dX0_giving_23 : decode cX0_giving 23 = .ok (.goto 4, 3) := by decide +kernel
theorem dX0_giving_26 : decode cX0_giving 26 = .ok (.iconst 0, 1) := by decide +kernel
theorem dX0_giving_27 : decode cX0_giving 27 = .ok (.istore 4, 2) := by decide +kernel
theorem dX0_giving_29 : decode cX0_giving 29 = .ok (.iload_n 0, 1) := by decide +kernel
theorem dX0_giving_30 : decode cX0_giving 30 = .ok (.iconst 4, 1) := by decide +kernel
theorem dX0_giving_31 : decode cX0_giving 31 = .ok (.if_icmp .eq 8, 3) := by decide +kernel
theorem dX0_giving_34 : decode cX0_giving 34 = .ok (.iload_n 0, 1) := by decide +kernel
theorem dX0_giving_35 : decode cX0_giving 35 = .ok (.iconst 5, 1) := by decide +kernel
theorem dX0_giving_36 : decode cX0_giving 36 = .ok (.if_icmp .ne 7, 3) := by decide +kernel
theorem dX0_giving_39 : decode cX0_giving 39 = .ok (.iconst 1, 1) := by decide +kernel
theorem dX0_giving_40 : decode cX0_giving 40 = .ok (.goto 4, 3) := by decide +kernel
theorem dX0_giving_43 : decode cX0_giving 43 = .ok (.iconst 0, 1) := by decide +kernel
theorem dX0_giving_44 : decode cX0_giving 44 = .ok (.istore 5, 2) := by decide +kernel
theorem dX0_giving_46 : decode cX0_giving 46 = .ok (.iload 5, 2) := by decide +kernel
theorem dX0_giving_48 : decode cX0_giving 48 = .ok (.ifCond .eq 14, 3) := by decide +kernel
theorem dX0_giving_51 : decode cX0_giving 51 = .ok (.iload 4, 2) := by decide +kernel
theorem dX0_giving_53 : decode cX0_giving 53 = .ok (.iload_n 1, 1) := by decide +kernel
theorem dX0_giving_54 : decode cX0_giving 54 = .ok (.iconst 3, 1) := by decide +kernel
theorem dX0_giving_55 : decode cX0_giving 55 = .ok (.idiv, 1) := by decide +kernel
theorem dX0_giving_56 : decode cX0_giving 56 = .ok (.iadd, 1) := by decide +kernel
theorem dX0_giving_57 : decode cX0_giving 57 = .ok (.iconst 1, 1) := by decide +kernel
theorem dX0_giving_58 : decode cX0_giving 58 = .ok (.iadd, 1) := by decide +kernel
theorem dX0_giving_59 : decode cX0_giving 59 = .ok (.goto 5, 3) := by decide +kernel
theorem dX0_giving_62 : decode cX0_giving 62 = .ok (.iload 4, 2) := by decide +kernel
theorem dX0_giving_64 : decode cX0_giving 64 = .ok (.ireturn, 1) := by decide +kernel
theorem dX0_tiring_0 : decode cX0_tiring 0 = .ok (.iload_n 0, 1) := by decide +kernel
theorem dX0_tiring_1 : decode cX0_tiring 1 = .ok (.ifCond .lt 19, 3) := by decide +kernel
theorem dX0_tiring_4 : decode cX0_tiring 4 = .ok (.iload_n 0, 1) := by decide +kernel
theorem dX0_tiring_5 : decode cX0_tiring 5 = .ok (.getstatic 23, 3) := by decide +kernel
theorem dX0_tiring_8 : decode cX0_tiring 8 = .ok (.arraylength, 1) := by decide +kernel
theorem dX0_tiring_9 : decode cX0_tiring 9 = .ok (.if_icmp .ge 11, 3) := by decide +kernel
theorem dX0_tiring_12 : decode cX0_tiring 12 = .ok (.getstatic 23, 3) := by decide +kernel
theorem dX0_tiring_15 : decode cX0_tiring 15 = .ok (.iload_n 0, 1) := by decide +kernel
theorem dX0_tiring_16 : decode cX0_tiring 16 = .ok (.iaload, 1) := by decide +kernel
theorem dX0_tiring_17 : decode cX0_tiring 17 = .ok (.goto 4, 3) := by decide +kernel
theorem dX0_tiring_20 : decode cX0_tiring 20 = .ok (.iconst 0, 1) := by decide +kernel
theorem dX0_tiring_21 : decode cX0_tiring 21 = .ok (.ireturn, 1) := by decide +kernel
theorem dX1_init_0 : decode cX1_init 0 = .ok (.aload_n 0, 1) := by decide +kernel
theorem dX1_init_1 : decode cX1_init 1 = .ok (.invokespecial 3, 3) := by decide +kernel
theorem dX1_init_4 : decode cX1_init 4 = .ok (.aload_n 0, 1) := by decide +kernel
theorem dX1_init_5 : decode cX1_init 5 = .ok (.iconst 1, 1) := by decide +kernel
theorem dX1_init_6 : decode cX1_init 6 = .ok (.putfield 9, 3) := by decide +kernel
theorem dX1_init_9 : decode cX1_init 9 = .ok (.aload_n 0, 1) := by decide +kernel
theorem dX1_init_10 : decode cX1_init 10 = .ok (.bipush 18, 2) := by decide +kernel
theorem dX1_init_12 : decode cX1_init 12 = .ok (.newarray .int, 2) := by decide +kernel
theorem dX1_init_14 : decode cX1_init 14 = .ok (.putfield 15, 3) := by decide +kernel
theorem dX1_init_17 : decode cX1_init 17 = .ok (.aload_n 0, 1) := by decide +kernel
theorem dX1_init_18 : decode cX1_init 18 = .ok (.bipush 6, 2) := by decide +kernel
theorem dX1_init_20 : decode cX1_init 20 = .ok (.newarray .int, 2) := by decide +kernel
theorem dX1_init_22 : decode cX1_init 22 = .ok (.putfield 19, 3) := by decide +kernel
theorem dX1_init_25 : decode cX1_init 25 = .ok (.aload_n 0, 1) := by decide +kernel
theorem dX1_init_26 : decode cX1_init 26 = .ok (.bipush 6, 2) := by decide +kernel
theorem dX1_init_28 : decode cX1_init 28 = .ok (.newarray .int, 2) := by decide +kernel
theorem dX1_init_30 : decode cX1_init 30 = .ok (.putfield 22, 3) := by decide +kernel
theorem dX1_init_33 : decode cX1_init 33 = .ok (.aload_n 0, 1) := by decide +kernel
theorem dX1_init_34 : decode cX1_init 34 = .ok (.bipush 6, 2) := by decide +kernel
theorem dX1_init_36 : decode cX1_init 36 = .ok (.newarray .int, 2) := by decide +kernel
theorem dX1_init_38 : decode cX1_init 38 = .ok (.putfield 25, 3) := by decide +kernel
theorem dX1_init_41 : decode cX1_init 41 = .ok (.aload_n 0, 1) := by decide +kernel
theorem dX1_init_42 : decode cX1_init 42 = .ok (.bipush 6, 2) := by decide +kernel
theorem dX1_init_44 : decode cX1_init 44 = .ok (.newarray .int, 2) := by decide +kernel
theorem dX1_init_46 : decode cX1_init 46 = .ok (.putfield 28, 3) := by decide +kernel
theorem dX1_init_49 : decode cX1_init 49 = .ok (.aload_n 0, 1) := by decide +kernel
theorem dX1_init_50 : decode cX1_init 50 = .ok (.bipush 6, 2) := by decide +kernel
theorem dX1_init_52 : decode cX1_init 52 = .ok (.newarray .int, 2) := by decide +kernel
theorem dX1_init_54 : decode cX1_init 54 = .ok (.putfield 31, 3) := by decide +kernel
theorem dX1_init_57 : decode cX1_init 57 = .ok (.aload_n 0, 1) := by decide +kernel
theorem dX1_init_58 : decode cX1_init 58 = .ok (.bipush 6, 2) := by decide +kernel
theorem dX1_init_60 : decode cX1_init 60 = .ok (.newarray .int, 2) := by decide +kernel
theorem dX1_init_62 : decode cX1_init 62 = .ok (.putfield 34, 3) := by decide +kernel
theorem dX1_init_65 : decode cX1_init 65 = .ok (.return_, 1) := by decide +kernel
theorem dX1_become_0 : decode cX1_become 0 = .ok (.aload_n 0, 1) := by decide +kernel
theorem dX1_become_1 : decode cX1_become 1 = .ok (.aload_n 1, 1) := by decide +kernel
theorem dX1_become_2 : decode cX1_become 2 = .ok (.getfield 37, 3) := by decide +kernel
theorem dX1_become_5 : decode cX1_become 5 = .ok (.putfield 37, 3) := by decide +kernel
theorem dX1_become_8 : decode cX1_become 8 = .ok (.aload_n 0, 1) := by decide +kernel
theorem dX1_become_9 : decode cX1_become 9 = .ok (.aload_n 1, 1) := by decide +kernel
theorem dX1_become_10 : decode cX1_become 10 = .ok (.getfield 40, 3) := by decide +kernel
theorem dX1_become_13 : decode cX1_become 13 = .ok (.putfield 40, 3) := by decide +kernel
theorem dX1_become_16 : decode cX1_become 16 = .ok (.aload_n 0, 1) := by decide +kernel
theorem dX1_become_17 : decode cX1_become 17 = .ok (.aload_n 1, 1) := by decide +kernel
theorem dX1_become_18 : decode cX1_become 18 = .ok (.getfield 9, 3) := by decide +kernel
theorem dX1_become_21 : decode cX1_become 21 = .ok (.putfield 9, 3) := by decide +kernel
theorem dX1_become_24 : decode cX1_become 24 = .ok (.aload_n 0, 1) := by decide +kernel
theorem dX1_become_25 : decode cX1_become 25 = .ok (.aload_n 1, 1) := by decide +kernel
theorem dX1_become_26 : decode cX1_become 26 = .ok (.getfield 43, 3) := by decide +kernel
theorem dX1_become_29 : decode cX1_become 29 = .ok (.putfield 43, 3) := by decide +kernel
theorem dX1_become_32 : decode cX1_become 32 = .ok (.aload_n 0, 1) := by decide +kernel
theorem dX1_become_33 : decode cX1_become 33 = .ok (.aload_n 1, 1) := by decide +kernel
theorem dX1_become_34 : decode cX1_become 34 = .ok (.getfield 46, 3) := by decide +kernel
theorem dX1_become_37 : decode cX1_become 37 = .ok (.putfield 46, 3) := by decide +kernel
theorem dX1_become_40 : decode cX1_become 40 = .ok (.aload_n 1, 1) := by decide +kernel
theorem dX1_become_41 : decode cX1_become 41 = .ok (.getfield 15, 3) := by decide +kernel
theorem dX1_become_44 : decode cX1_become 44 = .ok (.iconst 0, 1) := by decide +kernel
theorem dX1_become_45 : decode cX1_become 45 = .ok (.aload_n 0, 1) := by decide +kernel
theorem dX1_become_46 : decode cX1_become 46 = .ok (.getfield 15, 3) := by decide +kernel
theorem dX1_become_49 : decode cX1_become 49 = .ok (.iconst 0, 1) := by decide +kernel
theorem dX1_become_50 : decode cX1_become 50 = .ok (.aload_n 0, 1) := by decide +kernel
theorem dX1_become_51 : decode cX1_become 51 = .ok (.getfield 15, 3) := by decide +kernel
theorem dX1_become_54 : decode cX1_become 54 = .ok (.arraylength, 1) := by decide +kernel
theorem dX1_become_55 : decode cX1_become 55 = .ok (.invokestatic 49, 3) := by decide +kernel
theorem dX1_become_58 : decode cX1_become 58 = .ok (.aload_n 1, 1) := by decide +kernel
theorem dX1_become_59 : decode cX1_become 59 = .ok (.getfield 22, 3) := by decide +kernel
theorem dX1_become_62 : decode cX1_become 62 = .ok (.iconst 0, 1) := by decide +kernel
theorem dX1_become_63 : decode cX1_become 63 = .ok (.aload_n 0, 1) := by decide +kernel
theorem dX1_become_64 : decode cX1_become 64 = .ok (.getfield 22, 3) := by decide +kernel
theorem dX1_become_67 : decode cX1_become 67 = .ok (.iconst 0, 1) := by decide +kernel
theorem dX1_become_68 : decode cX1_become 68 = .ok (.aload_n 0, 1) := by decide +kernel
theorem dX1_become_69 : decode cX1_become 69 = .ok (.getfield 22, 3) := by decide +kernel
theorem dX1_become_72 : decode cX1_become 72 = .ok (.arraylength, 1) := by decide +kernel
theorem dX1_become_73 : decode cX1_become 73 = .ok (.invokestatic 49, 3) := by decide +kernel
theorem dX1_become_76 : decode cX1_become 76 = .ok (.aload_n 1, 1) := by decide +kernel
theorem dX1_become_77 : decode cX1_become 77 = .ok (.getfield 25, 3) := by decide +kernel
theorem dX1_become_80 : decode cX1_become 80 = .ok (.iconst 0, 1) := by decide +kernel
theorem dX1_become_81 : decode cX1_become 81 = .ok (.aload_n 0, 1) := by decide +kernel
theorem dX1_become_82 : decode cX1_become 82 = .ok (.getfield 25, 3) := by decide +kernel
theorem dX1_become_85 : decode cX1_become 85 = .ok (.iconst 0, 1) := by decide +kernel
theorem dX1_become_86 : decode cX1_become 86 = .ok (.aload_n 0, 1) := by decide +kernel
theorem dX1_become_87 : decode cX1_become 87 = .ok (.getfield 25, 3) := by decide +kernel
theorem dX1_become_90 : decode cX1_become 90 = .ok (.arraylength, 1) := by decide +kernel
theorem dX1_become_91 : decode cX1_become 91 = .ok (.invokestatic 49, 3) := by decide +kernel
theorem dX1_become_94 : decode cX1_become 94 = .ok (.aload_n 1, 1) := by decide +kernel
theorem dX1_become_95 : decode cX1_become 95 = .ok (.getfield 28, 3) := by decide +kernel
theorem dX1_become_98 : decode cX1_become 98 = .ok (.iconst 0, 1) := by decide +kernel
theorem dX1_become_99 : decode cX1_become 99 = .ok (.aload_n 0, 1) := by decide +kernel
theorem dX1_become_100 : decode cX1_become 100 = .ok (.getfield 28, 3) := by decide +kernel
theorem dX1_become_103 : decode cX1_become 103 = .ok (.iconst 0, 1) := by decide +kernel
theorem dX1_become_104 : decode cX1_become 104 = .ok (.aload_n 0, 1) := by decide +kernel
theorem dX1_become_105 : decode cX1_become 105 = .ok (.getfield 28, 3) := by decide +kernel
theorem dX1_become_108 : decode cX1_become 108 = .ok (.arraylength, 1) := by decide +kernel
theorem dX1_become_109 : decode cX1_become 109 = .ok (.invokestatic 49, 3) := by decide +kernel
theorem dX1_become_112 : decode cX1_become 112 = .ok (.aload_n 1, 1) := by decide +kernel
theorem dX1_become_113 : decode cX1_become 113 = .ok (.getfield 31, 3) := by decide +kernel
theorem dX1_become_116 : decode cX1_become 116 = .ok (.iconst 0, 1) := by decide +kernel
theorem dX1_become_117 : decode cX1_become 117 = .ok (.aload_n 0, 1) := by decide +kernel
theorem dX1_become_118 : decode cX1_become 118 = .ok (.getfield 31, 3) := by decide +kernel
theorem dX1_become_121 : decode cX1_become 121 = .ok (.iconst 0, 1) := by decide +kernel
theorem dX1_become_122 : decode cX1_become 122 = .ok (.aload_n 0, 1) := by decide +kernel
theorem dX1_become_123 : decode cX1_become 123 = .ok (.getfield 31, 3) := by decide +kernel
theorem dX1_become_126 : decode cX1_become 126 = .ok (.arraylength, 1) := by decide +kernel
theorem dX1_become_127 : decode cX1_become 127 = .ok (.invokestatic 49, 3) := by decide +kernel
theorem dX1_become_130 : decode cX1_become 130 = .ok (.return_, 1) := by decide +kernel
theorem dX1_hasFarm_0 : decode cX1_hasFarm 0 = .ok (.iload_n 1, 1) := by decide +kernel
theorem dX1_hasFarm_1 : decode cX1_hasFarm 1 = .ok (.ifCond .lt 15, 3) := by decide +kernel
theorem dX1_hasFarm_4 : decode cX1_hasFarm 4 = .ok (.iload_n 1, 1) := by decide +kernel
theorem dX1_hasFarm_5 : decode cX1_hasFarm 5 = .ok (.aload_n 0, 1) := by decide +kernel
theorem dX1_hasFarm_6 : decode cX1_hasFarm 6 = .ok (.getfield 37, 3) := by decide +kernel
theorem dX1_hasFarm_9 : decode cX1_hasFarm 9 = .ok (.if_icmp .ge 7, 3) := by decide +kernel
theorem dX1_hasFarm_12 : decode cX1_hasFarm 12 = .ok (.iconst 1, 1) := by decide +kernel
theorem dX1_hasFarm_13 : decode cX1_hasFarm 13 = .ok (.goto 4, 3) := by decide +kernel
theorem dX1_hasFarm_16 : decode cX1_hasFarm 16 = .ok (.iconst 0, 1) := by decide +kernel
theorem dX1_hasFarm_17 : decode cX1_hasFarm 17 = .ok (.ireturn, 1) := by decide +kernel
theorem dX1_hasFarmer_0 : decode cX1_hasFarmer 0 = .ok (.iload_n 1, 1) := by decide +kernel
theorem dX1_hasFarmer_1 : decode cX1_hasFarmer 1 = .ok (.ifCond .lt 15, 3) := by decide +kernel
theorem dX1_hasFarmer_4 : decode cX1_hasFarmer 4 = .ok (.iload_n 1, 1) := by decide +kernel
theorem dX1_hasFarmer_5 : decode cX1_hasFarmer 5 = .ok (.aload_n 0, 1) := by decide +kernel
theorem dX1_hasFarmer_6 : decode cX1_hasFarmer 6 = .ok (.getfield 40, 3) := by decide +kernel
theorem dX1_hasFarmer_9 : decode cX1_hasFarmer 9 = .ok (.if_icmp .ge 7, 3) := by decide +kernel
theorem dX1_hasFarmer_12 : decode cX1_hasFarmer 12 = .ok (.iconst 1, 1) := by decide +kernel
theorem dX1_hasFarmer_13 : decode cX1_hasFarmer 13 = .ok (.goto 4, 3) := by decide +kernel
theorem dX1_hasFarmer_16 : decode cX1_hasFarmer 16 = .ok (.iconst 0, 1) := by decide +kernel
theorem dX1_hasFarmer_17 : decode cX1_hasFarmer 17 = .ok (.ireturn, 1) := by decide +kernel
theorem dX1_hasSort_0 : decode cX1_hasSort 0 = .ok (.iload_n 0, 1) := by decide +kernel
theorem dX1_hasSort_1 : decode cX1_hasSort 1 = .ok (.ifCond .lt 12, 3) := by decide +kernel
theorem dX1_hasSort_4 : decode cX1_hasSort 4 = .ok (.iload_n 0, 1) := by decide +kernel
theorem dX1_hasSort_5 : decode cX1_hasSort 5 = .ok (.iconst 3, 1) := by decide +kernel
theorem dX1_hasSort_6 : decode cX1_hasSort 6 = .ok (.if_icmp .ge 7, 3) := by decide +kernel
theorem dX1_hasSort_9 : decode cX1_hasSort 9 = .ok (.iconst 1, 1) := by decide +kernel
theorem dX1_hasSort_10 : decode cX1_hasSort 10 = .ok (.goto 4, 3) := by decide +kernel
theorem dX1_hasSort_13 : decode cX1_hasSort 13 = .ok (.iconst 0, 1) := by decide +kernel
theorem dX1_hasSort_14 : decode cX1_hasSort 14 = .ok (.ireturn, 1) := by decide +kernel
theorem dX1_hasYears_0 : decode cX1_hasYears 0 = .ok (.iload_n 1, 1) := by decide +kernel
theorem dX1_hasYears_1 : decode cX1_hasYears 1 = .ok (.sipush 999, 3) := by decide +kernel
theorem dX1_hasYears_4 : decode cX1_hasYears 4 = .ok (.aload_n 0, 1) := by decide +kernel
theorem dX1_hasYears_5 : decode cX1_hasYears 5 = .ok (.getfield 46, 3) := by decide +kernel
theorem dX1_hasYears_8 : decode cX1_hasYears 8 = .ok (.isub, 1) := by decide +kernel
theorem dX1_hasYears_9 : decode cX1_hasYears 9 = .ok (.if_icmp .gt 7, 3) := by decide +kernel
theorem dX1_hasYears_12 : decode cX1_hasYears 12 = .ok (.iconst 1, 1) := by decide +kernel
theorem dX1_hasYears_13 : decode cX1_hasYears 13 = .ok (.goto 4, 3) := by decide +kernel
theorem dX1_hasYears_16 : decode cX1_hasYears 16 = .ok (.iconst 0, 1) := by decide +kernel
theorem dX1_hasYears_17 : decode cX1_hasYears 17 = .ok (.ireturn, 1) := by decide +kernel
theorem dX1_heartOf_0 : decode cX1_heartOf 0 = .ok (.iconst 3, 1) := by decide +kernel
theorem dX1_heartOf_1 : decode cX1_heartOf 1 = .ok (.iload_n 1, 1) := by decide +kernel
theorem dX1_heartOf_2 : decode cX1_heartOf 2 = .ok (.imul, 1) := by decide +kernel
theorem dX1_heartOf_3 : decode cX1_heartOf 3 = .ok (.iload_n 2, 1) := by decide +kernel
theorem dX1_heartOf_4 : decode cX1_heartOf 4 = .ok (.iadd, 1) := by decide +kernel
theorem dX1_heartOf_5 : decode cX1_heartOf 5 = .ok (.istore_n 3, 1) := by decide +kernel
theorem dX1_heartOf_6 : decode cX1_heartOf 6 = .ok (.iload_n 3, 1) := by decide +kernel
theorem dX1_heartOf_7 : decode cX1_heartOf 7 = .ok (.ifCond .lt 21, 3) := by decide +kernel
theorem dX1_heartOf_10 : decode cX1_heartOf 10 = .ok (.iload_n 3, 1) := by decide +kernel
theorem dX1_heartOf_11 : decode cX1_heartOf 11 = .ok (.aload_n 0, 1) := by decide +kernel
theorem dX1_heartOf_12 : decode cX1_heartOf 12 = .ok (.getfield 15, 3) := by decide +kernel
theorem dX1_heartOf_15 : decode cX1_heartOf 15 = .ok (.arraylength, 1) := by decide +kernel
theorem dX1_heartOf_16 : decode cX1_heartOf 16 = .ok (.if_icmp .ge 12, 3) := by decide +kernel
theorem dX1_heartOf_19 : decode cX1_heartOf 19 = .ok (.aload_n 0, 1) := by decide +kernel
theorem dX1_heartOf_20 : decode cX1_heartOf 20 = .ok (.getfield 15, 3) := by decide +kernel
theorem dX1_heartOf_23 : decode cX1_heartOf 23 = .ok (.iload_n 3, 1) := by decide +kernel
theorem dX1_heartOf_24 : decode cX1_heartOf 24 = .ok (.iaload, 1) := by decide +kernel
theorem dX1_heartOf_25 : decode cX1_heartOf 25 = .ok (.goto 4, 3) := by decide +kernel
theorem dX1_heartOf_28 : decode cX1_heartOf 28 = .ok (.iconst 0, 1) := by decide +kernel
theorem dX1_heartOf_29 : decode cX1_heartOf 29 = .ok (.ireturn, 1) := by decide +kernel
theorem dX1_setHeart_0 : decode cX1_setHeart 0 = .ok (.iconst 3, 1) := by decide +kernel
theorem dX1_setHeart_1 : decode cX1_setHeart 1 = .ok (.iload_n 1, 1) := by decide +kernel
theorem dX1_setHeart_2 : decode cX1_setHeart 2 = .ok (.imul, 1) := by decide +kernel
theorem dX1_setHeart_3 : decode cX1_setHeart 3 = .ok (.iload_n 2, 1) := by decide +kernel
theorem dX1_setHeart_4 : decode cX1_setHeart 4 = .ok (.iadd, 1) := by decide +kernel
theorem dX1_setHeart_5 : decode cX1_setHeart 5 = .ok (.istore 4, 2) := by decide +kernel
theorem dX1_setHeart_7 : decode cX1_setHeart 7 = .ok (.iload 4, 2) := by decide +kernel
theorem dX1_setHeart_9 : decode cX1_setHeart 9 = .ok (.ifCond .lt 21, 3) := by decide +kernel
theorem dX1_setHeart_12 : decode cX1_setHeart 12 = .ok (.iload 4, 2) := by decide +kernel
theorem dX1_setHeart_14 : decode cX1_setHeart 14 = .ok (.aload_n 0, 1) := by decide +kernel
theorem dX1_setHeart_15 : decode cX1_setHeart 15 = .ok (.getfield 15, 3) := by decide +kernel
theorem dX1_setHeart_18 : decode cX1_setHeart 18 = .ok (.arraylength, 1) := by decide +kernel
theorem dX1_setHeart_19 : decode cX1_setHeart 19 = .ok (.if_icmp .ge 11, 3) := by decide +kernel
theorem dX1_setHeart_22 : decode cX1_setHeart 22 = .ok (.aload_n 0, 1) := by decide +kernel
theorem dX1_setHeart_23 : decode cX1_setHeart 23 = .ok (.getfield 15, 3) := by decide +kernel
theorem dX1_setHeart_26 : decode cX1_setHeart 26 = .ok (.iload 4, 2) := by decide +kernel
theorem dX1_setHeart_28 : decode cX1_setHeart 28 = .ok (.iload_n 3, 1) := by decide +kernel
theorem dX1_setHeart_29 : decode cX1_setHeart 29 = .ok (.iastore, 1) := by decide +kernel
theorem dX1_setHeart_30 : decode cX1_setHeart 30 = .ok (.return_, 1) := by decide +kernel
theorem dX1_addFarm_0 : decode cX1_addFarm 0 = .ok (.aload_n 0, 1) := by decide +kernel
theorem dX1_addFarm_1 : decode cX1_addFarm 1 = .ok (.getfield 37, 3) := by decide +kernel
theorem dX1_addFarm_4 : decode cX1_addFarm 4 = .ok (.bipush 6, 2) := by decide +kernel
theorem dX1_addFarm_6 : decode cX1_addFarm 6 = .ok (.if_icmp .lt 4, 3) := by decide +kernel
theorem dX1_addFarm_9 : decode cX1_addFarm 9 = .ok (.return_, 1) := by decide +kernel
theorem dX1_addFarm_10 : decode cX1_addFarm 10 = .ok (.aload_n 0, 1) := by decide +kernel
theorem dX1_addFarm_11 : decode cX1_addFarm 11 = .ok (.aload_n 0, 1) := by decide +kernel
theorem dX1_addFarm_12 : decode cX1_addFarm 12 = .ok (.getfield 37, 3) := by decide +kernel
theorem dX1_addFarm_15 : decode cX1_addFarm 15 = .ok (.iconst 0, 1) := by decide +kernel
theorem dX1_addFarm_16 : decode cX1_addFarm 16 = .ok (.iload_n 1, 1) := by decide +kernel
theorem dX1_addFarm_17 : decode cX1_addFarm 17 = .ok (.invokevirtual 55, 3) := by decide +kernel
theorem dX1_addFarm_20 : decode cX1_addFarm 20 = .ok (.aload_n 0, 1) := by decide +kernel
theorem dX1_addFarm_21 : decode cX1_addFarm 21 = .ok (.aload_n 0, 1) := by decide +kernel
theorem dX1_addFarm_22 : decode cX1_addFarm 22 = .ok (.getfield 37, 3) := by decide +kernel
theorem dX1_addFarm_25 : decode cX1_addFarm 25 = .ok (.iconst 1, 1) := by decide +kernel
theorem dX1_addFarm_26 : decode cX1_addFarm 26 = .ok (.iload_n 2, 1) := by decide +kernel
theorem dX1_addFarm_27 : decode cX1_addFarm 27 = .ok (.invokevirtual 55, 3) := by decide +kernel
theorem dX1_addFarm_30 : decode cX1_addFarm 30 = .ok (.aload_n 0, 1) := by decide +kernel
theorem dX1_addFarm_31 : decode cX1_addFarm 31 = .ok (.aload_n 0, 1) := by decide +kernel
theorem dX1_addFarm_32 : decode cX1_addFarm 32 = .ok (.getfield 37, 3) := by decide +kernel
theorem dX1_addFarm_35 : decode cX1_addFarm 35 = .ok (.iconst 2, 1) := by decide +kernel
theorem dX1_addFarm_36 : decode cX1_addFarm 36 = .ok (.iload_n 3, 1) := by decide +kernel
theorem dX1_addFarm_37 : decode cX1_addFarm 37 = .ok (.invokevirtual 55, 3) := by decide +kernel
theorem dX1_addFarm_40 : decode cX1_addFarm 40 = .ok (.aload_n 0, 1) := by decide +kernel
theorem dX1_addFarm_41 : decode cX1_addFarm 41 = .ok (.dup, 1) := by decide +kernel
theorem dX1_addFarm_42 : decode cX1_addFarm 42 = .ok (.getfield 37, 3) := by decide +kernel
theorem dX1_addFarm_45 : decode cX1_addFarm 45 = .ok (.iconst 1, 1) := by decide +kernel
theorem dX1_addFarm_46 : decode cX1_addFarm 46 = .ok (.iadd, 1) := by decide +kernel
theorem dX1_addFarm_47 : decode cX1_addFarm 47 = .ok (.putfield 37, 3) := by decide +kernel
theorem dX1_addFarm_50 : decode cX1_addFarm 50 = .ok (.return_, 1) := by decide +kernel
theorem dX1_addFarmer_0 : decode cX1_addFarmer 0 = .ok (.aload_n 0, 1) := by decide +kernel
theorem dX1_addFarmer_1 : decode cX1_addFarmer 1 = .ok (.getfield 40, 3) := by decide +kernel
theorem dX1_addFarmer_4 : decode cX1_addFarmer 4 = .ok (.bipush 6, 2) := by decide +kernel
theorem dX1_addFarmer_6 : decode cX1_addFarmer 6 = .ok (.if_icmp .lt 4, 3) := by decide +kernel
theorem dX1_addFarmer_9 : decode cX1_addFarmer 9 = .ok (.return_, 1) := by decide +kernel
theorem dX1_addFarmer_10 : decode cX1_addFarmer 10 = .ok (.aload_n 0, 1) := by decide +kernel
theorem dX1_addFarmer_11 : decode cX1_addFarmer 11 = .ok (.getfield 22, 3) := by decide +kernel
theorem dX1_addFarmer_14 : decode cX1_addFarmer 14 = .ok (.aload_n 0, 1) := by decide +kernel
theorem dX1_addFarmer_15 : decode cX1_addFarmer 15 = .ok (.getfield 40, 3) := by decide +kernel
theorem dX1_addFarmer_18 : decode cX1_addFarmer 18 = .ok (.iload_n 1, 1) := by decide +kernel
theorem dX1_addFarmer_19 : decode cX1_addFarmer 19 = .ok (.iastore, 1) := by decide +kernel
theorem dX1_addFarmer_20 : decode cX1_addFarmer 20 = .ok (.aload_n 0, 1) := by decide +kernel
theorem dX1_addFarmer_21 : decode cX1_addFarmer 21 = .ok (.getfield 25, 3) := by decide +kernel
theorem dX1_addFarmer_24 : decode cX1_addFarmer 24 = .ok (.aload_n 0, 1) := by decide +kernel
theorem dX1_addFarmer_25 : decode cX1_addFarmer 25 = .ok (.getfield 40, 3) := by decide +kernel
theorem dX1_addFarmer_28 : decode cX1_addFarmer 28 = .ok (.iload_n 2, 1) := by decide +kernel
theorem dX1_addFarmer_29 : decode cX1_addFarmer 29 = .ok (.iastore, 1) := by decide +kernel
theorem dX1_addFarmer_30 : decode cX1_addFarmer 30 = .ok (.aload_n 0, 1) := by decide +kernel
theorem dX1_addFarmer_31 : decode cX1_addFarmer 31 = .ok (.getfield 28, 3) := by decide +kernel
theorem dX1_addFarmer_34 : decode cX1_addFarmer 34 = .ok (.aload_n 0, 1) := by decide +kernel
theorem dX1_addFarmer_35 : decode cX1_addFarmer 35 = .ok (.getfield 40, 3) := by decide +kernel
theorem dX1_addFarmer_38 : decode cX1_addFarmer 38 = .ok (.iconst 0, 1) := by decide +kernel
theorem dX1_addFarmer_39 : decode cX1_addFarmer 39 = .ok (.iastore, 1) := by decide +kernel
theorem dX1_addFarmer_40 : decode cX1_addFarmer 40 = .ok (.aload_n 0, 1) := by decide +kernel
theorem dX1_addFarmer_41 : decode cX1_addFarmer 41 = .ok (.getfield 31, 3) := by decide +kernel
theorem dX1_addFarmer_44 : decode cX1_addFarmer 44 = .ok (.aload_n 0, 1) := by decide +kernel
theorem dX1_addFarmer_45 : decode cX1_addFarmer 45 = .ok (.getfield 40, 3) := by decide +kernel
theorem dX1_addFarmer_48 : decode cX1_addFarmer 48 = .ok (.bipush (-9), 2) := by decide +kernel
theorem dX1_addFarmer_50 : decode cX1_addFarmer 50 = .ok (.iastore, 1) := by decide +kernel
theorem dX1_addFarmer_51 : decode cX1_addFarmer 51 = .ok (.aload_n 0, 1) := by decide +kernel
theorem dX1_addFarmer_52 : decode cX1_addFarmer 52 = .ok (.dup, 1) := by decide +kernel
theorem dX1_addFarmer_53 : decode cX1_addFarmer 53 = .ok (.getfield 40, 3) := by decide +kernel
theorem dX1_addFarmer_56 : decode cX1_addFarmer 56 = .ok (.iconst 1, 1) := by decide +kernel
theorem dX1_addFarmer_57 : decode cX1_addFarmer 57 = .ok (.iadd, 1) := by decide +kernel
theorem dX1_addFarmer_58 : decode cX1_addFarmer 58 = .ok (.putfield 40, 3) := by decide +kernel
theorem dX1_addFarmer_61 : decode cX1_addFarmer 61 = .ok (.return_, 1) := by decide +kernel
theorem dX1_seat_0 : decode cX1_seat 0 = .ok (.aload_n 0, 1) := by decide +kernel
theorem dX1_seat_1 : decode cX1_seat 1 = .ok (.iload_n 2, 1) := by decide +kernel
theorem dX1_seat_2 : decode cX1_seat 2 = .ok (.invokevirtual 59, 3) := by decide +kernel
theorem dX1_seat_5 : decode cX1_seat 5 = .ok (.istore_n 3, 1) := by decide +kernel
theorem dX1_seat_6 : decode cX1_seat 6 = .ok (.iload_n 3, 1) := by decide +kernel
theorem dX1_seat_7 : decode cX1_seat 7 = .ok (.bipush (-9), 2) := by decide +kernel
theorem dX1_seat_9 : decode cX1_seat 9 = .ok (.if_icmp .eq 11, 3) := by decide +kernel
theorem dX1_seat_12 : decode cX1_seat 12 = .ok (.aload_n 0, 1) := by decide +kernel
theorem dX1_seat_13 : decode cX1_seat 13 = .ok (.getfield 31, 3) := by decide +kernel
theorem dX1_seat_16 : decode cX1_seat 16 = .ok (.iload_n 3, 1) := by decide +kernel
theorem dX1_seat_17 : decode cX1_seat 17 = .ok (.bipush (-9), 2) := by decide +kernel
theorem dX1_seat_19 : decode cX1_seat 19 = .ok (.iastore, 1) := by decide +kernel
theorem dX1_seat_20 : decode cX1_seat 20 = .ok (.aload_n 0, 1) := by decide +kernel
theorem dX1_seat_21 : decode cX1_seat 21 = .ok (.getfield 31, 3) := by decide +kernel
theorem dX1_seat_24 : decode cX1_seat 24 = .ok (.iload_n 1, 1) := by decide +kernel
theorem dX1_seat_25 : decode cX1_seat 25 = .ok (.iload_n 2, 1) := by decide +kernel
theorem dX1_seat_26 : decode cX1_seat 26 = .ok (.iastore, 1) := by decide +kernel
theorem dX1_seat_27 : decode cX1_seat 27 = .ok (.return_, 1) := by decide +kernel
theorem dX1_exchange_0 : decode cX1_exchange 0 = .ok (.aload_n 0, 1) := by decide +kernel
theorem dX1_exchange_1 : decode cX1_exchange 1 = .ok (.getfield 31, 3) := by decide +kernel
theorem dX1_exchange_4 : decode cX1_exchange 4 = .ok (.iload_n 1, 1) := by decide +kernel
theorem dX1_exchange_5 : decode cX1_exchange 5 = .ok (.iaload, 1) := by decide +kernel
theorem dX1_exchange_6 : decode cX1_exchange 6 = .ok (.istore_n 3, 1) := by decide +kernel
theorem dX1_exchange_7 : decode cX1_exchange 7 = .ok (.aload_n 0, 1) := by decide +kernel
theorem dX1_exchange_8 : decode cX1_exchange 8 = .ok (.getfield 31, 3) := by decide +kernel
theorem dX1_exchange_11 : decode cX1_exchange 11 = .ok (.iload_n 1, 1) := by decide +kernel
theorem dX1_exchange_12 : decode cX1_exchange 12 = .ok (.aload_n 0, 1) := by decide +kernel
theorem dX1_exchange_13 : decode cX1_exchange 13 = .ok (.getfield 31, 3) := by decide +kernel
theorem dX1_exchange_16 : decode cX1_exchange 16 = .ok (.iload_n 2, 1) := by decide +kernel
theorem dX1_exchange_17 : decode cX1_exchange 17 = .ok (.iaload, 1) := by decide +kernel
theorem dX1_exchange_18 : decode cX1_exchange 18 = .ok (.iastore, 1) := by decide +kernel
theorem dX1_exchange_19 : decode cX1_exchange 19 = .ok (.aload_n 0, 1) := by decide +kernel
theorem dX1_exchange_20 : decode cX1_exchange 20 = .ok (.getfield 31, 3) := by decide +kernel
theorem dX1_exchange_23 : decode cX1_exchange 23 = .ok (.iload_n 2, 1) := by decide +kernel
theorem dX1_exchange_24 : decode cX1_exchange 24 = .ok (.iload_n 3, 1) := by decide +kernel
theorem dX1_exchange_25 : decode cX1_exchange 25 = .ok (.iastore, 1) := by decide +kernel
theorem dX1_exchange_26 : decode cX1_exchange 26 = .ok (.return_, 1) := by decide +kernel
theorem dX1_tenantOf_0 : decode cX1_tenantOf 0 = .ok (.iconst 0, 1) := by decide +kernel
theorem dX1_tenantOf_1 : decode cX1_tenantOf 1 = .ok (.istore_n 2, 1) := by decide +kernel
theorem dX1_tenantOf_2 : decode cX1_tenantOf 2 = .ok (.iload_n 2, 1) := by decide +kernel
theorem dX1_tenantOf_3 : decode cX1_tenantOf 3 = .ok (.aload_n 0, 1) := by decide +kernel
theorem dX1_tenantOf_4 : decode cX1_tenantOf 4 = .ok (.getfield 40, 3) := by decide +kernel
theorem dX1_tenantOf_7 : decode cX1_tenantOf 7 = .ok (.if_icmp .ge 21, 3) := by decide +kernel
theorem dX1_tenantOf_10 : decode cX1_tenantOf 10 = .ok (.aload_n 0, 1) := by decide +kernel
theorem dX1_tenantOf_11 : decode cX1_tenantOf 11 = .ok (.getfield 31, 3) := by decide +kernel
theorem dX1_tenantOf_14 : decode cX1_tenantOf 14 = .ok (.iload_n 2, 1) := by decide +kernel
theorem dX1_tenantOf_15 : decode cX1_tenantOf 15 = .ok (.iaload, 1) := by decide +kernel
theorem dX1_tenantOf_16 : decode cX1_tenantOf 16 = .ok (.iload_n 1, 1) := by decide +kernel
theorem dX1_tenantOf_17 : decode cX1_tenantOf 17 = .ok (.if_icmp .ne 5, 3) := by decide +kernel
theorem dX1_tenantOf_20 : decode cX1_tenantOf 20 = .ok (.iload_n 2, 1) := by decide +kernel
theorem dX1_tenantOf_21 : decode cX1_tenantOf 21 = .ok (.ireturn, 1) := by decide +kernel
theorem dX1_tenantOf_22 : decode cX1_tenantOf 22 = .ok (.iinc 2 1, 3) := by decide +kernel
theorem dX1_tenantOf_25 : decode cX1_tenantOf 25 = .ok (.goto (-23), 3) := by decide +kernel
theorem dX1_tenantOf_28 : decode cX1_tenantOf 28 = .ok (.bipush (-9), 2) := by decide +kernel
theorem dX1_tenantOf_30 : decode cX1_tenantOf 30 = .ok (.ireturn, 1) := by decide +kernel
theorem dX1_greenOf_0 : decode cX1_greenOf 0 = .ok (.aload_n 0, 1) := by decide +kernel
theorem dX1_greenOf_1 : decode cX1_greenOf 1 = .ok (.iload_n 1, 1) := by decide +kernel
theorem dX1_greenOf_2 : decode cX1_greenOf 2 = .ok (.iconst 0, 1) := by decide +kernel
theorem dX1_greenOf_3 : decode cX1_greenOf 3 = .ok (.invokevirtual 63, 3) := by decide +kernel
theorem dX1_greenOf_6 : decode cX1_greenOf 6 = .ok (.aload_n 0, 1) := by decide +kernel
theorem dX1_greenOf_7 : decode cX1_greenOf 7 = .ok (.iload_n 1, 1) := by decide +kernel
theorem dX1_greenOf_8 : decode cX1_greenOf 8 = .ok (.iconst 1, 1) := by decide +kernel
theorem dX1_greenOf_9 : decode cX1_greenOf 9 = .ok (.invokevirtual 63, 3) := by decide +kernel
theorem dX1_greenOf_12 : decode cX1_greenOf 12 = .ok (.iadd, 1) := by decide +kernel
theorem dX1_greenOf_13 : decode cX1_greenOf 13 = .ok (.aload_n 0, 1) := by decide +kernel
theorem dX1_greenOf_14 : decode cX1_greenOf 14 = .ok (.iload_n 1, 1) := by decide +kernel
theorem dX1_greenOf_15 : decode cX1_greenOf 15 = .ok (.iconst 2, 1) := by decide +kernel
theorem dX1_greenOf_16 : decode cX1_greenOf 16 = .ok (.invokevirtual 63, 3) := by decide +kernel
theorem dX1_greenOf_19 : decode cX1_greenOf 19 = .ok (.iadd, 1) := by decide +kernel
theorem dX1_greenOf_20 : decode cX1_greenOf 20 = .ok (.ireturn, 1) := by decide +kernel
theorem dX1_greenOfAll_0 : decode cX1_greenOfAll 0 = .ok (.iconst 0, 1) := by decide +kernel
theorem dX1_greenOfAll_1 : decode cX1_greenOfAll 1 = .ok (.istore_n 1, 1) := by decide +kernel
theorem dX1_greenOfAll_2 : decode cX1_greenOfAll 2 = .ok (.iconst 0, 1) := by decide +kernel
theorem dX1_greenOfAll_3 : decode cX1_greenOfAll 3 = .ok (.istore_n 2, 1) := by decide +kernel
theorem dX1_greenOfAll_4 : decode cX1_greenOfAll 4 = .ok (.iload_n 2, 1) := by decide +kernel
theorem dX1_greenOfAll_5 : decode cX1_greenOfAll 5 = .ok (.aload_n 0, 1) := by decide +kernel
theorem dX1_greenOfAll_6 : decode cX1_greenOfAll 6 = .ok (.getfield 37, 3) := by decide +kernel
theorem dX1_greenOfAll_9 : decode cX1_greenOfAll 9 = .ok (.if_icmp .ge 17, 3) := by decide +kernel
theorem dX1_greenOfAll_12 : decode cX1_greenOfAll 12 = .ok (.iload_n 1, 1) := by decide +kernel
theorem dX1_greenOfAll_13 : decode cX1_greenOfAll 13 = .ok (.aload_n 0, 1) := by decide +kernel
theorem dX1_greenOfAll_14 : decode cX1_greenOfAll 14 = .ok (.iload_n 2, 1) := by decide +kernel
theorem dX1_greenOfAll_15 : decode cX1_greenOfAll 15 = .ok (.invokevirtual 67, 3) := by decide +kernel
theorem dX1_greenOfAll_18 : decode cX1_greenOfAll 18 = .ok (.iadd, 1) := by decide +kernel
theorem dX1_greenOfAll_19 : decode cX1_greenOfAll 19 = .ok (.istore_n 1, 1) := by decide +kernel
theorem dX1_greenOfAll_20 : decode cX1_greenOfAll 20 = .ok (.iinc 2 1, 3) := by decide +kernel
theorem dX1_greenOfAll_23 : decode cX1_greenOfAll 23 = .ok (.goto (-19), 3) := by decide +kernel
theorem dX1_greenOfAll_26 : decode cX1_greenOfAll 26 = .ok (.iload_n 1, 1) := by decide +kernel
theorem dX1_greenOfAll_27 : decode cX1_greenOfAll 27 = .ok (.ireturn, 1) := by decide +kernel
theorem dX1_greenestFarm_0 : decode cX1_greenestFarm 0 = .ok (.bipush (-9), 2) := by decide +kernel
theorem dX1_greenestFarm_2 : decode cX1_greenestFarm 2 = .ok (.istore_n 1, 1) := by decide +kernel
theorem dX1_greenestFarm_3 : decode cX1_greenestFarm 3 = .ok (.iconst 0, 1) := by decide +kernel
theorem dX1_greenestFarm_4 : decode cX1_greenestFarm 4 = .ok (.istore_n 2, 1) := by decide +kernel
theorem dX1_greenestFarm_5 : decode cX1_greenestFarm 5 = .ok (.iload_n 2, 1) := by decide +kernel
theorem dX1_greenestFarm_6 : decode cX1_greenestFarm 6 = .ok (.aload_n 0, 1) := by decide +kernel
theorem dX1_greenestFarm_7 : decode cX1_greenestFarm 7 = .ok (.getfield 37, 3) := by decide +kernel
theorem dX1_greenestFarm_10 : decode cX1_greenestFarm 10 = .ok (.if_icmp .ge 30, 3) := by decide +kernel
theorem dX1_greenestFarm_13 : decode cX1_greenestFarm 13 = .ok (.iload_n 1, 1) := by decide +kernel
theorem dX1_greenestFarm_14 : decode cX1_greenestFarm 14 = .ok (.bipush (-9), 2) := by decide +kernel
theorem dX1_greenestFarm_16 : decode cX1_greenestFarm 16 = .ok (.if_icmp .eq 16, 3) := by decide +kernel
theorem dX1_greenestFarm_19 : decode cX1_greenestFarm 19 = .ok (.aload_n 0, 1) := by decide +kernel
theorem dX1_greenestFarm_20 : decode cX1_greenestFarm 20 = .ok (.iload_n 2, 1) := by decide +kernel
theorem dX1_greenestFarm_21 : decode cX1_greenestFarm 21 = .ok (.invokevirtual 67, 3) := by decide +kernel
theorem dX1_greenestFarm_24 : decode cX1_greenestFarm 24 = .ok (.aload_n 0, 1) := by decide +kernel
theorem dX1_greenestFarm_25 : decode cX1_greenestFarm 25 = .ok (.iload_n 1, 1) := by decide +kernel
theorem dX1_greenestFarm_26 : decode cX1_greenestFarm 26 = .ok (.invokevirtual 67, 3) := by decide +kernel
theorem dX1_greenestFarm_29 : decode cX1_greenestFarm 29 = .ok (.if_icmp .le 5, 3) := by decide +kernel
theorem dX1_greenestFarm_32 : decode cX1_greenestFarm 32 = .ok (.iload_n 2, 1) := by decide +kernel
theorem dX1_greenestFarm_33 : decode cX1_greenestFarm 33 = .ok (.istore_n 1, 1) := by decide +kernel
theorem dX1_greenestFarm_34 : decode cX1_greenestFarm 34 = .ok (.iinc 2 1, 3) := by decide +kernel
theorem dX1_greenestFarm_37 : decode cX1_greenestFarm 37 = .ok (.goto (-32), 3) := by decide +kernel
theorem dX1_greenestFarm_40 : decode cX1_greenestFarm 40 = .ok (.iload_n 1, 1) := by decide +kernel
theorem dX1_greenestFarm_41 : decode cX1_greenestFarm 41 = .ok (.ireturn, 1) := by decide +kernel
theorem dX1_mostGreen_0 : decode cX1_mostGreen 0 = .ok (.aload_n 0, 1) := by decide +kernel
theorem dX1_mostGreen_1 : decode cX1_mostGreen 1 = .ok (.invokevirtual 70, 3) := by decide +kernel
theorem dX1_mostGreen_4 : decode cX1_mostGreen 4 = .ok (.istore_n 1, 1) := by decide +kernel
theorem dX1_mostGreen_5 : decode cX1_mostGreen 5 = .ok (.iload_n 1, 1) := by decide +kernel
theorem dX1_mostGreen_6 : decode cX1_mostGreen 6 = .ok (.bipush (-9), 2) := by decide +kernel
theorem dX1_mostGreen_8 : decode cX1_mostGreen 8 = .ok (.if_icmp .ne 7, 3) := by decide +kernel
theorem dX1_mostGreen_11 : decode cX1_mostGreen 11 = .ok (.iconst 0, 1) := by decide +kernel
theorem dX1_mostGreen_12 : decode cX1_mostGreen 12 = .ok (.goto 8, 3) := by decide +kernel
theorem dX1_mostGreen_15 : decode cX1_mostGreen 15 = .ok (.aload_n 0, 1) := by decide +kernel
theorem dX1_mostGreen_16 : decode cX1_mostGreen 16 = .ok (.iload_n 1, 1) := by decide +kernel
theorem dX1_mostGreen_17 : decode cX1_mostGreen 17 = .ok (.invokevirtual 67, 3) := by decide +kernel
theorem dX1_mostGreen_20 : decode cX1_mostGreen 20 = .ok (.ireturn, 1) := by decide +kernel
theorem dX1_leastGreen_0 : decode cX1_leastGreen 0 = .ok (.aload_n 0, 1) := by decide +kernel
theorem dX1_leastGreen_1 : decode cX1_leastGreen 1 = .ok (.invokevirtual 74, 3) := by decide +kernel
theorem dX1_leastGreen_4 : decode cX1_leastGreen 4 = .ok (.istore_n 1, 1) := by decide +kernel
theorem dX1_leastGreen_5 : decode cX1_leastGreen 5 = .ok (.iconst 0, 1) := by decide +kernel
theorem dX1_leastGreen_6 : decode cX1_leastGreen 6 = .ok (.istore_n 2, 1) := by decide +kernel
theorem dX1_leastGreen_7 : decode cX1_leastGreen 7 = .ok (.iload_n 2, 1) := by decide +kernel
theorem dX1_leastGreen_8 : decode cX1_leastGreen 8 = .ok (.aload_n 0, 1) := by decide +kernel
theorem dX1_leastGreen_9 : decode cX1_leastGreen 9 = .ok (.getfield 37, 3) := by decide +kernel
theorem dX1_leastGreen_12 : decode cX1_leastGreen 12 = .ok (.if_icmp .ge 19, 3) := by decide +kernel
theorem dX1_leastGreen_15 : decode cX1_leastGreen 15 = .ok (.iload_n 1, 1) := by decide +kernel
theorem dX1_leastGreen_16 : decode cX1_leastGreen 16 = .ok (.aload_n 0, 1) := by decide +kernel
theorem dX1_leastGreen_17 : decode cX1_leastGreen 17 = .ok (.iload_n 2, 1) := by decide +kernel
theorem dX1_leastGreen_18 : decode cX1_leastGreen 18 = .ok (.invokevirtual 67, 3) := by decide +kernel
theorem dX1_leastGreen_21 : decode cX1_leastGreen 21 = .ok (.invokestatic 77, 3) := by decide +kernel
theorem dX1_leastGreen_24 : decode cX1_leastGreen 24 = .ok (.istore_n 1, 1) := by decide +kernel
theorem dX1_leastGreen_25 : decode cX1_leastGreen 25 = .ok (.iinc 2 1, 3) := by decide +kernel
theorem dX1_leastGreen_28 : decode cX1_leastGreen 28 = .ok (.goto (-21), 3) := by decide +kernel
theorem dX1_leastGreen_31 : decode cX1_leastGreen 31 = .ok (.iload_n 1, 1) := by decide +kernel
theorem dX1_leastGreen_32 : decode cX1_leastGreen 32 = .ok (.ireturn, 1) := by decide +kernel
theorem dX1_firstBarrenFarm_0 : decode cX1_firstBarrenFarm 0 = .ok (.iconst 0, 1) := by decide +kernel
theorem dX1_firstBarrenFarm_1 : decode cX1_firstBarrenFarm 1 = .ok (.istore_n 1, 1) := by decide +kernel
theorem dX1_firstBarrenFarm_2 : decode cX1_firstBarrenFarm 2 = .ok (.iload_n 1, 1) := by decide +kernel
theorem dX1_firstBarrenFarm_3 : decode cX1_firstBarrenFarm 3 = .ok (.aload_n 0, 1) := by decide +kernel
theorem dX1_firstBarrenFarm_4 : decode cX1_firstBarrenFarm 4 = .ok (.getfield 37, 3) := by decide +kernel
theorem dX1_firstBarrenFarm_7 : decode cX1_firstBarrenFarm 7 = .ok (.if_icmp .ge 38, 3) := by decide +kernel
theorem dX1_firstBarrenFarm_10 : decode cX1_firstBarrenFarm 10 = .ok (.aload_n 0, 1) := by decide +kernel
theorem dX1_firstBarrenFarm_11 : decode cX1_firstBarrenFarm 11 = .ok (.iload_n 1, 1) := by decide +kernel
theorem dX1_firstBarrenFarm_12 : decode cX1_firstBarrenFarm 12 = .ok (.iconst 0, 1) := by decide +kernel
theorem dX1_firstBarrenFarm_13 : decode cX1_firstBarrenFarm 13 = .ok (.invokevirtual 63, 3) := by decide +kernel
theorem dX1_firstBarrenFarm_16 : decode cX1_firstBarrenFarm 16 = .ok (.ifCond .eq 21, 3) := by decide +kernel
theorem dX1_firstBarrenFarm_19 : decode cX1_firstBarrenFarm 19 = .ok (.aload_n 0, 1) := by decide +kernel
theorem dX1_firstBarrenFarm_20 : decode cX1_firstBarrenFarm 20 = .ok (.iload_n 1, 1) := by decide +kernel
theorem dX1_firstBarrenFarm_21 : decode cX1_firstBarrenFarm 21 = .ok (.iconst 1, 1) := by decide +kernel
theorem dX1_firstBarrenFarm_22 : decode cX1_firstBarrenFarm 22 = .ok (.invokevirtual 63, 3) := by decide +kernel
theorem dX1_firstBarrenFarm_25 : decode cX1_firstBarrenFarm 25 = .ok (.ifCond .eq 12, 3) := by decide +kernel
theorem dX1_firstBarrenFarm_28 : decode cX1_firstBarrenFarm 28 = .ok (.aload_n 0, 1) := by decide +kernel
theorem dX1_firstBarrenFarm_29 : decode cX1_firstBarrenFarm 29 = .ok (.iload_n 1, 1) := by decide +kernel
theorem dX1_firstBarrenFarm_30 : decode cX1_firstBarrenFarm 30 = .ok (.iconst 2, 1) := by decide +kernel
theorem dX1_firstBarrenFarm_31 : decode cX1_firstBarrenFarm 31 = .ok (.invokevirtual 63, 3) := by decide +kernel
theorem dX1_firstBarrenFarm_34 : decode cX1_firstBarrenFarm 34 = .ok (.ifCond .ne 5, 3) := by decide +kernel
theorem dX1_firstBarrenFarm_37 : decode cX1_firstBarrenFarm 37 = .ok (.iload_n 1, 1) := by decide +kernel
theorem dX1_firstBarrenFarm_38 : decode cX1_firstBarrenFarm 38 = .ok (.ireturn, 1) := by decide +kernel
theorem dX1_firstBarrenFarm_39 : decode cX1_firstBarrenFarm 39 = .ok (.iinc 1 1, 3) := by decide +kernel
theorem dX1_firstBarrenFarm_42 : decode cX1_firstBarrenFarm 42 = .ok (.goto (-40), 3) := by decide +kernel
theorem dX1_firstBarrenFarm_45 : decode cX1_firstBarrenFarm 45 = .ok (.bipush (-9), 2) := by decide +kernel
theorem dX1_firstBarrenFarm_47 : decode cX1_firstBarrenFarm 47 = .ok (.ireturn, 1) := by decide +kernel
theorem dX1_freeFarms_0 : decode cX1_freeFarms 0 = .ok (.iconst 1, 1) := by decide +kernel
theorem dX1_freeFarms_1 : decode cX1_freeFarms 1 = .ok (.aload_n 0, 1) := by decide +kernel
theorem dX1_freeFarms_2 : decode cX1_freeFarms 2 = .ok (.getfield 37, 3) := by decide +kernel
theorem dX1_freeFarms_5 : decode cX1_freeFarms 5 = .ok (.ishl, 1) := by decide +kernel
theorem dX1_freeFarms_6 : decode cX1_freeFarms 6 = .ok (.iconst 1, 1) := by decide +kernel
theorem dX1_freeFarms_7 : decode cX1_freeFarms 7 = .ok (.isub, 1) := by decide +kernel
theorem dX1_freeFarms_8 : decode cX1_freeFarms 8 = .ok (.istore_n 1, 1) := by decide +kernel
theorem dX1_freeFarms_9 : decode cX1_freeFarms 9 = .ok (.iconst 0, 1) := by decide +kernel
theorem dX1_freeFarms_10 : decode cX1_freeFarms 10 = .ok (.istore_n 2, 1) := by decide +kernel
theorem dX1_freeFarms_11 : decode cX1_freeFarms 11 = .ok (.iload_n 2, 1) := by decide +kernel
theorem dX1_freeFarms_12 : decode cX1_freeFarms 12 = .ok (.aload_n 0, 1) := by decide +kernel
theorem dX1_freeFarms_13 : decode cX1_freeFarms 13 = .ok (.getfield 40, 3) := by decide +kernel
theorem dX1_freeFarms_16 : decode cX1_freeFarms 16 = .ok (.if_icmp .ge 33, 3) := by decide +kernel
theorem dX1_freeFarms_19 : decode cX1_freeFarms 19 = .ok (.aload_n 0, 1) := by decide +kernel
theorem dX1_freeFarms_20 : decode cX1_freeFarms 20 = .ok (.getfield 31, 3) := by decide +kernel
theorem dX1_freeFarms_23 : decode cX1_freeFarms 23 = .ok (.iload_n 2, 1) := by decide +kernel
theorem dX1_freeFarms_24 : decode cX1_freeFarms 24 = .ok (.iaload, 1) := by decide +kernel
theorem dX1_freeFarms_25 : decode cX1_freeFarms 25 = .ok (.bipush (-9), 2) := by decide +kernel
theorem dX1_freeFarms_27 : decode cX1_freeFarms 27 = .ok (.if_icmp .eq 16, 3) := by decide +kernel
theorem dX1_freeFarms_30 : decode cX1_freeFarms 30 = .ok (.iload_n 1, 1) := by decide +kernel
theorem dX1_freeFarms_31 : decode cX1_freeFarms 31 = .ok (.iconst 1, 1) := by decide +kernel
theorem dX1_freeFarms_32 : decode cX1_freeFarms 32 = .ok (.aload_n 0, 1) := by decide +kernel
theorem dX1_freeFarms_33 : decode cX1_freeFarms 33 = .ok (.getfield 31, 3) := by decide +kernel
theorem dX1_freeFarms_36 : decode cX1_freeFarms 36 = .ok (.iload_n 2, 1) := by decide +kernel
theorem dX1_freeFarms_37 : decode cX1_freeFarms 37 = .ok (.iaload, 1) := by decide +kernel
theorem dX1_freeFarms_38 : decode cX1_freeFarms 38 = .ok (.ishl, 1) := by decide +kernel
theorem dX1_freeFarms_39 : decode cX1_freeFarms 39 = .ok (.iconst (-1), 1) := by decide +kernel
theorem dX1_freeFarms_40 : decode cX1_freeFarms 40 = .ok (.ixor, 1) := by decide +kernel
theorem dX1_freeFarms_41 : decode cX1_freeFarms 41 = .ok (.iand, 1) := by decide +kernel
theorem dX1_freeFarms_42 : decode cX1_freeFarms 42 = .ok (.istore_n 1, 1) := by decide +kernel
theorem dX1_freeFarms_43 : decode cX1_freeFarms 43 = .ok (.iinc 2 1, 3) := by decide +kernel
theorem dX1_freeFarms_46 : decode cX1_freeFarms 46 = .ok (.goto (-35), 3) := by decide +kernel
theorem dX1_freeFarms_49 : decode cX1_freeFarms 49 = .ok (.iload_n 1, 1) := by decide +kernel
theorem dX1_freeFarms_50 : decode cX1_freeFarms 50 = .ok (.ireturn, 1) := by decide +kernel
theorem dX1_idleFarmers_0 : decode cX1_idleFarmers 0 = .ok (.iconst 0, 1) := by decide +kernel
theorem dX1_idleFarmers_1 : decode cX1_idleFarmers 1 = .ok (.istore_n 1, 1) := by decide +kernel
theorem dX1_idleFarmers_2 : decode cX1_idleFarmers 2 = .ok (.iconst 0, 1) := by decide +kernel
theorem dX1_idleFarmers_3 : decode cX1_idleFarmers 3 = .ok (.istore_n 2, 1) := by decide +kernel
theorem dX1_idleFarmers_4 : decode cX1_idleFarmers 4 = .ok (.iload_n 2, 1) := by decide +kernel
theorem dX1_idleFarmers_5 : decode cX1_idleFarmers 5 = .ok (.aload_n 0, 1) := by decide +kernel
theorem dX1_idleFarmers_6 : decode cX1_idleFarmers 6 = .ok (.getfield 40, 3) := by decide +kernel
theorem dX1_idleFarmers_9 : decode cX1_idleFarmers 9 = .ok (.if_icmp .ge 30, 3) := by decide +kernel
theorem dX1_idleFarmers_12 : decode cX1_idleFarmers 12 = .ok (.iload_n 1, 1) := by decide +kernel
theorem dX1_idleFarmers_13 : decode cX1_idleFarmers 13 = .ok (.aload_n 0, 1) := by decide +kernel
theorem dX1_idleFarmers_14 : decode cX1_idleFarmers 14 = .ok (.getfield 31, 3) := by decide +kernel
theorem dX1_idleFarmers_17 : decode cX1_idleFarmers 17 = .ok (.iload_n 2, 1) := by decide +kernel
theorem dX1_idleFarmers_18 : decode cX1_idleFarmers 18 = .ok (.iaload, 1) := by decide +kernel
theorem dX1_idleFarmers_19 : decode cX1_idleFarmers 19 = .ok (.bipush (-9), 2) := by decide +kernel
theorem dX1_idleFarmers_21 : decode cX1_idleFarmers 21 = .ok (.if_icmp .ne 9, 3) := by decide +kernel
theorem dX1_idleFarmers_24 : decode cX1_idleFarmers 24 = .ok (.iconst 1, 1) := by decide +kernel
theorem dX1_idleFarmers_25 : decode cX1_idleFarmers 25 = .ok (.iload_n 2, 1) := by decide +kernel
theorem dX1_idleFarmers_26 : decode cX1_idleFarmers 26 = .ok (.ishl, 1) := by decide +kernel
theorem dX1_idleFarmers_27 : decode cX1_idleFarmers 27 = .ok (.goto 4, 3) := by decide +kernel
theorem dX1_idleFarmers_30 : decode cX1_idleFarmers 30 = .ok (.iconst 0, 1) := by decide +kernel
theorem dX1_idleFarmers_31 : decode cX1_idleFarmers 31 = .ok (.ior, 1) := by decide +kernel
theorem dX1_idleFarmers_32 : decode cX1_idleFarmers 32 = .ok (.istore_n 1, 1) := by decide +kernel
theorem dX1_idleFarmers_33 : decode cX1_idleFarmers 33 = .ok (.iinc 2 1, 3) := by decide +kernel
theorem dX1_idleFarmers_36 : decode cX1_idleFarmers 36 = .ok (.goto (-32), 3) := by decide +kernel
theorem dX1_idleFarmers_39 : decode cX1_idleFarmers 39 = .ok (.iload_n 1, 1) := by decide +kernel
theorem dX1_idleFarmers_40 : decode cX1_idleFarmers 40 = .ok (.ireturn, 1) := by decide +kernel
theorem dX1_wornFarmers_0 : decode cX1_wornFarmers 0 = .ok (.iconst 0, 1) := by decide +kernel
theorem dX1_wornFarmers_1 : decode cX1_wornFarmers 1 = .ok (.istore_n 1, 1) := by decide +kernel
theorem dX1_wornFarmers_2 : decode cX1_wornFarmers 2 = .ok (.iconst 0, 1) := by decide +kernel
theorem dX1_wornFarmers_3 : decode cX1_wornFarmers 3 = .ok (.istore_n 2, 1) := by decide +kernel
theorem dX1_wornFarmers_4 : decode cX1_wornFarmers 4 = .ok (.iload_n 2, 1) := by decide +kernel
theorem dX1_wornFarmers_5 : decode cX1_wornFarmers 5 = .ok (.aload_n 0, 1) := by decide +kernel
theorem dX1_wornFarmers_6 : decode cX1_wornFarmers 6 = .ok (.getfield 40, 3) := by decide +kernel
theorem dX1_wornFarmers_9 : decode cX1_wornFarmers 9 = .ok (.if_icmp .ge 27, 3) := by decide +kernel
theorem dX1_wornFarmers_12 : decode cX1_wornFarmers 12 = .ok (.iload_n 1, 1) := by decide +kernel
theorem dX1_wornFarmers_13 : decode cX1_wornFarmers 13 = .ok (.aload_n 0, 1) := by decide +kernel
theorem dX1_wornFarmers_14 : decode cX1_wornFarmers 14 = .ok (.iload_n 2, 1) := by decide +kernel
theorem dX1_wornFarmers_15 : decode cX1_wornFarmers 15 = .ok (.invokevirtual 82, 3) := by decide +kernel
theorem dX1_wornFarmers_18 : decode cX1_wornFarmers 18 = .ok (.ifCond .eq 9, 3) := by decide +kernel
theorem dX1_wornFarmers_21 : decode cX1_wornFarmers 21 = .ok (.iconst 1, 1) := by decide +kernel
theorem dX1_wornFarmers_22 : decode cX1_wornFarmers 22 = .ok (.iload_n 2, 1) := by decide +kernel
theorem dX1_wornFarmers_23 : decode cX1_wornFarmers 23 = .ok (.ishl, 1) := by decide +kernel
theorem dX1_wornFarmers_24 : decode cX1_wornFarmers 24 = .ok (.goto 4, 3) := by decide +kernel
theorem dX1_wornFarmers_27 : decode cX1_wornFarmers 27 = .ok (.iconst 0, 1) := by decide +kernel
theorem dX1_wornFarmers_28 : decode cX1_wornFarmers 28 = .ok (.ior, 1) := by decide +kernel
theorem dX1_wornFarmers_29 : decode cX1_wornFarmers 29 = .ok (.istore_n 1, 1) := by decide +kernel
theorem dX1_wornFarmers_30 : decode cX1_wornFarmers 30 = .ok (.iinc 2 1, 3) := by decide +kernel
theorem dX1_wornFarmers_33 : decode cX1_wornFarmers 33 = .ok (.goto (-29), 3) := by decide +kernel
theorem dX1_wornFarmers_36 : decode cX1_wornFarmers 36 = .ok (.iload_n 1, 1) := by decide +kernel
theorem dX1_wornFarmers_37 : decode cX1_wornFarmers 37 = .ok (.ireturn, 1) := by decide +kernel
theorem dX1_isWorn_0 : decode cX1_isWorn 0 = .ok (.aload_n 0, 1) := by decide +kernel
theorem dX1_isWorn_1 : decode cX1_isWorn 1 = .ok (.getfield 28, 3) := by decide +kernel
theorem dX1_isWorn_4 : decode cX1_isWorn 4 = .ok (.iload_n 1, 1) := by decide +kernel
theorem dX1_isWorn_5 : decode cX1_isWorn 5 = .ok (.iaload, 1) := by decide +kernel
theorem dX1_isWorn_6 : decode cX1_isWorn 6 = .ok (.bipush 10, 2) := by decide +kernel
theorem dX1_isWorn_8 : decode cX1_isWorn 8 = .ok (.if_icmp .lt 7, 3) := by decide +kernel
theorem dX1_isWorn_11 : decode cX1_isWorn 11 = .ok (.iconst 1, 1) := by decide +kernel
theorem dX1_isWorn_12 : decode cX1_isWorn 12 = .ok (.goto 4, 3) := by decide +kernel
theorem dX1_isWorn_15 : decode cX1_isWorn 15 = .ok (.iconst 0, 1) := by decide +kernel
theorem dX1_isWorn_16 : decode cX1_isWorn 16 = .ok (.ireturn, 1) := by decide +kernel
theorem dX1_grownAt_0 : decode cX1_grownAt 0 = .ok (.aload_n 0, 1) := by decide +kernel
theorem dX1_grownAt_1 : decode cX1_grownAt 1 = .ok (.iload_n 1, 1) := by decide +kernel
theorem dX1_grownAt_2 : decode cX1_grownAt 2 = .ok (.invokevirtual 82, 3) := by decide +kernel
theorem dX1_grownAt_5 : decode cX1_grownAt 5 = .ok (.ifCond .eq 7, 3) := by decide +kernel
theorem dX1_grownAt_8 : decode cX1_grownAt 8 = .ok (.iconst 0, 1) := by decide +kernel
theorem dX1_grownAt_9 : decode cX1_grownAt 9 = .ok (.goto 24, 3) := by decide +kernel
theorem dX1_grownAt_12 : decode cX1_grownAt 12 = .ok (.aload_n 0, 1) := by decide +kernel
theorem dX1_grownAt_13 : decode cX1_grownAt 13 = .ok (.getfield 22, 3) := by decide +kernel
theorem dX1_grownAt_16 : decode cX1_grownAt 16 = .ok (.iload_n 1, 1) := by decide +kernel
theorem dX1_grownAt_17 : decode cX1_grownAt 17 = .ok (.iaload, 1) := by decide +kernel
theorem dX1_grownAt_18 : decode cX1_grownAt 18 = .ok (.aload_n 0, 1) := by decide +kernel
theorem dX1_grownAt_19 : decode cX1_grownAt 19 = .ok (.iload_n 2, 1) := by decide +kernel
theorem dX1_grownAt_20 : decode cX1_grownAt 20 = .ok (.iconst 0, 1) := by decide +kernel
theorem dX1_grownAt_21 : decode cX1_grownAt 21 = .ok (.invokevirtual 63, 3) := by decide +kernel
theorem dX1_grownAt_24 : decode cX1_grownAt 24 = .ok (.aload_n 0, 1) := by decide +kernel
theorem dX1_grownAt_25 : decode cX1_grownAt 25 = .ok (.iload_n 2, 1) := by decide +kernel
theorem dX1_grownAt_26 : decode cX1_grownAt 26 = .ok (.iconst 1, 1) := by decide +kernel
theorem dX1_grownAt_27 : decode cX1_grownAt 27 = .ok (.invokevirtual 63, 3) := by decide +kernel
theorem dX1_grownAt_30 : decode cX1_grownAt 30 = .ok (.invokestatic 86, 3) := by decide +kernel
theorem dX1_grownAt_33 : decode cX1_grownAt 33 = .ok (.ireturn, 1) := by decide +kernel
theorem dX1_grownNow_0 : decode cX1_grownNow 0 = .ok (.aload_n 0, 1) := by decide +kernel
theorem dX1_grownNow_1 : decode cX1_grownNow 1 = .ok (.aload_n 0, 1) := by decide +kernel
theorem dX1_grownNow_2 : decode cX1_grownNow 2 = .ok (.getfield 31, 3) := by decide +kernel
theorem dX1_grownNow_5 : decode cX1_grownNow 5 = .ok (.iload_n 1, 1) := by decide +kernel
theorem dX1_grownNow_6 : decode cX1_grownNow 6 = .ok (.iaload, 1) := by decide +kernel
theorem dX1_grownNow_7 : decode cX1_grownNow 7 = .ok (.invokevirtual 92, 3) := by decide +kernel
theorem dX1_grownNow_10 : decode cX1_grownNow 10 = .ok (.ifCond .eq 17, 3) := by decide +kernel
theorem dX1_grownNow_13 : decode cX1_grownNow 13 = .ok (.aload_n 0, 1) := by decide +kernel
theorem dX1_grownNow_14 : decode cX1_grownNow 14 = .ok (.iload_n 1, 1) := by decide +kernel
theorem dX1_grownNow_15 : decode cX1_grownNow 15 = .ok (.aload_n 0, 1) := by decide +kernel
theorem dX1_grownNow_16 : decode cX1_grownNow 16 = .ok (.getfield 31, 3) := by decide +kernel
theorem dX1_grownNow_19 : decode cX1_grownNow 19 = .ok (.iload_n 1, 1) := by decide +kernel
theorem dX1_grownNow_20 : decode cX1_grownNow 20 = .ok (.iaload, 1) := by decide +kernel
theorem dX1_grownNow_21 : decode cX1_grownNow 21 = .ok (.invokevirtual 95, 3) := by decide +kernel
theorem dX1_grownNow_24 : decode cX1_grownNow 24 = .ok (.goto 4, 3) := by decide +kernel
theorem dX1_grownNow_27 : decode cX1_grownNow 27 = .ok (.iconst 0, 1) := by decide +kernel
theorem dX1_grownNow_28 : decode cX1_grownNow 28 = .ok (.ireturn, 1) := by decide +kernel
theorem dX1_feedingKind_0 : decode cX1_feedingKind 0 = .ok (.iconst 0, 1) := by decide +kernel
theorem dX1_feedingKind_1 : decode cX1_feedingKind 1 = .ok (.istore_n 2, 1) := by decide +kernel
theorem dX1_feedingKind_2 : decode cX1_feedingKind 2 = .ok (.iconst 1, 1) := by decide +kernel
theorem dX1_feedingKind_3 : decode cX1_feedingKind 3 = .ok (.istore_n 3, 1) := by decide +kernel
theorem dX1_feedingKind_4 : decode cX1_feedingKind 4 = .ok (.iload_n 3, 1) := by decide +kernel
theorem dX1_feedingKind_5 : decode cX1_feedingKind 5 = .ok (.bipush 6, 2) := by decide +kernel
theorem dX1_feedingKind_7 : decode cX1_feedingKind 7 = .ok (.if_icmp .ge 26, 3) := by decide +kernel
theorem dX1_feedingKind_10 : decode cX1_feedingKind 10 = .ok (.aload_n 0, 1) := by decide +kernel
theorem dX1_feedingKind_11 : decode cX1_feedingKind 11 = .ok (.iload_n 1, 1) := by decide +kernel
theorem dX1_feedingKind_12 : decode cX1_feedingKind 12 = .ok (.iload_n 3, 1) := by decide +kernel
theorem dX1_feedingKind_13 : decode cX1_feedingKind 13 = .ok (.invokevirtual 98, 3) := by decide +kernel
theorem dX1_feedingKind_16 : decode cX1_feedingKind 16 = .ok (.aload_n 0, 1) := by decide +kernel
theorem dX1_feedingKind_17 : decode cX1_feedingKind 17 = .ok (.iload_n 1, 1) := by decide +kernel
theorem dX1_feedingKind_18 : decode cX1_feedingKind 18 = .ok (.iload_n 2, 1) := by decide +kernel
theorem dX1_feedingKind_19 : decode cX1_feedingKind 19 = .ok (.invokevirtual 98, 3) := by decide +kernel
theorem dX1_feedingKind_22 : decode cX1_feedingKind 22 = .ok (.if_icmp .le 5, 3) := by decide +kernel
theorem dX1_feedingKind_25 : decode cX1_feedingKind 25 = .ok (.iload_n 3, 1) := by decide +kernel
theorem dX1_feedingKind_26 : decode cX1_feedingKind 26 = .ok (.istore_n 2, 1) := by decide +kernel
theorem dX1_feedingKind_27 : decode cX1_feedingKind 27 = .ok (.iinc 3 1, 3) := by decide +kernel
theorem dX1_feedingKind_30 : decode cX1_feedingKind 30 = .ok (.goto (-26), 3) := by decide +kernel
theorem dX1_feedingKind_33 : decode cX1_feedingKind 33 = .ok (.iload_n 2, 1) := by decide +kernel
theorem dX1_feedingKind_34 : decode cX1_feedingKind 34 = .ok (.ireturn, 1) := by decide +kernel
theorem dX1_greenFedBy_0 : decode cX1_greenFedBy 0 = .ok (.iconst 0, 1) := by decide +kernel
theorem dX1_greenFedBy_1 : decode cX1_greenFedBy 1 = .ok (.istore_n 3, 1) := by decide +kernel
theorem dX1_greenFedBy_2 : decode cX1_greenFedBy 2 = .ok (.iconst 0, 1) := by decide +kernel
theorem dX1_greenFedBy_3 : decode cX1_greenFedBy 3 = .ok (.istore 4, 2) := by decide +kernel
theorem dX1_greenFedBy_5 : decode cX1_greenFedBy 5 = .ok (.iload 4, 2) := by decide +kernel
theorem dX1_greenFedBy_7 : decode cX1_greenFedBy 7 = .ok (.iconst 3, 1) := by decide +kernel
theorem dX1_greenFedBy_8 : decode cX1_greenFedBy 8 = .ok (.if_icmp .ge 31, 3) := by decide +kernel
theorem dX1_greenFedBy_11 : decode cX1_greenFedBy 11 = .ok (.iload_n 3, 1) := by decide +kernel
theorem dX1_greenFedBy_12 : decode cX1_greenFedBy 12 = .ok (.aload_n 0, 1) := by decide +kernel
theorem dX1_greenFedBy_13 : decode cX1_greenFedBy 13 = .ok (.iload_n 1, 1) := by decide +kernel
theorem dX1_greenFedBy_14 : decode cX1_greenFedBy 14 = .ok (.iload 4, 2) := by decide +kernel
theorem dX1_greenFedBy_16 : decode cX1_greenFedBy 16 = .ok (.invokevirtual 63, 3) := by decide +kernel
theorem dX1_greenFedBy_19 : decode cX1_greenFedBy 19 = .ok (.iload_n 2, 1) := by decide +kernel
theorem dX1_greenFedBy_20 : decode cX1_greenFedBy 20 = .ok (.bipush 9, 2) := by decide +kernel
theorem dX1_greenFedBy_22 : decode cX1_greenFedBy 22 = .ok (.iload 4, 2) := by decide +kernel
theorem dX1_greenFedBy_24 : decode cX1_greenFedBy 24 = .ok (.invokestatic 101, 3) := by decide +kernel
theorem dX1_greenFedBy_27 : decode cX1_greenFedBy 27 = .ok (.iadd, 1) := by decide +kernel
theorem dX1_greenFedBy_28 : decode cX1_greenFedBy 28 = .ok (.invokestatic 104, 3) := by decide +kernel
theorem dX1_greenFedBy_31 : decode cX1_greenFedBy 31 = .ok (.iadd, 1) := by decide +kernel
theorem dX1_greenFedBy_32 : decode cX1_greenFedBy 32 = .ok (.istore_n 3, 1) := by decide +kernel
theorem dX1_greenFedBy_33 : decode cX1_greenFedBy 33 = .ok (.iinc 4 1, 3) := by decide +kernel
theorem dX1_greenFedBy_36 : decode cX1_greenFedBy 36 = .ok (.goto (-31), 3) := by decide +kernel
theorem dX1_greenFedBy_39 : decode cX1_greenFedBy 39 = .ok (.iload_n 3, 1) := by decide +kernel
theorem dX1_greenFedBy_40 : decode cX1_greenFedBy 40 = .ok (.ireturn, 1) := by decide +kernel
theorem dX1_grownIn_0 : decode cX1_grownIn 0 = .ok (.iconst 0, 1) := by decide +kernel
theorem dX1_grownIn_1 : decode cX1_grownIn 1 = .ok (.istore_n 2, 1) := by decide +kernel
theorem dX1_grownIn_2 : decode cX1_grownIn 2 = .ok (.iconst 0, 1) := by decide +kernel
theorem dX1_grownIn_3 : decode cX1_grownIn 3 = .ok (.istore_n 3, 1) := by decide +kernel
theorem dX1_grownIn_4 : decode cX1_grownIn 4 = .ok (.iload_n 3, 1) := by decide +kernel
theorem dX1_grownIn_5 : decode cX1_grownIn 5 = .ok (.iload_n 1, 1) := by decide +kernel
theorem dX1_grownIn_6 : decode cX1_grownIn 6 = .ok (.if_icmp .ge 20, 3) := by decide +kernel
theorem dX1_grownIn_9 : decode cX1_grownIn 9 = .ok (.aload_n 0, 1) := by decide +kernel
theorem dX1_grownIn_10 : decode cX1_grownIn 10 = .ok (.invokevirtual 107, 3) := by decide +kernel
theorem dX1_grownIn_13 : decode cX1_grownIn 13 = .ok (.iload_n 2, 1) := by decide +kernel
theorem dX1_grownIn_14 : decode cX1_grownIn 14 = .ok (.aload_n 0, 1) := by decide +kernel
theorem dX1_grownIn_15 : decode cX1_grownIn 15 = .ok (.getfield 110, 3) := by decide +kernel
theorem dX1_grownIn_18 : decode cX1_grownIn 18 = .ok (.iadd, 1) := by decide +kernel
theorem dX1_grownIn_19 : decode cX1_grownIn 19 = .ok (.istore_n 2, 1) := by decide +kernel
theorem dX1_grownIn_20 : decode cX1_grownIn 20 = .ok (.iinc 3 1, 3) := by decide +kernel
theorem dX1_grownIn_23 : decode cX1_grownIn 23 = .ok (.goto (-19), 3) := by decide +kernel
theorem dX1_grownIn_26 : decode cX1_grownIn 26 = .ok (.iload_n 2, 1) := by decide +kernel
theorem dX1_grownIn_27 : decode cX1_grownIn 27 = .ok (.ireturn, 1) := by decide +kernel
theorem dX1_passYear_0 : decode cX1_passYear 0 = .ok (.aload_n 0, 1) := by decide +kernel
theorem dX1_passYear_1 : decode cX1_passYear 1 = .ok (.dup, 1) := by decide +kernel
theorem dX1_passYear_2 : decode cX1_passYear 2 = .ok (.getfield 46, 3) := by decide +kernel
theorem dX1_passYear_5 : decode cX1_passYear 5 = .ok (.iconst 1, 1) := by decide +kernel
theorem dX1_passYear_6 : decode cX1_passYear 6 = .ok (.iadd, 1) := by decide +kernel
theorem dX1_passYear_7 : decode cX1_passYear 7 = .ok (.putfield 46, 3) := by decide +kernel
theorem dX1_passYear_10 : decode cX1_passYear 10 = .ok (.aload_n 0, 1) := by decide +kernel
theorem dX1_passYear_11 : decode cX1_passYear 11 = .ok (.iconst 0, 1) := by decide +kernel
theorem dX1_passYear_12 : decode cX1_passYear 12 = .ok (.putfield 110, 3) := by decide +kernel
theorem dX1_passYear_15 : decode cX1_passYear 15 = .ok (.aload_n 0, 1) := by decide +kernel
theorem dX1_passYear_16 : decode cX1_passYear 16 = .ok (.invokevirtual 113, 3) := by decide +kernel
theorem dX1_passYear_19 : decode cX1_passYear 19 = .ok (.istore_n 1, 1) := by decide +kernel
theorem dX1_passYear_20 : decode cX1_passYear 20 = .ok (.iconst 0, 1) := by decide +kernel
theorem dX1_passYear_21 : decode cX1_passYear 21 = .ok (.istore_n 2, 1) := by decide +kernel
theorem dX1_passYear_22 : decode cX1_passYear 22 = .ok (.iload_n 2, 1) := by decide +kernel
theorem dX1_passYear_23 : decode cX1_passYear 23 = .ok (.aload_n 0, 1) := by decide +kernel
theorem dX1_passYear_24 : decode cX1_passYear 24 = .ok (.getfield 37, 3) := by decide +kernel
theorem dX1_passYear_27 : decode cX1_passYear 27 = .ok (.if_icmp .ge 29, 3) := by decide +kernel
theorem dX1_passYear_30 : decode cX1_passYear 30 = .ok (.aload_n 0, 1) := by decide +kernel
theorem dX1_passYear_31 : decode cX1_passYear 31 = .ok (.getfield 19, 3) := by decide +kernel
theorem dX1_passYear_34 : decode cX1_passYear 34 = .ok (.iload_n 2, 1) := by decide +kernel
theorem dX1_passYear_35 : decode cX1_passYear 35 = .ok (.iconst 0, 1) := by decide +kernel
theorem dX1_passYear_36 : decode cX1_passYear 36 = .ok (.iastore, 1) := by decide +kernel
theorem dX1_passYear_37 : decode cX1_passYear 37 = .ok (.iload_n 1, 1) := by decide +kernel
theorem dX1_passYear_38 : decode cX1_passYear 38 = .ok (.iconst 1, 1) := by decide +kernel
theorem dX1_passYear_39 : decode cX1_passYear 39 = .ok (.iload_n 2, 1) := by decide +kernel
theorem dX1_passYear_40 : decode cX1_passYear 40 = .ok (.ishl, 1) := by decide +kernel
theorem dX1_passYear_41 : decode cX1_passYear 41 = .ok (.iand, 1) := by decide +kernel
theorem dX1_passYear_42 : decode cX1_passYear 42 = .ok (.ifCond .eq 8, 3) := by decide +kernel
theorem dX1_passYear_45 : decode cX1_passYear 45 = .ok (.aload_n 0, 1) := by decide +kernel
theorem dX1_passYear_46 : decode cX1_passYear 46 = .ok (.iload_n 2, 1) := by decide +kernel
theorem dX1_passYear_47 : decode cX1_passYear 47 = .ok (.invokevirtual 116, 3) := by decide +kernel
theorem dX1_passYear_50 : decode cX1_passYear 50 = .ok (.iinc 2 1, 3) := by decide +kernel
theorem dX1_passYear_53 : decode cX1_passYear 53 = .ok (.goto (-31), 3) := by decide +kernel
theorem dX1_passYear_56 : decode cX1_passYear 56 = .ok (.iconst 0, 1) := by decide +kernel
theorem dX1_passYear_57 : decode cX1_passYear 57 = .ok (.istore_n 2, 1) := by decide +kernel
theorem dX1_passYear_58 : decode cX1_passYear 58 = .ok (.iload_n 2, 1) := by decide +kernel
theorem dX1_passYear_59 : decode cX1_passYear 59 = .ok (.aload_n 0, 1) := by decide +kernel
theorem dX1_passYear_60 : decode cX1_passYear 60 = .ok (.getfield 40, 3) := by decide +kernel
theorem dX1_passYear_63 : decode cX1_passYear 63 = .ok (.if_icmp .ge 69, 3) := by decide +kernel
theorem dX1_passYear_66 : decode cX1_passYear 66 = .ok (.aload_n 0, 1) := by decide +kernel
theorem dX1_passYear_67 : decode cX1_passYear 67 = .ok (.getfield 34, 3) := by decide +kernel
theorem dX1_passYear_70 : decode cX1_passYear 70 = .ok (.iload_n 2, 1) := by decide +kernel
theorem dX1_passYear_71 : decode cX1_passYear 71 = .ok (.iconst 0, 1) := by decide +kernel
theorem dX1_passYear_72 : decode cX1_passYear 72 = .ok (.iastore, 1) := by decide +kernel
theorem dX1_passYear_73 : decode cX1_passYear 73 = .ok (.aload_n 0, 1) := by decide +kernel
theorem dX1_passYear_74 : decode cX1_passYear 74 = .ok (.aload_n 0, 1) := by decide +kernel
theorem dX1_passYear_75 : decode cX1_passYear 75 = .ok (.getfield 31, 3) := by decide +kernel
theorem dX1_passYear_78 : decode cX1_passYear 78 = .ok (.iload_n 2, 1) := by decide +kernel
theorem dX1_passYear_79 : decode cX1_passYear 79 = .ok (.iaload, 1) := by decide +kernel
theorem dX1_passYear_80 : decode cX1_passYear 80 = .ok (.invokevirtual 92, 3) := by decide +kernel
theorem dX1_passYear_83 : decode cX1_passYear 83 = .ok (.ifCond .eq 11, 3) := by decide +kernel
theorem dX1_passYear_86 : decode cX1_passYear 86 = .ok (.aload_n 0, 1) := by decide +kernel
theorem dX1_passYear_87 : decode cX1_passYear 87 = .ok (.iload_n 2, 1) := by decide +kernel
theorem dX1_passYear_88 : decode cX1_passYear 88 = .ok (.invokevirtual 82, 3) := by decide +kernel
theorem dX1_passYear_91 : decode cX1_passYear 91 = .ok (.ifCond .eq 24, 3) := by decide +kernel
theorem dX1_passYear_94 : decode cX1_passYear 94 = .ok (.aload_n 0, 1) := by decide +kernel
theorem dX1_passYear_95 : decode cX1_passYear 95 = .ok (.getfield 28, 3) := by decide +kernel
theorem dX1_passYear_98 : decode cX1_passYear 98 = .ok (.iload_n 2, 1) := by decide +kernel
theorem dX1_passYear_99 : decode cX1_passYear 99 = .ok (.iconst 0, 1) := by decide +kernel
theorem dX1_passYear_100 : decode cX1_passYear 100 = .ok (.aload_n 0, 1) := by decide +kernel
theorem dX1_passYear_101 : decode cX1_passYear 101 = .ok (.getfield 28, 3) := by decide +kernel
theorem dX1_passYear_104 : decode cX1_passYear 104 = .ok (.iload_n 2, 1) := by decide +kernel
theorem dX1_passYear_105 : decode cX1_passYear 105 = .ok (.iaload, 1) := by decide +kernel
theorem dX1_passYear_106 : decode cX1_passYear 106 = .ok (.iconst 5, 1) := by decide +kernel
theorem dX1_passYear_107 : decode cX1_passYear 107 = .ok (.isub, 1) := by decide +kernel
theorem dX1_passYear_108 : decode cX1_passYear 108 = .ok (.invokestatic 120, 3) := by decide +kernel
theorem dX1_passYear_111 : decode cX1_passYear 111 = .ok (.iastore, 1) := by decide +kernel
theorem dX1_passYear_112 : decode cX1_passYear 112 = .ok (.goto 14, 3) := by decide +kernel
theorem dX1_passYear_115 : decode cX1_passYear 115 = .ok (.aload_n 0, 1) := by decide +kernel
theorem dX1_passYear_116 : decode cX1_passYear 116 = .ok (.iload_n 2, 1) := by decide +kernel
theorem dX1_passYear_117 : decode cX1_passYear 117 = .ok (.aload_n 0, 1) := by decide +kernel
theorem dX1_passYear_118 : decode cX1_passYear 118 = .ok (.getfield 31, 3) := by decide +kernel
theorem dX1_passYear_121 : decode cX1_passYear 121 = .ok (.iload_n 2, 1) := by decide +kernel
theorem dX1_passYear_122 : decode cX1_passYear 122 = .ok (.iaload, 1) := by decide +kernel
theorem dX1_passYear_123 : decode cX1_passYear 123 = .ok (.invokevirtual 123, 3) := by decide +kernel
theorem dX1_passYear_126 : decode cX1_passYear 126 = .ok (.iinc 2 1, 3) := by decide +kernel
theorem dX1_passYear_129 : decode cX1_passYear 129 = .ok (.goto (-71), 3) := by decide +kernel
theorem dX1_passYear_132 : decode cX1_passYear 132 = .ok (.aload_n 0, 1) := by decide +kernel
theorem dX1_passYear_133 : decode cX1_passYear 133 = .ok (.sipush 9999, 3) := by decide +kernel
theorem dX1_passYear_136 : decode cX1_passYear 136 = .ok (.aload_n 0, 1) := by decide +kernel
theorem dX1_passYear_137 : decode cX1_passYear 137 = .ok (.getfield 43, 3) := by decide +kernel
theorem dX1_passYear_140 : decode cX1_passYear 140 = .ok (.aload_n 0, 1) := by decide +kernel
theorem dX1_passYear_141 : decode cX1_passYear 141 = .ok (.getfield 110, 3) := by decide +kernel
theorem dX1_passYear_144 : decode cX1_passYear 144 = .ok (.iadd, 1) := by decide +kernel
theorem dX1_passYear_145 : decode cX1_passYear 145 = .ok (.invokestatic 77, 3) := by decide +kernel
theorem dX1_passYear_148 : decode cX1_passYear 148 = .ok (.putfield 43, 3) := by decide +kernel
theorem dX1_passYear_151 : decode cX1_passYear 151 = .ok (.aload_n 0, 1) := by decide +kernel
theorem dX1_passYear_152 : decode cX1_passYear 152 = .ok (.invokevirtual 127, 3) := by decide +kernel
theorem dX1_passYear_155 : decode cX1_passYear 155 = .ok (.return_, 1) := by decide +kernel
theorem dX1_isAsFreshAs_0 : decode cX1_isAsFreshAs 0 = .ok (.iconst 0, 1) := by decide +kernel
theorem dX1_isAsFreshAs_1 : decode cX1_isAsFreshAs 1 = .ok (.istore_n 2, 1) := by decide +kernel
theorem dX1_isAsFreshAs_2 : decode cX1_isAsFreshAs 2 = .ok (.iload_n 2, 1) := by decide +kernel
theorem dX1_isAsFreshAs_3 : decode cX1_isAsFreshAs 3 = .ok (.iconst 3, 1) := by decide +kernel
theorem dX1_isAsFreshAs_4 : decode cX1_isAsFreshAs 4 = .ok (.aload_n 0, 1) := by decide +kernel
theorem dX1_isAsFreshAs_5 : decode cX1_isAsFreshAs 5 = .ok (.getfield 37, 3) := by decide +kernel
theorem dX1_isAsFreshAs_8 : decode cX1_isAsFreshAs 8 = .ok (.imul, 1) := by decide +kernel
theorem dX1_isAsFreshAs_9 : decode cX1_isAsFreshAs 9 = .ok (.if_icmp .ge 26, 3) := by decide +kernel
theorem dX1_isAsFreshAs_12 : decode cX1_isAsFreshAs 12 = .ok (.aload_n 0, 1) := by decide +kernel
theorem dX1_isAsFreshAs_13 : decode cX1_isAsFreshAs 13 = .ok (.getfield 15, 3) := by decide +kernel
theorem dX1_isAsFreshAs_16 : decode cX1_isAsFreshAs 16 = .ok (.iload_n 2, 1) := by decide +kernel
theorem dX1_isAsFreshAs_17 : decode cX1_isAsFreshAs 17 = .ok (.iaload, 1) := by decide +kernel
theorem dX1_isAsFreshAs_18 : decode cX1_isAsFreshAs 18 = .ok (.aload_n 1, 1) := by decide +kernel
theorem dX1_isAsFreshAs_19 : decode cX1_isAsFreshAs 19 = .ok (.getfield 15, 3) := by decide +kernel
theorem dX1_isAsFreshAs_22 : decode cX1_isAsFreshAs 22 = .ok (.iload_n 2, 1) := by decide +kernel
theorem dX1_isAsFreshAs_23 : decode cX1_isAsFreshAs 23 = .ok (.iaload, 1) := by decide +kernel
theorem dX1_isAsFreshAs_24 : decode cX1_isAsFreshAs 24 = .ok (.if_icmp .eq 5, 3) := by decide +kernel
theorem dX1_isAsFreshAs_27 : decode cX1_isAsFreshAs 27 = .ok (.iconst 0, 1) := by decide +kernel
theorem dX1_isAsFreshAs_28 : decode cX1_isAsFreshAs 28 = .ok (.ireturn, 1) := by decide +kernel
theorem dX1_isAsFreshAs_29 : decode cX1_isAsFreshAs 29 = .ok (.iinc 2 1, 3) := by decide +kernel
theorem dX1_isAsFreshAs_32 : decode cX1_isAsFreshAs 32 = .ok (.goto (-30), 3) := by decide +kernel
theorem dX1_isAsFreshAs_35 : decode cX1_isAsFreshAs 35 = .ok (.iconst 0, 1) := by decide +kernel
theorem dX1_isAsFreshAs_36 : decode cX1_isAsFreshAs 36 = .ok (.istore_n 2, 1) := by decide +kernel
theorem dX1_isAsFreshAs_37 : decode cX1_isAsFreshAs 37 = .ok (.iload_n 2, 1) := by decide +kernel
theorem dX1_isAsFreshAs_38 : decode cX1_isAsFreshAs 38 = .ok (.aload_n 0, 1) := by decide +kernel
theorem dX1_isAsFreshAs_39 : decode cX1_isAsFreshAs 39 = .ok (.getfield 40, 3) := by decide +kernel
theorem dX1_isAsFreshAs_42 : decode cX1_isAsFreshAs 42 = .ok (.if_icmp .ge 26, 3) := by decide +kernel
theorem dX1_isAsFreshAs_45 : decode cX1_isAsFreshAs 45 = .ok (.aload_n 0, 1) := by decide +kernel
theorem dX1_isAsFreshAs_46 : decode cX1_isAsFreshAs 46 = .ok (.getfield 28, 3) := by decide +kernel
theorem dX1_isAsFreshAs_49 : decode cX1_isAsFreshAs 49 = .ok (.iload_n 2, 1) := by decide +kernel
theorem dX1_isAsFreshAs_50 : decode cX1_isAsFreshAs 50 = .ok (.iaload, 1) := by decide +kernel
theorem dX1_isAsFreshAs_51 : decode cX1_isAsFreshAs 51 = .ok (.aload_n 1, 1) := by decide +kernel
theorem dX1_isAsFreshAs_52 : decode cX1_isAsFreshAs 52 = .ok (.getfield 28, 3) := by decide +kernel
theorem dX1_isAsFreshAs_55 : decode cX1_isAsFreshAs 55 = .ok (.iload_n 2, 1) := by decide +kernel
theorem dX1_isAsFreshAs_56 : decode cX1_isAsFreshAs 56 = .ok (.iaload, 1) := by decide +kernel
theorem dX1_isAsFreshAs_57 : decode cX1_isAsFreshAs 57 = .ok (.if_icmp .eq 5, 3) := by decide +kernel
theorem dX1_isAsFreshAs_60 : decode cX1_isAsFreshAs 60 = .ok (.iconst 0, 1) := by decide +kernel
theorem dX1_isAsFreshAs_61 : decode cX1_isAsFreshAs 61 = .ok (.ireturn, 1) := by decide +kernel
theorem dX1_isAsFreshAs_62 : decode cX1_isAsFreshAs 62 = .ok (.iinc 2 1, 3) := by decide +kernel
theorem dX1_isAsFreshAs_65 : decode cX1_isAsFreshAs 65 = .ok (.goto (-28), 3) := by decide +kernel
theorem dX1_isAsFreshAs_68 : decode cX1_isAsFreshAs 68 = .ok (.iconst 1, 1) := by decide +kernel
theorem dX1_isAsFreshAs_69 : decode cX1_isAsFreshAs 69 = .ok (.ireturn, 1) := by decide +kernel
theorem dX1_isSeatedAs_0 : decode cX1_isSeatedAs 0 = .ok (.iconst 0, 1) := by decide +kernel
theorem dX1_isSeatedAs_1 : decode cX1_isSeatedAs 1 = .ok (.istore_n 2, 1) := by decide +kernel
theorem dX1_isSeatedAs_2 : decode cX1_isSeatedAs 2 = .ok (.iload_n 2, 1) := by decide +kernel
theorem dX1_isSeatedAs_3 : decode cX1_isSeatedAs 3 = .ok (.aload_n 0, 1) := by decide +kernel
theorem dX1_isSeatedAs_4 : decode cX1_isSeatedAs 4 = .ok (.getfield 40, 3) := by decide +kernel
theorem dX1_isSeatedAs_7 : decode cX1_isSeatedAs 7 = .ok (.if_icmp .ge 26, 3) := by decide +kernel
theorem dX1_isSeatedAs_10 : decode cX1_isSeatedAs 10 = .ok (.aload_n 0, 1) := by decide +kernel
theorem dX1_isSeatedAs_11 : decode cX1_isSeatedAs 11 = .ok (.getfield 31, 3) := by decide +kernel
theorem dX1_isSeatedAs_14 : decode cX1_isSeatedAs 14 = .ok (.iload_n 2, 1) := by decide +kernel
theorem dX1_isSeatedAs_15 : decode cX1_isSeatedAs 15 = .ok (.iaload, 1) := by decide +kernel
theorem dX1_isSeatedAs_16 : decode cX1_isSeatedAs 16 = .ok (.aload_n 1, 1) := by decide +kernel
theorem dX1_isSeatedAs_17 : decode cX1_isSeatedAs 17 = .ok (.getfield 31, 3) := by decide +kernel
theorem dX1_isSeatedAs_20 : decode cX1_isSeatedAs 20 = .ok (.iload_n 2, 1) := by decide +kernel
theorem dX1_isSeatedAs_21 : decode cX1_isSeatedAs 21 = .ok (.iaload, 1) := by decide +kernel
theorem dX1_isSeatedAs_22 : decode cX1_isSeatedAs 22 = .ok (.if_icmp .eq 5, 3) := by decide +kernel
theorem dX1_isSeatedAs_25 : decode cX1_isSeatedAs 25 = .ok (.iconst 0, 1) := by decide +kernel
theorem dX1_isSeatedAs_26 : decode cX1_isSeatedAs 26 = .ok (.ireturn, 1) := by decide +kernel
theorem dX1_isSeatedAs_27 : decode cX1_isSeatedAs 27 = .ok (.iinc 2 1, 3) := by decide +kernel
theorem dX1_isSeatedAs_30 : decode cX1_isSeatedAs 30 = .ok (.goto (-28), 3) := by decide +kernel
theorem dX1_isSeatedAs_33 : decode cX1_isSeatedAs 33 = .ok (.iconst 1, 1) := by decide +kernel
theorem dX1_isSeatedAs_34 : decode cX1_isSeatedAs 34 = .ok (.ireturn, 1) := by decide +kernel
theorem dX1_lieUntilled_0 : decode cX1_lieUntilled 0 = .ok (.iconst 0, 1) := by decide +kernel
theorem dX1_lieUntilled_1 : decode cX1_lieUntilled 1 = .ok (.istore_n 2, 1) := by decide +kernel
theorem dX1_lieUntilled_2 : decode cX1_lieUntilled 2 = .ok (.iload_n 2, 1) := by decide +kernel
theorem dX1_lieUntilled_3 : decode cX1_lieUntilled 3 = .ok (.iconst 3, 1) := by decide +kernel
theorem dX1_lieUntilled_4 : decode cX1_lieUntilled 4 = .ok (.if_icmp .ge 26, 3) := by decide +kernel
theorem dX1_lieUntilled_7 : decode cX1_lieUntilled 7 = .ok (.aload_n 0, 1) := by decide +kernel
theorem dX1_lieUntilled_8 : decode cX1_lieUntilled 8 = .ok (.iload_n 1, 1) := by decide +kernel
theorem dX1_lieUntilled_9 : decode cX1_lieUntilled 9 = .ok (.iload_n 2, 1) := by decide +kernel
theorem dX1_lieUntilled_10 : decode cX1_lieUntilled 10 = .ok (.aload_n 0, 1) := by decide +kernel
theorem dX1_lieUntilled_11 : decode cX1_lieUntilled 11 = .ok (.iload_n 1, 1) := by decide +kernel
theorem dX1_lieUntilled_12 : decode cX1_lieUntilled 12 = .ok (.iload_n 2, 1) := by decide +kernel
theorem dX1_lieUntilled_13 : decode cX1_lieUntilled 13 = .ok (.invokevirtual 63, 3) := by decide +kernel
theorem dX1_lieUntilled_16 : decode cX1_lieUntilled 16 = .ok (.iconst 1, 1) := by decide +kernel
theorem dX1_lieUntilled_17 : decode cX1_lieUntilled 17 = .ok (.iadd, 1) := by decide +kernel
theorem dX1_lieUntilled_18 : decode cX1_lieUntilled 18 = .ok (.invokestatic 104, 3) := by decide +kernel
theorem dX1_lieUntilled_21 : decode cX1_lieUntilled 21 = .ok (.invokevirtual 55, 3) := by decide +kernel
theorem dX1_lieUntilled_24 : decode cX1_lieUntilled 24 = .ok (.iinc 2 1, 3) := by decide +kernel
theorem dX1_lieUntilled_27 : decode cX1_lieUntilled 27 = .ok (.goto (-25), 3) := by decide +kernel
theorem dX1_lieUntilled_30 : decode cX1_lieUntilled 30 = .ok (.return_, 1) := by decide +kernel
theorem dX1_till_0 : decode cX1_till 0 = .ok (.aload_n 0, 1) := by decide +kernel
theorem dX1_till_1 : decode cX1_till 1 = .ok (.getfield 22, 3) := by decide +kernel
theorem dX1_till_4 : decode cX1_till 4 = .ok (.iload_n 1, 1) := by decide +kernel
theorem dX1_till_5 : decode cX1_till 5 = .ok (.iaload, 1) := by decide +kernel
theorem dX1_till_6 : decode cX1_till 6 = .ok (.aload_n 0, 1) := by decide +kernel
theorem dX1_till_7 : decode cX1_till 7 = .ok (.iload_n 2, 1) := by decide +kernel
theorem dX1_till_8 : decode cX1_till 8 = .ok (.iconst 0, 1) := by decide +kernel
theorem dX1_till_9 : decode cX1_till 9 = .ok (.invokevirtual 63, 3) := by decide +kernel
theorem dX1_till_12 : decode cX1_till 12 = .ok (.aload_n 0, 1) := by decide +kernel
theorem dX1_till_13 : decode cX1_till 13 = .ok (.iload_n 2, 1) := by decide +kernel
theorem dX1_till_14 : decode cX1_till 14 = .ok (.iconst 1, 1) := by decide +kernel
theorem dX1_till_15 : decode cX1_till 15 = .ok (.invokevirtual 63, 3) := by decide +kernel
theorem dX1_till_18 : decode cX1_till 18 = .ok (.invokestatic 86, 3) := by decide +kernel
theorem dX1_till_21 : decode cX1_till 21 = .ok (.istore_n 3, 1) := by decide +kernel
theorem dX1_till_22 : decode cX1_till 22 = .ok (.aload_n 0, 1) := by decide +kernel
theorem dX1_till_23 : decode cX1_till 23 = .ok (.getfield 34, 3) := by decide +kernel
theorem dX1_till_26 : decode cX1_till 26 = .ok (.iload_n 1, 1) := by decide +kernel
theorem dX1_till_27 : decode cX1_till 27 = .ok (.iload_n 3, 1) := by decide +kernel
theorem dX1_till_28 : decode cX1_till 28 = .ok (.iastore, 1) := by decide +kernel
theorem dX1_till_29 : decode cX1_till 29 = .ok (.aload_n 0, 1) := by decide +kernel
theorem dX1_till_30 : decode cX1_till 30 = .ok (.getfield 19, 3) := by decide +kernel
theorem dX1_till_33 : decode cX1_till 33 = .ok (.iload_n 2, 1) := by decide +kernel
theorem dX1_till_34 : decode cX1_till 34 = .ok (.iload_n 3, 1) := by decide +kernel
theorem dX1_till_35 : decode cX1_till 35 = .ok (.iastore, 1) := by decide +kernel
theorem dX1_till_36 : decode cX1_till 36 = .ok (.aload_n 0, 1) := by decide +kernel
theorem dX1_till_37 : decode cX1_till 37 = .ok (.dup, 1) := by decide +kernel
theorem dX1_till_38 : decode cX1_till 38 = .ok (.getfield 110, 3) := by decide +kernel
theorem dX1_till_41 : decode cX1_till 41 = .ok (.iload_n 3, 1) := by decide +kernel
theorem dX1_till_42 : decode cX1_till 42 = .ok (.iadd, 1) := by decide +kernel
theorem dX1_till_43 : decode cX1_till 43 = .ok (.putfield 110, 3) := by decide +kernel
theorem dX1_till_46 : decode cX1_till 46 = .ok (.iconst 0, 1) := by decide +kernel
theorem dX1_till_47 : decode cX1_till 47 = .ok (.istore 4, 2) := by decide +kernel
theorem dX1_till_49 : decode cX1_till 49 = .ok (.iload 4, 2) := by decide +kernel
theorem dX1_till_51 : decode cX1_till 51 = .ok (.iconst 3, 1) := by decide +kernel
theorem dX1_till_52 : decode cX1_till 52 = .ok (.if_icmp .ge 48, 3) := by decide +kernel
theorem dX1_till_55 : decode cX1_till 55 = .ok (.aload_n 0, 1) := by decide +kernel
theorem dX1_till_56 : decode cX1_till 56 = .ok (.getfield 22, 3) := by decide +kernel
theorem dX1_till_59 : decode cX1_till 59 = .ok (.iload_n 1, 1) := by decide +kernel
theorem dX1_till_60 : decode cX1_till 60 = .ok (.iaload, 1) := by decide +kernel
theorem dX1_till_61 : decode cX1_till 61 = .ok (.aload_n 0, 1) := by decide +kernel
theorem dX1_till_62 : decode cX1_till 62 = .ok (.getfield 25, 3) := by decide +kernel
theorem dX1_till_65 : decode cX1_till 65 = .ok (.iload_n 1, 1) := by decide +kernel
theorem dX1_till_66 : decode cX1_till 66 = .ok (.iaload, 1) := by decide +kernel
theorem dX1_till_67 : decode cX1_till 67 = .ok (.iload 4, 2) := by decide +kernel
theorem dX1_till_69 : decode cX1_till 69 = .ok (.invokestatic 101, 3) := by decide +kernel
theorem dX1_till_72 : decode cX1_till 72 = .ok (.istore 5, 2) := by decide +kernel
theorem dX1_till_74 : decode cX1_till 74 = .ok (.aload_n 0, 1) := by decide +kernel
theorem dX1_till_75 : decode cX1_till 75 = .ok (.iload_n 2, 1) := by decide +kernel
theorem dX1_till_76 : decode cX1_till 76 = .ok (.iload 4, 2) := by decide +kernel
theorem dX1_till_78 : decode cX1_till 78 = .ok (.aload_n 0, 1) := by decide +kernel
theorem dX1_till_79 : decode cX1_till 79 = .ok (.iload_n 2, 1) := by decide +kernel
theorem dX1_till_80 : decode cX1_till 80 = .ok (.iload 4, 2) := by decide +kernel
theorem dX1_till_82 : decode cX1_till 82 = .ok (.invokevirtual 63, 3) := by decide +kernel
theorem dX1_till_85 : decode cX1_till 85 = .ok (.iload 5, 2) := by decide +kernel
theorem dX1_till_87 : decode cX1_till 87 = .ok (.iadd, 1) := by decide +kernel
theorem dX1_till_88 : decode cX1_till 88 = .ok (.invokestatic 104, 3) := by decide +kernel
theorem dX1_till_91 : decode cX1_till 91 = .ok (.invokevirtual 55, 3) := by decide +kernel
theorem dX1_till_94 : decode cX1_till 94 = .ok (.iinc 4 1, 3) := by decide +kernel
theorem dX1_till_97 : decode cX1_till 97 = .ok (.goto (-48), 3) := by decide +kernel
theorem dX1_till_100 : decode cX1_till 100 = .ok (.aload_n 0, 1) := by decide +kernel
theorem dX1_till_101 : decode cX1_till 101 = .ok (.getfield 28, 3) := by decide +kernel
theorem dX1_till_104 : decode cX1_till 104 = .ok (.iload_n 1, 1) := by decide +kernel
theorem dX1_till_105 : decode cX1_till 105 = .ok (.bipush 20, 2) := by decide +kernel
theorem dX1_till_107 : decode cX1_till 107 = .ok (.aload_n 0, 1) := by decide +kernel
theorem dX1_till_108 : decode cX1_till 108 = .ok (.getfield 28, 3) := by decide +kernel
theorem dX1_till_111 : decode cX1_till 111 = .ok (.iload_n 1, 1) := by decide +kernel
theorem dX1_till_112 : decode cX1_till 112 = .ok (.iaload, 1) := by decide +kernel
theorem dX1_till_113 : decode cX1_till 113 = .ok (.aload_n 0, 1) := by decide +kernel
theorem dX1_till_114 : decode cX1_till 114 = .ok (.getfield 22, 3) := by decide +kernel
theorem dX1_till_117 : decode cX1_till 117 = .ok (.iload_n 1, 1) := by decide +kernel
theorem dX1_till_118 : decode cX1_till 118 = .ok (.iaload, 1) := by decide +kernel
theorem dX1_till_119 : decode cX1_till 119 = .ok (.invokestatic 130, 3) := by decide +kernel
theorem dX1_till_122 : decode cX1_till 122 = .ok (.iadd, 1) := by decide +kernel
theorem dX1_till_123 : decode cX1_till 123 = .ok (.invokestatic 77, 3) := by decide +kernel
theorem dX1_till_126 : decode cX1_till 126 = .ok (.iastore, 1) := by decide +kernel
theorem dX1_till_127 : decode cX1_till 127 = .ok (.return_, 1) := by decide +kernel
theorem dX1_moveOn_0 : decode cX1_moveOn 0 = .ok (.iconst 0, 1) := by decide +kernel
theorem dX1_moveOn_1 : decode cX1_moveOn 1 = .ok (.istore_n 1, 1) := by decide +kernel
theorem dX1_moveOn_2 : decode cX1_moveOn 2 = .ok (.iload_n 1, 1) := by decide +kernel
theorem dX1_moveOn_3 : decode cX1_moveOn 3 = .ok (.aload_n 0, 1) := by decide +kernel
theorem dX1_moveOn_4 : decode cX1_moveOn 4 = .ok (.getfield 40, 3) := by decide +kernel
theorem dX1_moveOn_7 : decode cX1_moveOn 7 = .ok (.if_icmp .ge 49, 3) := by decide +kernel
theorem dX1_moveOn_10 : decode cX1_moveOn 10 = .ok (.aload_n 0, 1) := by decide +kernel
theorem dX1_moveOn_11 : decode cX1_moveOn 11 = .ok (.getfield 31, 3) := by decide +kernel
theorem dX1_moveOn_14 : decode cX1_moveOn 14 = .ok (.iload_n 1, 1) := by decide +kernel
theorem dX1_moveOn_15 : decode cX1_moveOn 15 = .ok (.iaload, 1) := by decide +kernel
theorem dX1_moveOn_16 : decode cX1_moveOn 16 = .ok (.bipush (-9), 2) := by decide +kernel
theorem dX1_moveOn_18 : decode cX1_moveOn 18 = .ok (.if_icmp .eq 32, 3) := by decide +kernel
theorem dX1_moveOn_21 : decode cX1_moveOn 21 = .ok (.aload_n 0, 1) := by decide +kernel
theorem dX1_moveOn_22 : decode cX1_moveOn 22 = .ok (.getfield 37, 3) := by decide +kernel
theorem dX1_moveOn_25 : decode cX1_moveOn 25 = .ok (.ifCond .le 25, 3) := by decide +kernel
theorem dX1_moveOn_28 : decode cX1_moveOn 28 = .ok (.aload_n 0, 1) := by decide +kernel
theorem dX1_moveOn_29 : decode cX1_moveOn 29 = .ok (.getfield 31, 3) := by decide +kernel
theorem dX1_moveOn_32 : decode cX1_moveOn 32 = .ok (.iload_n 1, 1) := by decide +kernel
theorem dX1_moveOn_33 : decode cX1_moveOn 33 = .ok (.aload_n 0, 1) := by decide +kernel
theorem dX1_moveOn_34 : decode cX1_moveOn 34 = .ok (.getfield 31, 3) := by decide +kernel
theorem dX1_moveOn_37 : decode cX1_moveOn 37 = .ok (.iload_n 1, 1) := by decide +kernel
theorem dX1_moveOn_38 : decode cX1_moveOn 38 = .ok (.iaload, 1) := by decide +kernel
theorem dX1_moveOn_39 : decode cX1_moveOn 39 = .ok (.aload_n 0, 1) := by decide +kernel
theorem dX1_moveOn_40 : decode cX1_moveOn 40 = .ok (.getfield 9, 3) := by decide +kernel
theorem dX1_moveOn_43 : decode cX1_moveOn 43 = .ok (.iadd, 1) := by decide +kernel
theorem dX1_moveOn_44 : decode cX1_moveOn 44 = .ok (.aload_n 0, 1) := by decide +kernel
theorem dX1_moveOn_45 : decode cX1_moveOn 45 = .ok (.getfield 37, 3) := by decide +kernel
theorem dX1_moveOn_48 : decode cX1_moveOn 48 = .ok (.irem, 1) := by decide +kernel
theorem dX1_moveOn_49 : decode cX1_moveOn 49 = .ok (.iastore, 1) := by decide +kernel
theorem dX1_moveOn_50 : decode cX1_moveOn 50 = .ok (.iinc 1 1, 3) := by decide +kernel
theorem dX1_moveOn_53 : decode cX1_moveOn 53 = .ok (.goto (-51), 3) := by decide +kernel
theorem dX1_moveOn_56 : decode cX1_moveOn 56 = .ok (.return_, 1) := by decide +kernel
theorem dX1_asHeart_0 : decode cX1_asHeart 0 = .ok (.iconst 0, 1) := by decide +kernel
theorem dX1_asHeart_1 : decode cX1_asHeart 1 = .ok (.bipush 30, 2) := by decide +kernel
theorem dX1_asHeart_3 : decode cX1_asHeart 3 = .ok (.iload_n 0, 1) := by decide +kernel
theorem dX1_asHeart_4 : decode cX1_asHeart 4 = .ok (.invokestatic 77, 3) := by decide +kernel
theorem dX1_asHeart_7 : decode cX1_asHeart 7 = .ok (.invokestatic 120, 3) := by decide +kernel
theorem dX1_asHeart_10 : decode cX1_asHeart 10 = .ok (.ireturn, 1) := by decide +kernel
theorem dX2_init_0 : decode cX2_init 0 = .ok (.aload_n 0, 1) := by decide +kernel
theorem dX2_init_1 : decode cX2_init 1 = .ok (.invokespecial 3, 3) := by decide +kernel
theorem dX2_init_4 : decode cX2_init 4 = .ok (.aload_n 0, 1) := by decide +kernel
theorem dX2_init_5 : decode cX2_init 5 = .ok (.bipush 96, 2) := by decide +kernel
theorem dX2_init_7 : decode cX2_init 7 = .ok (.newarray .int, 2) := by decide +kernel
theorem dX2_init_9 : decode cX2_init 9 = .ok (.putfield 9, 3) := by decide +kernel
theorem dX2_init_12 : decode cX2_init 12 = .ok (.return_, 1) := by decide +kernel
theorem dX2_isFull_0 : decode cX2_isFull 0 = .ok (.aload_n 0, 1) := by decide +kernel
theorem dX2_isFull_1 : decode cX2_isFull 1 = .ok (.getfield 15, 3) := by decide +kernel
theorem dX2_isFull_4 : decode cX2_isFull 4 = .ok (.aload_n 0, 1) := by decide +kernel
theorem dX2_isFull_5 : decode cX2_isFull 5 = .ok (.getfield 9, 3) := by decide +kernel
theorem dX2_isFull_8 : decode cX2_isFull 8 = .ok (.arraylength, 1) := by decide +kernel
theorem dX2_isFull_9 : decode cX2_isFull 9 = .ok (.if_icmp .lt 7, 3) := by decide +kernel
theorem dX2_isFull_12 : decode cX2_isFull 12 = .ok (.iconst 1, 1) := by decide +kernel
theorem dX2_isFull_13 : decode cX2_isFull 13 = .ok (.goto 4, 3) := by decide +kernel
theorem dX2_isFull_16 : decode cX2_isFull 16 = .ok (.iconst 0, 1) := by decide +kernel
theorem dX2_isFull_17 : decode cX2_isFull 17 = .ok (.ireturn, 1) := by decide +kernel
theorem dX2_add_0 : decode cX2_add 0 = .ok (.aload_n 0, 1) := by decide +kernel
theorem dX2_add_1 : decode cX2_add 1 = .ok (.getfield 15, 3) := by decide +kernel
theorem dX2_add_4 : decode cX2_add 4 = .ok (.aload_n 0, 1) := by decide +kernel
theorem dX2_add_5 : decode cX2_add 5 = .ok (.getfield 9, 3) := by decide +kernel
theorem dX2_add_8 : decode cX2_add 8 = .ok (.arraylength, 1) := by decide +kernel
theorem dX2_add_9 : decode cX2_add 9 = .ok (.if_icmp .ge 23, 3) := by decide +kernel
theorem dX2_add_12 : decode cX2_add 12 = .ok (.aload_n 0, 1) := by decide +kernel
theorem dX2_add_13 : decode cX2_add 13 = .ok (.getfield 9, 3) := by decide +kernel
theorem dX2_add_16 : decode cX2_add 16 = .ok (.aload_n 0, 1) := by decide +kernel
theorem dX2_add_17 : decode cX2_add 17 = .ok (.getfield 15, 3) := by decide +kernel
theorem dX2_add_20 : decode cX2_add 20 = .ok (.iload_n 1, 1) := by decide +kernel
theorem dX2_add_21 : decode cX2_add 21 = .ok (.iastore, 1) := by decide +kernel
theorem dX2_add_22 : decode cX2_add 22 = .ok (.aload_n 0, 1) := by decide +kernel
theorem dX2_add_23 : decode cX2_add 23 = .ok (.dup, 1) := by decide +kernel
theorem dX2_add_24 : decode cX2_add 24 = .ok (.getfield 15, 3) := by decide +kernel
theorem dX2_add_27 : decode cX2_add 27 = .ok (.iconst 1, 1) := by decide +kernel
theorem dX2_add_28 : decode cX2_add 28 = .ok (.iadd, 1) := by decide +kernel
theorem dX2_add_29 : decode cX2_add 29 = .ok (.putfield 15, 3) := by decide +kernel
theorem dX2_add_32 : decode cX2_add 32 = .ok (.return_, 1) := by decide +kernel
theorem dX2_tellTo_0 : decode cX2_tellTo 0 = .ok (.aload_n 0, 1) := by decide +kernel
theorem dX2_tellTo_1 : decode cX2_tellTo 1 = .ok (.invokevirtual 19, 3) := by decide +kernel
theorem dX2_tellTo_4 : decode cX2_tellTo 4 = .ok (.istore_n 2, 1) := by decide +kernel
theorem dX2_tellTo_5 : decode cX2_tellTo 5 = .ok (.iload_n 2, 1) := by decide +kernel
theorem dX2_tellTo_6 : decode cX2_tellTo 6 = .ok (.bipush (-9), 2) := by decide +kernel
theorem dX2_tellTo_8 : decode cX2_tellTo 8 = .ok (.if_icmp .eq 9, 3) := by decide +kernel
theorem dX2_tellTo_11 : decode cX2_tellTo 11 = .ok (.sipush (-1000), 3) := by decide +kernel
theorem dX2_tellTo_14 : decode cX2_tellTo 14 = .ok (.iload_n 2, 1) := by decide +kernel
theorem dX2_tellTo_15 : decode cX2_tellTo 15 = .ok (.isub, 1) := by decide +kernel
theorem dX2_tellTo_16 : decode cX2_tellTo 16 = .ok (.ireturn, 1) := by decide +kernel
theorem dX2_tellTo_17 : decode cX2_tellTo 17 = .ok (.iconst 0, 1) := by decide +kernel
theorem dX2_tellTo_18 : decode cX2_tellTo 18 = .ok (.istore_n 3, 1) := by decide +kernel
theorem dX2_tellTo_19 : decode cX2_tellTo 19 = .ok (.iconst 0, 1) := by decide +kernel
theorem dX2_tellTo_20 : decode cX2_tellTo 20 = .ok (.istore 4, 2) := by decide +kernel
theorem dX2_tellTo_22 : decode cX2_tellTo 22 = .ok (.iload 4, 2) := by decide +kernel
theorem dX2_tellTo_24 : decode cX2_tellTo 24 = .ok (.aload_n 0, 1) := by decide +kernel
theorem dX2_tellTo_25 : decode cX2_tellTo 25 = .ok (.getfield 15, 3) := by decide +kernel
theorem dX2_tellTo_28 : decode cX2_tellTo 28 = .ok (.if_icmp .ge 46, 3) := by decide +kernel
theorem dX2_tellTo_31 : decode cX2_tellTo 31 = .ok (.aload_n 0, 1) := by decide +kernel
theorem dX2_tellTo_32 : decode cX2_tellTo 32 = .ok (.aload_n 1, 1) := by decide +kernel
theorem dX2_tellTo_33 : decode cX2_tellTo 33 = .ok (.iload 4, 2) := by decide +kernel
theorem dX2_tellTo_35 : decode cX2_tellTo 35 = .ok (.invokevirtual 23, 3) := by decide +kernel
theorem dX2_tellTo_38 : decode cX2_tellTo 38 = .ok (.ifCond .ne 10, 3) := by decide +kernel
theorem dX2_tellTo_41 : decode cX2_tellTo 41 = .ok (.sipush (-2000), 3) := by decide +kernel
theorem dX2_tellTo_44 : decode cX2_tellTo 44 = .ok (.iload 4, 2) := by decide +kernel
theorem dX2_tellTo_46 : decode cX2_tellTo 46 = .ok (.isub, 1) := by decide +kernel
theorem dX2_tellTo_47 : decode cX2_tellTo 47 = .ok (.ireturn, 1) := by decide +kernel
theorem dX2_tellTo_48 : decode cX2_tellTo 48 = .ok (.iinc 3 1, 3) := by decide +kernel
theorem dX2_tellTo_51 : decode cX2_tellTo 51 = .ok (.iload 4, 2) := by decide +kernel
theorem dX2_tellTo_53 : decode cX2_tellTo 53 = .ok (.iconst 1, 1) := by decide +kernel
theorem dX2_tellTo_54 : decode cX2_tellTo 54 = .ok (.aload_n 0, 1) := by decide +kernel
theorem dX2_tellTo_55 : decode cX2_tellTo 55 = .ok (.getfield 9, 3) := by decide +kernel
theorem dX2_tellTo_58 : decode cX2_tellTo 58 = .ok (.iload 4, 2) := by decide +kernel
theorem dX2_tellTo_60 : decode cX2_tellTo 60 = .ok (.iaload, 1) := by decide +kernel
theorem dX2_tellTo_61 : decode cX2_tellTo 61 = .ok (.invokestatic 27, 3) := by decide +kernel
theorem dX2_tellTo_64 : decode cX2_tellTo 64 = .ok (.invokevirtual 31, 3) := by decide +kernel
theorem dX2_tellTo_67 : decode cX2_tellTo 67 = .ok (.iadd, 1) := by decide +kernel
theorem dX2_tellTo_68 : decode cX2_tellTo 68 = .ok (.iadd, 1) := by decide +kernel
theorem dX2_tellTo_69 : decode cX2_tellTo 69 = .ok (.istore 4, 2) := by decide +kernel
theorem dX2_tellTo_71 : decode cX2_tellTo 71 = .ok (.goto (-49), 3) := by decide +kernel
theorem dX2_tellTo_74 : decode cX2_tellTo 74 = .ok (.iload_n 3, 1) := by decide +kernel
theorem dX2_tellTo_75 : decode cX2_tellTo 75 = .ok (.ireturn, 1) := by decide +kernel
theorem dX2_placeOfWrongLetter_0 : decode cX2_placeOfWrongLetter 0 = .ok (.ldc 36, 2) := by decide +kernel
theorem dX2_placeOfWrongLetter_2 : decode cX2_placeOfWrongLetter 2 = .ok (.astore_n 1, 1) := by decide +kernel
theorem dX2_placeOfWrongLetter_3 : decode cX2_placeOfWrongLetter 3 = .ok (.iconst 0, 1) := by decide +kernel
theorem dX2_placeOfWrongLetter_4 : decode cX2_placeOfWrongLetter 4 = .ok (.istore_n 2, 1) := by decide +kernel
theorem dX2_placeOfWrongLetter_5 : decode cX2_placeOfWrongLetter 5 = .ok (.iconst 0, 1) := by decide +kernel
theorem dX2_placeOfWrongLetter_6 : decode cX2_placeOfWrongLetter 6 = .ok (.istore_n 3, 1) := by decide +kernel
theorem dX2_placeOfWrongLetter_7 : decode cX2_placeOfWrongLetter 7 = .ok (.iload_n 3, 1) := by decide +kernel
theorem dX2_placeOfWrongLetter_8 : decode cX2_placeOfWrongLetter 8 = .ok (.aload_n 0, 1) := by decide +kernel
theorem dX2_placeOfWrongLetter_9 : decode cX2_placeOfWrongLetter 9 = .ok (.getfield 15, 3) := by decide +kernel
theorem dX2_placeOfWrongLetter_12 : decode cX2_placeOfWrongLetter 12 = .ok (.if_icmp .ge 63, 3) := by decide +kernel
theorem dX2_placeOfWrongLetter_15 : decode cX2_placeOfWrongLetter 15 = .ok (.iload_n 2, 1) := by decide +kernel
theorem dX2_placeOfWrongLetter_16 : decode cX2_placeOfWrongLetter 16 = .ok (.aload_n 1, 1) := by decide +kernel
theorem dX2_placeOfWrongLetter_17 : decode cX2_placeOfWrongLetter 17 = .ok (.invokevirtual 31, 3) := by decide +kernel
theorem dX2_placeOfWrongLetter_20 : decode cX2_placeOfWrongLetter 20 = .ok (.if_icmp .ne 24, 3) := by decide +kernel
theorem dX2_placeOfWrongLetter_23 : decode cX2_placeOfWrongLetter 23 = .ok (.aload_n 0, 1) := by decide +kernel
theorem dX2_placeOfWrongLetter_24 : decode cX2_placeOfWrongLetter 24 = .ok (.getfield 9, 3) := by decide +kernel
theorem dX2_placeOfWrongLetter_27 : decode cX2_placeOfWrongLetter 27 = .ok (.iload_n 3, 1) := by decide +kernel
theorem dX2_placeOfWrongLetter_28 : decode cX2_placeOfWrongLetter 28 = .ok (.iaload, 1) := by decide +kernel
theorem dX2_placeOfWrongLetter_29 : decode cX2_placeOfWrongLetter 29 = .ok (.invokestatic 27, 3) := by decide +kernel
theorem dX2_placeOfWrongLetter_32 : decode cX2_placeOfWrongLetter 32 = .ok (.astore_n 1, 1) := by decide +kernel
theorem dX2_placeOfWrongLetter_33 : decode cX2_placeOfWrongLetter 33 = .ok (.iconst 0, 1) := by decide +kernel
theorem dX2_placeOfWrongLetter_34 : decode cX2_placeOfWrongLetter 34 = .ok (.istore_n 2, 1) := by decide +kernel
theorem dX2_placeOfWrongLetter_35 : decode cX2_placeOfWrongLetter 35 = .ok (.aload_n 1, 1) := by decide +kernel
theorem dX2_placeOfWrongLetter_36 : decode cX2_placeOfWrongLetter 36 = .ok (.invokevirtual 38, 3) := by decide +kernel
theorem dX2_placeOfWrongLetter_39 : decode cX2_placeOfWrongLetter 39 = .ok (.ifCond .eq 30, 3) := by decide +kernel
theorem dX2_placeOfWrongLetter_42 : decode cX2_placeOfWrongLetter 42 = .ok (.iload_n 3, 1) := by decide +kernel
theorem dX2_placeOfWrongLetter_43 : decode cX2_placeOfWrongLetter 43 = .ok (.ireturn, 1) := by decide +kernel
theorem dX2_placeOfWrongLetter_44 : decode cX2_placeOfWrongLetter 44 = .ok (.aload_n 0, 1) := by decide +kernel
theorem dX2_placeOfWrongLetter_45 : decode cX2_placeOfWrongLetter 45 = .ok (.getfield 9, 3) := by decide +kernel
theorem dX2_placeOfWrongLetter_48 : decode cX2_placeOfWrongLetter 48 = .ok (.iload_n 3, 1) := by decide +kernel
theorem dX2_placeOfWrongLetter_49 : decode cX2_placeOfWrongLetter 49 = .ok (.iaload, 1) := by decide +kernel
theorem dX2_placeOfWrongLetter_50 : decode cX2_placeOfWrongLetter 50 = .ok (.aload_n 1, 1) := by decide +kernel
theorem dX2_placeOfWrongLetter_51 : decode cX2_placeOfWrongLetter 51 = .ok (.iload_n 2, 1) := by decide +kernel
theorem dX2_placeOfWrongLetter_52 : decode cX2_placeOfWrongLetter 52 = .ok (.invokevirtual 42, 3) := by decide +kernel
theorem dX2_placeOfWrongLetter_55 : decode cX2_placeOfWrongLetter 55 = .ok (.invokestatic 46, 3) := by decide +kernel
theorem dX2_placeOfWrongLetter_58 : decode cX2_placeOfWrongLetter 58 = .ok (.ifCond .eq 9, 3) := by decide +kernel
theorem dX2_placeOfWrongLetter_61 : decode cX2_placeOfWrongLetter 61 = .ok (.iinc 2 1, 3) := by decide +kernel
theorem dX2_placeOfWrongLetter_64 : decode cX2_placeOfWrongLetter 64 = .ok (.goto 5, 3) := by decide +kernel
theorem dX2_placeOfWrongLetter_67 : decode cX2_placeOfWrongLetter 67 = .ok (.iload_n 3, 1) := by decide +kernel
theorem dX2_placeOfWrongLetter_68 : decode cX2_placeOfWrongLetter 68 = .ok (.ireturn, 1) := by decide +kernel
theorem dX2_placeOfWrongLetter_69 : decode cX2_placeOfWrongLetter 69 = .ok (.iinc 3 1, 3) := by decide +kernel
theorem dX2_placeOfWrongLetter_72 : decode cX2_placeOfWrongLetter 72 = .ok (.goto (-65), 3) := by decide +kernel
theorem dX2_placeOfWrongLetter_75 : decode cX2_placeOfWrongLetter 75 = .ok (.aload_n 0, 1) := by decide +kernel
theorem dX2_placeOfWrongLetter_76 : decode cX2_placeOfWrongLetter 76 = .ok (.getfield 15, 3) := by decide +kernel
theorem dX2_placeOfWrongLetter_79 : decode cX2_placeOfWrongLetter 79 = .ok (.ifCond .eq 11, 3) := by decide +kernel
theorem dX2_placeOfWrongLetter_82 : decode cX2_placeOfWrongLetter 82 = .ok (.iload_n 2, 1) := by decide +kernel
theorem dX2_placeOfWrongLetter_83 : decode cX2_placeOfWrongLetter 83 = .ok (.aload_n 1, 1) := by decide +kernel
theorem dX2_placeOfWrongLetter_84 : decode cX2_placeOfWrongLetter 84 = .ok (.invokevirtual 31, 3) := by decide +kernel
theorem dX2_placeOfWrongLetter_87 : decode cX2_placeOfWrongLetter 87 = .ok (.if_icmp .ge 10, 3) := by decide +kernel
theorem dX2_placeOfWrongLetter_90 : decode cX2_placeOfWrongLetter 90 = .ok (.aload_n 0, 1) := by decide +kernel
theorem dX2_placeOfWrongLetter_91 : decode cX2_placeOfWrongLetter 91 = .ok (.getfield 15, 3) := by decide +kernel
theorem dX2_placeOfWrongLetter_94 : decode cX2_placeOfWrongLetter 94 = .ok (.goto 5, 3) := by decide +kernel
theorem dX2_placeOfWrongLetter_97 : decode cX2_placeOfWrongLetter 97 = .ok (.bipush (-9), 2) := by decide +kernel
theorem dX2_placeOfWrongLetter_99 : decode cX2_placeOfWrongLetter 99 = .ok (.ireturn, 1) := by decide +kernel
theorem dX2_shapeBehind_0 : decode cX2_shapeBehind 0 = .ok (.iload_n 0, 1) := by decide +kernel
theorem dX2_shapeBehind_1 : decode cX2_shapeBehind 1 = .ok (.tableswitch 130 97 121 #[121, 130, 130, 130, 130, 115, 130, 127, 130, 130, 130, 130, 130, 130, 124, 118, 130, 130, 124, 130, 130, 130, 130, 130, 121], 115) := by decide +kernel
theorem dX2_shapeBehind_116 : decode cX2_shapeBehind 116 = .ok (.ldc 50, 2) := by decide +kernel
theorem dX2_shapeBehind_118 : decode cX2_shapeBehind 118 = .ok (.areturn, 1) := by decide +kernel
theorem dX2_shapeBehind_119 : decode cX2_shapeBehind 119 = .ok (.ldc 52, 2) := by decide +kernel
theorem dX2_shapeBehind_121 : decode cX2_shapeBehind 121 = .ok (.areturn, 1) := by decide +kernel
theorem dX2_shapeBehind_122 : decode cX2_shapeBehind 122 = .ok (.ldc 54, 2) := by decide +kernel
theorem dX2_shapeBehind_124 : decode cX2_shapeBehind 124 = .ok (.areturn, 1) := by decide +kernel
theorem dX2_shapeBehind_125 : decode cX2_shapeBehind 125 = .ok (.ldc 56, 2) := by decide +kernel
theorem dX2_shapeBehind_127 : decode cX2_shapeBehind 127 = .ok (.areturn, 1) := by decide +kernel
theorem dX2_shapeBehind_128 : decode cX2_shapeBehind 128 = .ok (.ldc 58, 2) := by decide +kernel
theorem dX2_shapeBehind_130 : decode cX2_shapeBehind 130 = .ok (.areturn, 1) := by decide +kernel
theorem dX2_shapeBehind_131 : decode cX2_shapeBehind 131 = .ok (.ldc 36, 2) := by decide +kernel
theorem dX2_shapeBehind_133 : decode cX2_shapeBehind 133 = .ok (.areturn, 1) := by decide +kernel
theorem dX2_fits_0 : decode cX2_fits 0 = .ok (.iload_n 1, 1) := by decide +kernel
theorem dX2_fits_1 : decode cX2_fits 1 = .ok (.bipush 100, 2) := by decide +kernel
theorem dX2_fits_3 : decode cX2_fits 3 = .ok (.if_icmp .ne 21, 3) := by decide +kernel
theorem dX2_fits_6 : decode cX2_fits 6 = .ok (.iload_n 0, 1) := by decide +kernel
theorem dX2_fits_7 : decode cX2_fits 7 = .ok (.bipush 48, 2) := by decide +kernel
theorem dX2_fits_9 : decode cX2_fits 9 = .ok (.if_icmp .lt 13, 3) := by decide +kernel
theorem dX2_fits_12 : decode cX2_fits 12 = .ok (.iload_n 0, 1) := by decide +kernel
theorem dX2_fits_13 : decode cX2_fits 13 = .ok (.bipush 57, 2) := by decide +kernel
theorem dX2_fits_15 : decode cX2_fits 15 = .ok (.if_icmp .gt 7, 3) := by decide +kernel
theorem dX2_fits_18 : decode cX2_fits 18 = .ok (.iconst 1, 1) := by decide +kernel
theorem dX2_fits_19 : decode cX2_fits 19 = .ok (.goto 4, 3) := by decide +kernel
theorem dX2_fits_22 : decode cX2_fits 22 = .ok (.iconst 0, 1) := by decide +kernel
theorem dX2_fits_23 : decode cX2_fits 23 = .ok (.ireturn, 1) := by decide +kernel
theorem dX2_fits_24 : decode cX2_fits 24 = .ok (.iload_n 1, 1) := by decide +kernel
theorem dX2_fits_25 : decode cX2_fits 25 = .ok (.bipush 107, 2) := by decide +kernel
theorem dX2_fits_27 : decode cX2_fits 27 = .ok (.if_icmp .ne 18, 3) := by decide +kernel
theorem dX2_fits_30 : decode cX2_fits 30 = .ok (.iload_n 0, 1) := by decide +kernel
theorem dX2_fits_31 : decode cX2_fits 31 = .ok (.invokestatic 60, 3) := by decide +kernel
theorem dX2_fits_34 : decode cX2_fits 34 = .ok (.ifCond .lt 7, 3) := by decide +kernel
theorem dX2_fits_37 : decode cX2_fits 37 = .ok (.iconst 1, 1) := by decide +kernel
theorem dX2_fits_38 : decode cX2_fits 38 = .ok (.goto 17, 3) := by decide +kernel
theorem dX2_fits_41 : decode cX2_fits 41 = .ok (.iconst 0, 1) := by decide +kernel
theorem dX2_fits_42 : decode cX2_fits 42 = .ok (.goto 13, 3) := by decide +kernel
theorem dX2_fits_45 : decode cX2_fits 45 = .ok (.iload_n 0, 1) := by decide +kernel
theorem dX2_fits_46 : decode cX2_fits 46 = .ok (.iload_n 1, 1) := by decide +kernel
theorem dX2_fits_47 : decode cX2_fits 47 = .ok (.if_icmp .ne 7, 3) := by decide +kernel
theorem dX2_fits_50 : decode cX2_fits 50 = .ok (.iconst 1, 1) := by decide +kernel
theorem dX2_fits_51 : decode cX2_fits 51 = .ok (.goto 4, 3) := by decide +kernel
theorem dX2_fits_54 : decode cX2_fits 54 = .ok (.iconst 0, 1) := by decide +kernel
theorem dX2_fits_55 : decode cX2_fits 55 = .ok (.ireturn, 1) := by decide +kernel
theorem dX2_comes_0 : decode cX2_comes 0 = .ok (.aload_n 0, 1) := by decide +kernel
theorem dX2_comes_1 : decode cX2_comes 1 = .ok (.getfield 9, 3) := by decide +kernel
theorem dX2_comes_4 : decode cX2_comes 4 = .ok (.iload_n 2, 1) := by decide +kernel
theorem dX2_comes_5 : decode cX2_comes 5 = .ok (.iaload, 1) := by decide +kernel
theorem dX2_comes_6 : decode cX2_comes 6 = .ok (.tableswitch 173 97 115 #[104, 173, 173, 173, 173, 90, 173, 135, 173, 173, 173, 173, 173, 173, 123, 97, 173, 173, 161], 90) := by decide +kernel
theorem dX2_comes_96 : decode cX2_comes 96 = .ok (.aload_n 0, 1) := by decide +kernel
theorem dX2_comes_97 : decode cX2_comes 97 = .ok (.aload_n 1, 1) := by decide +kernel
theorem dX2_comes_98 : decode cX2_comes 98 = .ok (.iload_n 2, 1) := by decide +kernel
theorem dX2_comes_99 : decode cX2_comes 99 = .ok (.invokevirtual 66, 3) := by decide +kernel
theorem dX2_comes_102 : decode cX2_comes 102 = .ok (.ireturn, 1) := by decide +kernel
theorem dX2_comes_103 : decode cX2_comes 103 = .ok (.aload_n 0, 1) := by decide +kernel
theorem dX2_comes_104 : decode cX2_comes 104 = .ok (.aload_n 1, 1) := by decide +kernel
theorem dX2_comes_105 : decode cX2_comes 105 = .ok (.iload_n 2, 1) := by decide +kernel
theorem dX2_comes_106 : decode cX2_comes 106 = .ok (.invokevirtual 69, 3) := by decide +kernel
theorem dX2_comes_109 : decode cX2_comes 109 = .ok (.ireturn, 1) := by decide +kernel
theorem dX2_comes_110 : decode cX2_comes 110 = .ok (.aload_n 1, 1) := by decide +kernel
theorem dX2_comes_111 : decode cX2_comes 111 = .ok (.aload_n 0, 1) := by decide +kernel
theorem dX2_comes_112 : decode cX2_comes 112 = .ok (.iload_n 2, 1) := by decide +kernel
theorem dX2_comes_113 : decode cX2_comes 113 = .ok (.iconst 1, 1) := by decide +kernel
theorem dX2_comes_114 : decode cX2_comes 114 = .ok (.iadd, 1) := by decide +kernel
theorem dX2_comes_115 : decode cX2_comes 115 = .ok (.invokevirtual 72, 3) := by decide +kernel
theorem dX2_comes_118 : decode cX2_comes 118 = .ok (.aload_n 0, 1) := by decide +kernel
theorem dX2_comes_119 : decode cX2_comes 119 = .ok (.iload_n 2, 1) := by decide +kernel
theorem dX2_comes_120 : decode cX2_comes 120 = .ok (.iconst 2, 1) := by decide +kernel
theorem dX2_comes_121 : decode cX2_comes 121 = .ok (.iadd, 1) := by decide +kernel
theorem dX2_comes_122 : decode cX2_comes 122 = .ok (.invokevirtual 72, 3) := by decide +kernel
theorem dX2_comes_125 : decode cX2_comes 125 = .ok (.invokestatic 75, 3) := by decide +kernel
theorem dX2_comes_128 : decode cX2_comes 128 = .ok (.ireturn, 1) := by decide +kernel
theorem dX2_comes_129 : decode cX2_comes 129 = .ok (.aload_n 1, 1) := by decide +kernel
theorem dX2_comes_130 : decode cX2_comes 130 = .ok (.aload_n 0, 1) := by decide +kernel
theorem dX2_comes_131 : decode cX2_comes 131 = .ok (.iload_n 2, 1) := by decide +kernel
theorem dX2_comes_132 : decode cX2_comes 132 = .ok (.iconst 1, 1) := by decide +kernel
theorem dX2_comes_133 : decode cX2_comes 133 = .ok (.iadd, 1) := by decide +kernel
theorem dX2_comes_134 : decode cX2_comes 134 = .ok (.invokevirtual 72, 3) := by decide +kernel
theorem dX2_comes_137 : decode cX2_comes 137 = .ok (.invokestatic 79, 3) := by decide +kernel
theorem dX2_comes_140 : decode cX2_comes 140 = .ok (.ireturn, 1) := by decide +kernel
theorem dX2_comes_141 : decode cX2_comes 141 = .ok (.aload_n 1, 1) := by decide +kernel
theorem dX2_comes_142 : decode cX2_comes 142 = .ok (.aload_n 0, 1) := by decide +kernel
theorem dX2_comes_143 : decode cX2_comes 143 = .ok (.iload_n 2, 1) := by decide +kernel
theorem dX2_comes_144 : decode cX2_comes 144 = .ok (.iconst 1, 1) := by decide +kernel
theorem dX2_comes_145 : decode cX2_comes 145 = .ok (.iadd, 1) := by decide +kernel
theorem dX2_comes_146 : decode cX2_comes 146 = .ok (.invokevirtual 72, 3) := by decide +kernel
theorem dX2_comes_149 : decode cX2_comes 149 = .ok (.aload_n 0, 1) := by decide +kernel
theorem dX2_comes_150 : decode cX2_comes 150 = .ok (.iload_n 2, 1) := by decide +kernel
theorem dX2_comes_151 : decode cX2_comes 151 = .ok (.iconst 2, 1) := by decide +kernel
theorem dX2_comes_152 : decode cX2_comes 152 = .ok (.iadd, 1) := by decide +kernel
theorem dX2_comes_153 : decode cX2_comes 153 = .ok (.invokevirtual 72, 3) := by decide +kernel
theorem dX2_comes_156 : decode cX2_comes 156 = .ok (.aload_n 0, 1) := by decide +kernel
theorem dX2_comes_157 : decode cX2_comes 157 = .ok (.iload_n 2, 1) := by decide +kernel
theorem dX2_comes_158 : decode cX2_comes 158 = .ok (.iconst 3, 1) := by decide +kernel
theorem dX2_comes_159 : decode cX2_comes 159 = .ok (.iadd, 1) := by decide +kernel
theorem dX2_comes_160 : decode cX2_comes 160 = .ok (.invokevirtual 82, 3) := by decide +kernel
theorem dX2_comes_163 : decode cX2_comes 163 = .ok (.invokestatic 85, 3) := by decide +kernel
theorem dX2_comes_166 : decode cX2_comes 166 = .ok (.ireturn, 1) := by decide +kernel
theorem dX2_comes_167 : decode cX2_comes 167 = .ok (.aload_n 1, 1) := by decide +kernel
theorem dX2_comes_168 : decode cX2_comes 168 = .ok (.aload_n 0, 1) := by decide +kernel
theorem dX2_comes_169 : decode cX2_comes 169 = .ok (.iload_n 2, 1) := by decide +kernel
theorem dX2_comes_170 : decode cX2_comes 170 = .ok (.iconst 1, 1) := by decide +kernel
theorem dX2_comes_171 : decode cX2_comes 171 = .ok (.iadd, 1) := by decide +kernel
theorem dX2_comes_172 : decode cX2_comes 172 = .ok (.invokevirtual 72, 3) := by decide +kernel
theorem dX2_comes_175 : decode cX2_comes 175 = .ok (.invokestatic 89, 3) := by decide +kernel
theorem dX2_comes_178 : decode cX2_comes 178 = .ok (.ireturn, 1) := by decide +kernel
theorem dX2_comes_179 : decode cX2_comes 179 = .ok (.aload_n 1, 1) := by decide +kernel
theorem dX2_comes_180 : decode cX2_comes 180 = .ok (.aload_n 0, 1) := by decide +kernel
theorem dX2_comes_181 : decode cX2_comes 181 = .ok (.iload_n 2, 1) := by decide +kernel
theorem dX2_comes_182 : decode cX2_comes 182 = .ok (.iconst 1, 1) := by decide +kernel
theorem dX2_comes_183 : decode cX2_comes 183 = .ok (.iadd, 1) := by decide +kernel
theorem dX2_comes_184 : decode cX2_comes 184 = .ok (.invokevirtual 82, 3) := by decide +kernel
theorem dX2_comes_187 : decode cX2_comes 187 = .ok (.invokestatic 92, 3) := by decide +kernel
theorem dX2_comes_190 : decode cX2_comes 190 = .ok (.ireturn, 1) := by decide +kernel
theorem dX2_farmComes_0 : decode cX2_farmComes 0 = .ok (.aload_n 0, 1) := by decide +kernel
theorem dX2_farmComes_1 : decode cX2_farmComes 1 = .ok (.iload_n 2, 1) := by decide +kernel
theorem dX2_farmComes_2 : decode cX2_farmComes 2 = .ok (.iconst 1, 1) := by decide +kernel
theorem dX2_farmComes_3 : decode cX2_farmComes 3 = .ok (.iadd, 1) := by decide +kernel
theorem dX2_farmComes_4 : decode cX2_farmComes 4 = .ok (.invokevirtual 82, 3) := by decide +kernel
theorem dX2_farmComes_7 : decode cX2_farmComes 7 = .ok (.istore_n 3, 1) := by decide +kernel
theorem dX2_farmComes_8 : decode cX2_farmComes 8 = .ok (.aload_n 0, 1) := by decide +kernel
theorem dX2_farmComes_9 : decode cX2_farmComes 9 = .ok (.iload_n 2, 1) := by decide +kernel
theorem dX2_farmComes_10 : decode cX2_farmComes 10 = .ok (.iconst 3, 1) := by decide +kernel
theorem dX2_farmComes_11 : decode cX2_farmComes 11 = .ok (.iadd, 1) := by decide +kernel
theorem dX2_farmComes_12 : decode cX2_farmComes 12 = .ok (.invokevirtual 82, 3) := by decide +kernel
theorem dX2_farmComes_15 : decode cX2_farmComes 15 = .ok (.istore 4, 2) := by decide +kernel
theorem dX2_farmComes_17 : decode cX2_farmComes 17 = .ok (.aload_n 0, 1) := by decide +kernel
theorem dX2_farmComes_18 : decode cX2_farmComes 18 = .ok (.iload_n 2, 1) := by decide +kernel
theorem dX2_farmComes_19 : decode cX2_farmComes 19 = .ok (.iconst 5, 1) := by decide +kernel
theorem dX2_farmComes_20 : decode cX2_farmComes 20 = .ok (.iadd, 1) := by decide +kernel
theorem dX2_farmComes_21 : decode cX2_farmComes 21 = .ok (.invokevirtual 82, 3) := by decide +kernel
theorem dX2_farmComes_24 : decode cX2_farmComes 24 = .ok (.istore 5, 2) := by decide +kernel
theorem dX2_farmComes_26 : decode cX2_farmComes 26 = .ok (.aload_n 1, 1) := by decide +kernel
theorem dX2_farmComes_27 : decode cX2_farmComes 27 = .ok (.getfield 95, 3) := by decide +kernel
theorem dX2_farmComes_30 : decode cX2_farmComes 30 = .ok (.bipush 6, 2) := by decide +kernel
theorem dX2_farmComes_32 : decode cX2_farmComes 32 = .ok (.if_icmp .ge 23, 3) := by decide +kernel
theorem dX2_farmComes_35 : decode cX2_farmComes 35 = .ok (.iload_n 3, 1) := by decide +kernel
theorem dX2_farmComes_36 : decode cX2_farmComes 36 = .ok (.bipush 30, 2) := by decide +kernel
theorem dX2_farmComes_38 : decode cX2_farmComes 38 = .ok (.if_icmp .gt 17, 3) := by decide +kernel
theorem dX2_farmComes_41 : decode cX2_farmComes 41 = .ok (.iload 4, 2) := by decide +kernel
theorem dX2_farmComes_43 : decode cX2_farmComes 43 = .ok (.bipush 30, 2) := by decide +kernel
theorem dX2_farmComes_45 : decode cX2_farmComes 45 = .ok (.if_icmp .gt 10, 3) := by decide +kernel
theorem dX2_farmComes_48 : decode cX2_farmComes 48 = .ok (.iload 5, 2) := by decide +kernel
theorem dX2_farmComes_50 : decode cX2_farmComes 50 = .ok (.bipush 30, 2) := by decide +kernel
theorem dX2_farmComes_52 : decode cX2_farmComes 52 = .ok (.if_icmp .le 5, 3) := by decide +kernel
theorem dX2_farmComes_55 : decode cX2_farmComes 55 = .ok (.iconst 0, 1) := by decide +kernel
theorem dX2_farmComes_56 : decode cX2_farmComes 56 = .ok (.ireturn, 1) := by decide +kernel
theorem dX2_farmComes_57 : decode cX2_farmComes 57 = .ok (.aload_n 1, 1) := by decide +kernel
theorem dX2_farmComes_58 : decode cX2_farmComes 58 = .ok (.iload_n 3, 1) := by decide +kernel
theorem dX2_farmComes_59 : decode cX2_farmComes 59 = .ok (.iload 4, 2) := by decide +kernel
theorem dX2_farmComes_61 : decode cX2_farmComes 61 = .ok (.iload 5, 2) := by decide +kernel
theorem dX2_farmComes_63 : decode cX2_farmComes 63 = .ok (.invokevirtual 100, 3) := by decide +kernel
theorem dX2_farmComes_66 : decode cX2_farmComes 66 = .ok (.iconst 1, 1) := by decide +kernel
theorem dX2_farmComes_67 : decode cX2_farmComes 67 = .ok (.ireturn, 1) := by decide +kernel
theorem dX2_farmerComes_0 : decode cX2_farmerComes 0 = .ok (.aload_n 1, 1) := by decide +kernel
theorem dX2_farmerComes_1 : decode cX2_farmerComes 1 = .ok (.getfield 104, 3) := by decide +kernel
theorem dX2_farmerComes_4 : decode cX2_farmerComes 4 = .ok (.bipush 6, 2) := by decide +kernel
theorem dX2_farmerComes_6 : decode cX2_farmerComes 6 = .ok (.if_icmp .lt 5, 3) := by decide +kernel
theorem dX2_farmerComes_9 : decode cX2_farmerComes 9 = .ok (.iconst 0, 1) := by decide +kernel
theorem dX2_farmerComes_10 : decode cX2_farmerComes 10 = .ok (.ireturn, 1) := by decide +kernel
theorem dX2_farmerComes_11 : decode cX2_farmerComes 11 = .ok (.aload_n 1, 1) := by decide +kernel
theorem dX2_farmerComes_12 : decode cX2_farmerComes 12 = .ok (.aload_n 0, 1) := by decide +kernel
theorem dX2_farmerComes_13 : decode cX2_farmerComes 13 = .ok (.iload_n 2, 1) := by decide +kernel
theorem dX2_farmerComes_14 : decode cX2_farmerComes 14 = .ok (.iconst 1, 1) := by decide +kernel
theorem dX2_farmerComes_15 : decode cX2_farmerComes 15 = .ok (.iadd, 1) := by decide +kernel
theorem dX2_farmerComes_16 : decode cX2_farmerComes 16 = .ok (.invokevirtual 107, 3) := by decide +kernel
theorem dX2_farmerComes_19 : decode cX2_farmerComes 19 = .ok (.invokestatic 60, 3) := by decide +kernel
theorem dX2_farmerComes_22 : decode cX2_farmerComes 22 = .ok (.aload_n 0, 1) := by decide +kernel
theorem dX2_farmerComes_23 : decode cX2_farmerComes 23 = .ok (.iload_n 2, 1) := by decide +kernel
theorem dX2_farmerComes_24 : decode cX2_farmerComes 24 = .ok (.iconst 2, 1) := by decide +kernel
theorem dX2_farmerComes_25 : decode cX2_farmerComes 25 = .ok (.iadd, 1) := by decide +kernel
theorem dX2_farmerComes_26 : decode cX2_farmerComes 26 = .ok (.invokevirtual 72, 3) := by decide +kernel
theorem dX2_farmerComes_29 : decode cX2_farmerComes 29 = .ok (.invokevirtual 110, 3) := by decide +kernel
theorem dX2_farmerComes_32 : decode cX2_farmerComes 32 = .ok (.iconst 1, 1) := by decide +kernel
theorem dX2_farmerComes_33 : decode cX2_farmerComes 33 = .ok (.ireturn, 1) := by decide +kernel
theorem dX2_seatComes_0 : decode cX2_seatComes 0 = .ok (.aload_n 0, 1) := by decide +kernel
theorem dX2_seatComes_1 : decode cX2_seatComes 1 = .ok (.iload_n 1, 1) := by decide +kernel
theorem dX2_seatComes_2 : decode cX2_seatComes 2 = .ok (.invokevirtual 114, 3) := by decide +kernel
theorem dX2_seatComes_5 : decode cX2_seatComes 5 = .ok (.ifCond .eq 11, 3) := by decide +kernel
theorem dX2_seatComes_8 : decode cX2_seatComes 8 = .ok (.aload_n 0, 1) := by decide +kernel
theorem dX2_seatComes_9 : decode cX2_seatComes 9 = .ok (.iload_n 2, 1) := by decide +kernel
theorem dX2_seatComes_10 : decode cX2_seatComes 10 = .ok (.invokevirtual 118, 3) := by decide +kernel
theorem dX2_seatComes_13 : decode cX2_seatComes 13 = .ok (.ifCond .ne 5, 3) := by decide +kernel
theorem dX2_seatComes_16 : decode cX2_seatComes 16 = .ok (.iconst 0, 1) := by decide +kernel
theorem dX2_seatComes_17 : decode cX2_seatComes 17 = .ok (.ireturn, 1) := by decide +kernel
theorem dX2_seatComes_18 : decode cX2_seatComes 18 = .ok (.aload_n 0, 1) := by decide +kernel
theorem dX2_seatComes_19 : decode cX2_seatComes 19 = .ok (.iload_n 1, 1) := by decide +kernel
theorem dX2_seatComes_20 : decode cX2_seatComes 20 = .ok (.iload_n 2, 1) := by decide +kernel
theorem dX2_seatComes_21 : decode cX2_seatComes 21 = .ok (.invokevirtual 121, 3) := by decide +kernel
theorem dX2_seatComes_24 : decode cX2_seatComes 24 = .ok (.iconst 1, 1) := by decide +kernel
theorem dX2_seatComes_25 : decode cX2_seatComes 25 = .ok (.ireturn, 1) := by decide +kernel
theorem dX2_leaveComes_0 : decode cX2_leaveComes 0 = .ok (.aload_n 0, 1) := by decide +kernel
theorem dX2_leaveComes_1 : decode cX2_leaveComes 1 = .ok (.iload_n 1, 1) := by decide +kernel
theorem dX2_leaveComes_2 : decode cX2_leaveComes 2 = .ok (.invokevirtual 114, 3) := by decide +kernel
theorem dX2_leaveComes_5 : decode cX2_leaveComes 5 = .ok (.ifCond .ne 5, 3) := by decide +kernel
theorem dX2_leaveComes_8 : decode cX2_leaveComes 8 = .ok (.iconst 0, 1) := by decide +kernel
theorem dX2_leaveComes_9 : decode cX2_leaveComes 9 = .ok (.ireturn, 1) := by decide +kernel
theorem dX2_leaveComes_10 : decode cX2_leaveComes 10 = .ok (.aload_n 0, 1) := by decide +kernel
theorem dX2_leaveComes_11 : decode cX2_leaveComes 11 = .ok (.getfield 124, 3) := by decide +kernel
theorem dX2_leaveComes_14 : decode cX2_leaveComes 14 = .ok (.iload_n 1, 1) := by decide +kernel
theorem dX2_leaveComes_15 : decode cX2_leaveComes 15 = .ok (.bipush (-9), 2) := by decide +kernel
theorem dX2_leaveComes_17 : decode cX2_leaveComes 17 = .ok (.iastore, 1) := by decide +kernel
theorem dX2_leaveComes_18 : decode cX2_leaveComes 18 = .ok (.iconst 1, 1) := by decide +kernel
theorem dX2_leaveComes_19 : decode cX2_leaveComes 19 = .ok (.ireturn, 1) := by decide +kernel
theorem dX2_heartComes_0 : decode cX2_heartComes 0 = .ok (.aload_n 0, 1) := by decide +kernel
theorem dX2_heartComes_1 : decode cX2_heartComes 1 = .ok (.iload_n 1, 1) := by decide +kernel
theorem dX2_heartComes_2 : decode cX2_heartComes 2 = .ok (.invokevirtual 118, 3) := by decide +kernel
theorem dX2_heartComes_5 : decode cX2_heartComes 5 = .ok (.ifCond .eq 16, 3) := by decide +kernel
theorem dX2_heartComes_8 : decode cX2_heartComes 8 = .ok (.iload_n 2, 1) := by decide +kernel
theorem dX2_heartComes_9 : decode cX2_heartComes 9 = .ok (.invokestatic 127, 3) := by decide +kernel
theorem dX2_heartComes_12 : decode cX2_heartComes 12 = .ok (.ifCond .eq 9, 3) := by decide +kernel
theorem dX2_heartComes_15 : decode cX2_heartComes 15 = .ok (.iload_n 3, 1) := by decide +kernel
theorem dX2_heartComes_16 : decode cX2_heartComes 16 = .ok (.bipush 30, 2) := by decide +kernel
theorem dX2_heartComes_18 : decode cX2_heartComes 18 = .ok (.if_icmp .le 5, 3) := by decide +kernel
theorem dX2_heartComes_21 : decode cX2_heartComes 21 = .ok (.iconst 0, 1) := by decide +kernel
theorem dX2_heartComes_22 : decode cX2_heartComes 22 = .ok (.ireturn, 1) := by decide +kernel
theorem dX2_heartComes_23 : decode cX2_heartComes 23 = .ok (.aload_n 0, 1) := by decide +kernel
theorem dX2_heartComes_24 : decode cX2_heartComes 24 = .ok (.iload_n 1, 1) := by decide +kernel
theorem dX2_heartComes_25 : decode cX2_heartComes 25 = .ok (.iload_n 2, 1) := by decide +kernel
theorem dX2_heartComes_26 : decode cX2_heartComes 26 = .ok (.iload_n 3, 1) := by decide +kernel
theorem dX2_heartComes_27 : decode cX2_heartComes 27 = .ok (.invokevirtual 130, 3) := by decide +kernel
theorem dX2_heartComes_30 : decode cX2_heartComes 30 = .ok (.iconst 1, 1) := by decide +kernel
theorem dX2_heartComes_31 : decode cX2_heartComes 31 = .ok (.ireturn, 1) := by decide +kernel
theorem dX2_stepComes_0 : decode cX2_stepComes 0 = .ok (.iload_n 1, 1) := by decide +kernel
theorem dX2_stepComes_1 : decode cX2_stepComes 1 = .ok (.iconst 5, 1) := by decide +kernel
theorem dX2_stepComes_2 : decode cX2_stepComes 2 = .ok (.if_icmp .le 5, 3) := by decide +kernel
theorem dX2_stepComes_5 : decode cX2_stepComes 5 = .ok (.iconst 0, 1) := by decide +kernel
theorem dX2_stepComes_6 : decode cX2_stepComes 6 = .ok (.ireturn, 1) := by decide +kernel
theorem dX2_stepComes_7 : decode cX2_stepComes 7 = .ok (.aload_n 0, 1) := by decide +kernel
theorem dX2_stepComes_8 : decode cX2_stepComes 8 = .ok (.iload_n 1, 1) := by decide +kernel
theorem dX2_stepComes_9 : decode cX2_stepComes 9 = .ok (.putfield 133, 3) := by decide +kernel
theorem dX2_stepComes_12 : decode cX2_stepComes 12 = .ok (.iconst 1, 1) := by decide +kernel
theorem dX2_stepComes_13 : decode cX2_stepComes 13 = .ok (.ireturn, 1) := by decide +kernel
theorem dX2_yearsCome_0 : decode cX2_yearsCome 0 = .ok (.iload_n 1, 1) := by decide +kernel
theorem dX2_yearsCome_1 : decode cX2_yearsCome 1 = .ok (.iconst 1, 1) := by decide +kernel
theorem dX2_yearsCome_2 : decode cX2_yearsCome 2 = .ok (.if_icmp .lt 17, 3) := by decide +kernel
theorem dX2_yearsCome_5 : decode cX2_yearsCome 5 = .ok (.iload_n 1, 1) := by decide +kernel
theorem dX2_yearsCome_6 : decode cX2_yearsCome 6 = .ok (.bipush 60, 2) := by decide +kernel
theorem dX2_yearsCome_8 : decode cX2_yearsCome 8 = .ok (.if_icmp .gt 11, 3) := by decide +kernel
theorem dX2_yearsCome_11 : decode cX2_yearsCome 11 = .ok (.aload_n 0, 1) := by decide +kernel
theorem dX2_yearsCome_12 : decode cX2_yearsCome 12 = .ok (.iload_n 1, 1) := by decide +kernel
theorem dX2_yearsCome_13 : decode cX2_yearsCome 13 = .ok (.invokevirtual 136, 3) := by decide +kernel
theorem dX2_yearsCome_16 : decode cX2_yearsCome 16 = .ok (.ifCond .ne 5, 3) := by decide +kernel
theorem dX2_yearsCome_19 : decode cX2_yearsCome 19 = .ok (.iconst 0, 1) := by decide +kernel
theorem dX2_yearsCome_20 : decode cX2_yearsCome 20 = .ok (.ireturn, 1) := by decide +kernel
theorem dX2_yearsCome_21 : decode cX2_yearsCome 21 = .ok (.iconst 0, 1) := by decide +kernel
theorem dX2_yearsCome_22 : decode cX2_yearsCome 22 = .ok (.istore_n 2, 1) := by decide +kernel
theorem dX2_yearsCome_23 : decode cX2_yearsCome 23 = .ok (.iload_n 2, 1) := by decide +kernel
theorem dX2_yearsCome_24 : decode cX2_yearsCome 24 = .ok (.iload_n 1, 1) := by decide +kernel
theorem dX2_yearsCome_25 : decode cX2_yearsCome 25 = .ok (.if_icmp .ge 13, 3) := by decide +kernel
theorem dX2_yearsCome_28 : decode cX2_yearsCome 28 = .ok (.aload_n 0, 1) := by decide +kernel
theorem dX2_yearsCome_29 : decode cX2_yearsCome 29 = .ok (.invokevirtual 139, 3) := by decide +kernel
theorem dX2_yearsCome_32 : decode cX2_yearsCome 32 = .ok (.iinc 2 1, 3) := by decide +kernel
theorem dX2_yearsCome_35 : decode cX2_yearsCome 35 = .ok (.goto (-12), 3) := by decide +kernel
theorem dX2_yearsCome_38 : decode cX2_yearsCome 38 = .ok (.iconst 1, 1) := by decide +kernel
theorem dX2_yearsCome_39 : decode cX2_yearsCome 39 = .ok (.ireturn, 1) := by decide +kernel
theorem dX2_toldAt_0 : decode cX2_toldAt 0 = .ok (.iload_n 1, 1) := by decide +kernel
theorem dX2_toldAt_1 : decode cX2_toldAt 1 = .ok (.ifCond .lt 20, 3) := by decide +kernel
theorem dX2_toldAt_4 : decode cX2_toldAt 4 = .ok (.iload_n 1, 1) := by decide +kernel
theorem dX2_toldAt_5 : decode cX2_toldAt 5 = .ok (.aload_n 0, 1) := by decide +kernel
theorem dX2_toldAt_6 : decode cX2_toldAt 6 = .ok (.getfield 15, 3) := by decide +kernel
theorem dX2_toldAt_9 : decode cX2_toldAt 9 = .ok (.if_icmp .ge 12, 3) := by decide +kernel
theorem dX2_toldAt_12 : decode cX2_toldAt 12 = .ok (.aload_n 0, 1) := by decide +kernel
theorem dX2_toldAt_13 : decode cX2_toldAt 13 = .ok (.getfield 9, 3) := by decide +kernel
theorem dX2_toldAt_16 : decode cX2_toldAt 16 = .ok (.iload_n 1, 1) := by decide +kernel
theorem dX2_toldAt_17 : decode cX2_toldAt 17 = .ok (.iaload, 1) := by decide +kernel
theorem dX2_toldAt_18 : decode cX2_toldAt 18 = .ok (.goto 4, 3) := by decide +kernel
theorem dX2_toldAt_21 : decode cX2_toldAt 21 = .ok (.iconst 0, 1) := by decide +kernel
theorem dX2_toldAt_22 : decode cX2_toldAt 22 = .ok (.ireturn, 1) := by decide +kernel
theorem dX2_digit_0 : decode cX2_digit 0 = .ok (.aload_n 0, 1) := by decide +kernel
theorem dX2_digit_1 : decode cX2_digit 1 = .ok (.iload_n 1, 1) := by decide +kernel
theorem dX2_digit_2 : decode cX2_digit 2 = .ok (.invokevirtual 107, 3) := by decide +kernel
theorem dX2_digit_5 : decode cX2_digit 5 = .ok (.bipush 48, 2) := by decide +kernel
theorem dX2_digit_7 : decode cX2_digit 7 = .ok (.isub, 1) := by decide +kernel
theorem dX2_digit_8 : decode cX2_digit 8 = .ok (.ireturn, 1) := by decide +kernel
theorem dX2_number_0 : decode cX2_number 0 = .ok (.bipush 10, 2) := by decide +kernel
theorem dX2_number_2 : decode cX2_number 2 = .ok (.aload_n 0, 1) := by decide +kernel
theorem dX2_number_3 : decode cX2_number 3 = .ok (.iload_n 1, 1) := by decide +kernel
theorem dX2_number_4 : decode cX2_number 4 = .ok (.invokevirtual 72, 3) := by decide +kernel
theorem dX2_number_7 : decode cX2_number 7 = .ok (.imul, 1) := by decide +kernel
theorem dX2_number_8 : decode cX2_number 8 = .ok (.aload_n 0, 1) := by decide +kernel
theorem dX2_number_9 : decode cX2_number 9 = .ok (.iload_n 1, 1) := by decide +kernel
theorem dX2_number_10 : decode cX2_number 10 = .ok (.iconst 1, 1) := by decide +kernel
theorem dX2_number_11 : decode cX2_number 11 = .ok (.iadd, 1) := by decide +kernel
theorem dX2_number_12 : decode cX2_number 12 = .ok (.invokevirtual 72, 3) := by decide +kernel
theorem dX2_number_15 : decode cX2_number 15 = .ok (.iadd, 1) := by decide +kernel
theorem dX2_number_16 : decode cX2_number 16 = .ok (.ireturn, 1) := by decide +kernel
theorem dX3_init_0 : decode cX3_init 0 = .ok (.aload_n 0, 1) := by decide +kernel
theorem dX3_init_1 : decode cX3_init 1 = .ok (.invokespecial 3, 3) := by decide +kernel
theorem dX3_init_4 : decode cX3_init 4 = .ok (.aload_n 0, 1) := by decide +kernel
theorem dX3_init_5 : decode cX3_init 5 = .ok (.new 9, 3) := by decide +kernel
theorem dX3_init_8 : decode cX3_init 8 = .ok (.dup, 1) := by decide +kernel
theorem dX3_init_9 : decode cX3_init 9 = .ok (.invokespecial 11, 3) := by decide +kernel
theorem dX3_init_12 : decode cX3_init 12 = .ok (.putfield 12, 3) := by decide +kernel
theorem dX3_init_15 : decode cX3_init 15 = .ok (.aload_n 0, 1) := by decide +kernel
theorem dX3_init_16 : decode cX3_init 16 = .ok (.new 9, 3) := by decide +kernel
theorem dX3_init_19 : decode cX3_init 19 = .ok (.dup, 1) := by decide +kernel
theorem dX3_init_20 : decode cX3_init 20 = .ok (.invokespecial 11, 3) := by decide +kernel
theorem dX3_init_23 : decode cX3_init 23 = .ok (.putfield 18, 3) := by decide +kernel
theorem dX3_init_26 : decode cX3_init 26 = .ok (.aload_n 0, 1) := by decide +kernel
theorem dX3_init_27 : decode cX3_init 27 = .ok (.new 21, 3) := by decide +kernel
theorem dX3_init_30 : decode cX3_init 30 = .ok (.dup, 1) := by decide +kernel
theorem dX3_init_31 : decode cX3_init 31 = .ok (.invokespecial 23, 3) := by decide +kernel
theorem dX3_init_34 : decode cX3_init 34 = .ok (.putfield 24, 3) := by decide +kernel
theorem dX3_init_37 : decode cX3_init 37 = .ok (.aload_n 0, 1) := by decide +kernel
theorem dX3_init_38 : decode cX3_init 38 = .ok (.bipush 7, 2) := by decide +kernel
theorem dX3_init_40 : decode cX3_init 40 = .ok (.newarray .int, 2) := by decide +kernel
theorem dX3_init_42 : decode cX3_init 42 = .ok (.putfield 28, 3) := by decide +kernel
theorem dX3_init_45 : decode cX3_init 45 = .ok (.aload_n 0, 1) := by decide +kernel
theorem dX3_init_46 : decode cX3_init 46 = .ok (.bipush 8, 2) := by decide +kernel
theorem dX3_init_48 : decode cX3_init 48 = .ok (.newarray .int, 2) := by decide +kernel
theorem dX3_init_50 : decode cX3_init 50 = .ok (.putfield 32, 3) := by decide +kernel
theorem dX3_init_53 : decode cX3_init 53 = .ok (.return_, 1) := by decide +kernel
theorem dX3_after_0 : decode cX3_after 0 = .ok (.aload_n 0, 1) := by decide +kernel
theorem dX3_after_1 : decode cX3_after 1 = .ok (.getfield 12, 3) := by decide +kernel
theorem dX3_after_4 : decode cX3_after 4 = .ok (.aload_n 1, 1) := by decide +kernel
theorem dX3_after_5 : decode cX3_after 5 = .ok (.invokevirtual 35, 3) := by decide +kernel
theorem dX3_after_8 : decode cX3_after 8 = .ok (.aload_n 0, 1) := by decide +kernel
theorem dX3_after_9 : decode cX3_after 9 = .ok (.getfield 12, 3) := by decide +kernel
theorem dX3_after_12 : decode cX3_after 12 = .ok (.iload_n 2, 1) := by decide +kernel
theorem dX3_after_13 : decode cX3_after 13 = .ok (.invokevirtual 39, 3) := by decide +kernel
theorem dX3_after_16 : decode cX3_after 16 = .ok (.pop, 1) := by decide +kernel
theorem dX3_after_17 : decode cX3_after 17 = .ok (.aload_n 0, 1) := by decide +kernel
theorem dX3_after_18 : decode cX3_after 18 = .ok (.getfield 12, 3) := by decide +kernel
theorem dX3_after_21 : decode cX3_after 21 = .ok (.areturn, 1) := by decide +kernel
theorem dX3_suppose_0 : decode cX3_suppose 0 = .ok (.aload_n 0, 1) := by decide +kernel
theorem dX3_suppose_1 : decode cX3_suppose 1 = .ok (.getfield 12, 3) := by decide +kernel
theorem dX3_suppose_4 : decode cX3_suppose 4 = .ok (.aload_n 1, 1) := by decide +kernel
theorem dX3_suppose_5 : decode cX3_suppose 5 = .ok (.invokevirtual 35, 3) := by decide +kernel
theorem dX3_suppose_8 : decode cX3_suppose 8 = .ok (.aload_n 0, 1) := by decide +kernel
theorem dX3_suppose_9 : decode cX3_suppose 9 = .ok (.getfield 12, 3) := by decide +kernel
theorem dX3_suppose_12 : decode cX3_suppose 12 = .ok (.getfield 43, 3) := by decide +kernel
theorem dX3_suppose_15 : decode cX3_suppose 15 = .ok (.iload_n 2, 1) := by decide +kernel
theorem dX3_suppose_16 : decode cX3_suppose 16 = .ok (.iload_n 3, 1) := by decide +kernel
theorem dX3_suppose_17 : decode cX3_suppose 17 = .ok (.iastore, 1) := by decide +kernel
theorem dX3_suppose_18 : decode cX3_suppose 18 = .ok (.aload_n 0, 1) := by decide +kernel
theorem dX3_suppose_19 : decode cX3_suppose 19 = .ok (.getfield 12, 3) := by decide +kernel
theorem dX3_suppose_22 : decode cX3_suppose 22 = .ok (.getfield 46, 3) := by decide +kernel
theorem dX3_suppose_25 : decode cX3_suppose 25 = .ok (.iload_n 2, 1) := by decide +kernel
theorem dX3_suppose_26 : decode cX3_suppose 26 = .ok (.iload 4, 2) := by decide +kernel
theorem dX3_suppose_28 : decode cX3_suppose 28 = .ok (.iastore, 1) := by decide +kernel
theorem dX3_suppose_29 : decode cX3_suppose 29 = .ok (.return_, 1) := by decide +kernel
theorem dX3_lostYear_0 : decode cX3_lostYear 0 = .ok (.aload_n 0, 1) := by decide +kernel
theorem dX3_lostYear_1 : decode cX3_lostYear 1 = .ok (.getfield 12, 3) := by decide +kernel
theorem dX3_lostYear_4 : decode cX3_lostYear 4 = .ok (.aload_n 1, 1) := by decide +kernel
theorem dX3_lostYear_5 : decode cX3_lostYear 5 = .ok (.invokevirtual 35, 3) := by decide +kernel
theorem dX3_lostYear_8 : decode cX3_lostYear 8 = .ok (.iconst 0, 1) := by decide +kernel
theorem dX3_lostYear_9 : decode cX3_lostYear 9 = .ok (.istore_n 2, 1) := by decide +kernel
theorem dX3_lostYear_10 : decode cX3_lostYear 10 = .ok (.iload_n 2, 1) := by decide +kernel
theorem dX3_lostYear_11 : decode cX3_lostYear 11 = .ok (.bipush 60, 2) := by decide +kernel
theorem dX3_lostYear_13 : decode cX3_lostYear 13 = .ok (.if_icmp .gt 34, 3) := by decide +kernel
theorem dX3_lostYear_16 : decode cX3_lostYear 16 = .ok (.iload_n 2, 1) := by decide +kernel
theorem dX3_lostYear_17 : decode cX3_lostYear 17 = .ok (.ifCond .le 10, 3) := by decide +kernel
theorem dX3_lostYear_20 : decode cX3_lostYear 20 = .ok (.aload_n 0, 1) := by decide +kernel
theorem dX3_lostYear_21 : decode cX3_lostYear 21 = .ok (.getfield 12, 3) := by decide +kernel
theorem dX3_lostYear_24 : decode cX3_lostYear 24 = .ok (.invokevirtual 49, 3) := by decide +kernel
theorem dX3_lostYear_27 : decode cX3_lostYear 27 = .ok (.aload_n 0, 1) := by decide +kernel
theorem dX3_lostYear_28 : decode cX3_lostYear 28 = .ok (.getfield 12, 3) := by decide +kernel
theorem dX3_lostYear_31 : decode cX3_lostYear 31 = .ok (.invokevirtual 52, 3) := by decide +kernel
theorem dX3_lostYear_34 : decode cX3_lostYear 34 = .ok (.bipush (-9), 2) := by decide +kernel
theorem dX3_lostYear_36 : decode cX3_lostYear 36 = .ok (.if_icmp .eq 5, 3) := by decide +kernel
theorem dX3_lostYear_39 : decode cX3_lostYear 39 = .ok (.iload_n 2, 1) := by decide +kernel
theorem dX3_lostYear_40 : decode cX3_lostYear 40 = .ok (.ireturn, 1) := by decide +kernel
theorem dX3_lostYear_41 : decode cX3_lostYear 41 = .ok (.iinc 2 1, 3) := by decide +kernel
theorem dX3_lostYear_44 : decode cX3_lostYear 44 = .ok (.goto (-34), 3) := by decide +kernel
theorem dX3_lostYear_47 : decode cX3_lostYear 47 = .ok (.bipush (-9), 2) := by decide +kernel
theorem dX3_lostYear_49 : decode cX3_lostYear 49 = .ok (.ireturn, 1) := by decide +kernel
theorem dX3_lostFarm_0 : decode cX3_lostFarm 0 = .ok (.aload_n 0, 1) := by decide +kernel
theorem dX3_lostFarm_1 : decode cX3_lostFarm 1 = .ok (.aload_n 1, 1) := by decide +kernel
theorem dX3_lostFarm_2 : decode cX3_lostFarm 2 = .ok (.invokevirtual 56, 3) := by decide +kernel
theorem dX3_lostFarm_5 : decode cX3_lostFarm 5 = .ok (.bipush (-9), 2) := by decide +kernel
theorem dX3_lostFarm_7 : decode cX3_lostFarm 7 = .ok (.if_icmp .ne 8, 3) := by decide +kernel
theorem dX3_lostFarm_10 : decode cX3_lostFarm 10 = .ok (.bipush (-9), 2) := by decide +kernel
theorem dX3_lostFarm_12 : decode cX3_lostFarm 12 = .ok (.goto 10, 3) := by decide +kernel
theorem dX3_lostFarm_15 : decode cX3_lostFarm 15 = .ok (.aload_n 0, 1) := by decide +kernel
theorem dX3_lostFarm_16 : decode cX3_lostFarm 16 = .ok (.getfield 12, 3) := by decide +kernel
theorem dX3_lostFarm_19 : decode cX3_lostFarm 19 = .ok (.invokevirtual 52, 3) := by decide +kernel
theorem dX3_lostFarm_22 : decode cX3_lostFarm 22 = .ok (.ireturn, 1) := by decide +kernel
theorem dX3_grownOfAll_0 : decode cX3_grownOfAll 0 = .ok (.aload_n 0, 1) := by decide +kernel
theorem dX3_grownOfAll_1 : decode cX3_grownOfAll 1 = .ok (.getfield 12, 3) := by decide +kernel
theorem dX3_grownOfAll_4 : decode cX3_grownOfAll 4 = .ok (.aload_n 1, 1) := by decide +kernel
theorem dX3_grownOfAll_5 : decode cX3_grownOfAll 5 = .ok (.invokevirtual 35, 3) := by decide +kernel
theorem dX3_grownOfAll_8 : decode cX3_grownOfAll 8 = .ok (.aload_n 0, 1) := by decide +kernel
theorem dX3_grownOfAll_9 : decode cX3_grownOfAll 9 = .ok (.getfield 12, 3) := by decide +kernel
theorem dX3_grownOfAll_12 : decode cX3_grownOfAll 12 = .ok (.iload_n 2, 1) := by decide +kernel
theorem dX3_grownOfAll_13 : decode cX3_grownOfAll 13 = .ok (.invokevirtual 39, 3) := by decide +kernel
theorem dX3_grownOfAll_16 : decode cX3_grownOfAll 16 = .ok (.ireturn, 1) := by decide +kernel
theorem dX3_grownOn_0 : decode cX3_grownOn 0 = .ok (.aload_n 0, 1) := by decide +kernel
theorem dX3_grownOn_1 : decode cX3_grownOn 1 = .ok (.getfield 12, 3) := by decide +kernel
theorem dX3_grownOn_4 : decode cX3_grownOn 4 = .ok (.aload_n 1, 1) := by decide +kernel
theorem dX3_grownOn_5 : decode cX3_grownOn 5 = .ok (.invokevirtual 35, 3) := by decide +kernel
theorem dX3_grownOn_8 : decode cX3_grownOn 8 = .ok (.iconst 0, 1) := by decide +kernel
theorem dX3_grownOn_9 : decode cX3_grownOn 9 = .ok (.istore 4, 2) := by decide +kernel
theorem dX3_grownOn_11 : decode cX3_grownOn 11 = .ok (.iconst 0, 1) := by decide +kernel
theorem dX3_grownOn_12 : decode cX3_grownOn 12 = .ok (.istore 5, 2) := by decide +kernel
theorem dX3_grownOn_14 : decode cX3_grownOn 14 = .ok (.iload 5, 2) := by decide +kernel
theorem dX3_grownOn_16 : decode cX3_grownOn 16 = .ok (.iload_n 3, 1) := by decide +kernel
theorem dX3_grownOn_17 : decode cX3_grownOn 17 = .ok (.if_icmp .ge 30, 3) := by decide +kernel
theorem dX3_grownOn_20 : decode cX3_grownOn 20 = .ok (.aload_n 0, 1) := by decide +kernel
theorem dX3_grownOn_21 : decode cX3_grownOn 21 = .ok (.getfield 12, 3) := by decide +kernel
theorem dX3_grownOn_24 : decode cX3_grownOn 24 = .ok (.invokevirtual 49, 3) := by decide +kernel
theorem dX3_grownOn_27 : decode cX3_grownOn 27 = .ok (.iload 4, 2) := by decide +kernel
theorem dX3_grownOn_29 : decode cX3_grownOn 29 = .ok (.aload_n 0, 1) := by decide +kernel
theorem dX3_grownOn_30 : decode cX3_grownOn 30 = .ok (.getfield 12, 3) := by decide +kernel
theorem dX3_grownOn_33 : decode cX3_grownOn 33 = .ok (.getfield 60, 3) := by decide +kernel
theorem dX3_grownOn_36 : decode cX3_grownOn 36 = .ok (.iload_n 2, 1) := by decide +kernel
theorem dX3_grownOn_37 : decode cX3_grownOn 37 = .ok (.iaload, 1) := by decide +kernel
theorem dX3_grownOn_38 : decode cX3_grownOn 38 = .ok (.iadd, 1) := by decide +kernel
theorem dX3_grownOn_39 : decode cX3_grownOn 39 = .ok (.istore 4, 2) := by decide +kernel
theorem dX3_grownOn_41 : decode cX3_grownOn 41 = .ok (.iinc 5 1, 3) := by decide +kernel
theorem dX3_grownOn_44 : decode cX3_grownOn 44 = .ok (.goto (-30), 3) := by decide +kernel
theorem dX3_grownOn_47 : decode cX3_grownOn 47 = .ok (.iload 4, 2) := by decide +kernel
theorem dX3_grownOn_49 : decode cX3_grownOn 49 = .ok (.ireturn, 1) := by decide +kernel
theorem dX3_grownByStep_0 : decode cX3_grownByStep 0 = .ok (.aload_n 0, 1) := by decide +kernel
theorem dX3_grownByStep_1 : decode cX3_grownByStep 1 = .ok (.getfield 12, 3) := by decide +kernel
theorem dX3_grownByStep_4 : decode cX3_grownByStep 4 = .ok (.aload_n 1, 1) := by decide +kernel
theorem dX3_grownByStep_5 : decode cX3_grownByStep 5 = .ok (.invokevirtual 35, 3) := by decide +kernel
theorem dX3_grownByStep_8 : decode cX3_grownByStep 8 = .ok (.aload_n 0, 1) := by decide +kernel
theorem dX3_grownByStep_9 : decode cX3_grownByStep 9 = .ok (.getfield 12, 3) := by decide +kernel
theorem dX3_grownByStep_12 : decode cX3_grownByStep 12 = .ok (.iload_n 2, 1) := by decide +kernel
theorem dX3_grownByStep_13 : decode cX3_grownByStep 13 = .ok (.putfield 63, 3) := by decide +kernel
theorem dX3_grownByStep_16 : decode cX3_grownByStep 16 = .ok (.aload_n 0, 1) := by decide +kernel
theorem dX3_grownByStep_17 : decode cX3_grownByStep 17 = .ok (.getfield 12, 3) := by decide +kernel
theorem dX3_grownByStep_20 : decode cX3_grownByStep 20 = .ok (.iload_n 3, 1) := by decide +kernel
theorem dX3_grownByStep_21 : decode cX3_grownByStep 21 = .ok (.invokevirtual 39, 3) := by decide +kernel
theorem dX3_grownByStep_24 : decode cX3_grownByStep 24 = .ok (.ireturn, 1) := by decide +kernel
theorem dX3_stepOfMost_0 : decode cX3_stepOfMost 0 = .ok (.iconst 0, 1) := by decide +kernel
theorem dX3_stepOfMost_1 : decode cX3_stepOfMost 1 = .ok (.istore_n 3, 1) := by decide +kernel
theorem dX3_stepOfMost_2 : decode cX3_stepOfMost 2 = .ok (.iconst (-1), 1) := by decide +kernel
theorem dX3_stepOfMost_3 : decode cX3_stepOfMost 3 = .ok (.istore 4, 2) := by decide +kernel
theorem dX3_stepOfMost_5 : decode cX3_stepOfMost 5 = .ok (.iconst 0, 1) := by decide +kernel
theorem dX3_stepOfMost_6 : decode cX3_stepOfMost 6 = .ok (.istore 5, 2) := by decide +kernel
theorem dX3_stepOfMost_8 : decode cX3_stepOfMost 8 = .ok (.iload 5, 2) := by decide +kernel
theorem dX3_stepOfMost_10 : decode cX3_stepOfMost 10 = .ok (.iconst 5, 1) := by decide +kernel
theorem dX3_stepOfMost_11 : decode cX3_stepOfMost 11 = .ok (.if_icmp .gt 33, 3) := by decide +kernel
theorem dX3_stepOfMost_14 : decode cX3_stepOfMost 14 = .ok (.aload_n 0, 1) := by decide +kernel
theorem dX3_stepOfMost_15 : decode cX3_stepOfMost 15 = .ok (.aload_n 1, 1) := by decide +kernel
theorem dX3_stepOfMost_16 : decode cX3_stepOfMost 16 = .ok (.iload 5, 2) := by decide +kernel
theorem dX3_stepOfMost_18 : decode cX3_stepOfMost 18 = .ok (.iload_n 2, 1) := by decide +kernel
theorem dX3_stepOfMost_19 : decode cX3_stepOfMost 19 = .ok (.invokevirtual 67, 3) := by decide +kernel
theorem dX3_stepOfMost_22 : decode cX3_stepOfMost 22 = .ok (.istore 6, 2) := by decide +kernel
theorem dX3_stepOfMost_24 : decode cX3_stepOfMost 24 = .ok (.iload 6, 2) := by decide +kernel
theorem dX3_stepOfMost_26 : decode cX3_stepOfMost 26 = .ok (.iload 4, 2) := by decide +kernel
theorem dX3_stepOfMost_28 : decode cX3_stepOfMost 28 = .ok (.if_icmp .le 10, 3) := by decide +kernel
theorem dX3_stepOfMost_31 : decode cX3_stepOfMost 31 = .ok (.iload 6, 2) := by decide +kernel
theorem dX3_stepOfMost_33 : decode cX3_stepOfMost 33 = .ok (.istore 4, 2) := by decide +kernel
theorem dX3_stepOfMost_35 : decode cX3_stepOfMost 35 = .ok (.iload 5, 2) := by decide +kernel
theorem dX3_stepOfMost_37 : decode cX3_stepOfMost 37 = .ok (.istore_n 3, 1) := by decide +kernel
theorem dX3_stepOfMost_38 : decode cX3_stepOfMost 38 = .ok (.iinc 5 1, 3) := by decide +kernel
theorem dX3_stepOfMost_41 : decode cX3_stepOfMost 41 = .ok (.goto (-33), 3) := by decide +kernel
theorem dX3_stepOfMost_44 : decode cX3_stepOfMost 44 = .ok (.iload_n 3, 1) := by decide +kernel
theorem dX3_stepOfMost_45 : decode cX3_stepOfMost 45 = .ok (.ireturn, 1) := by decide +kernel
theorem dX3_farmerToSend_0 : decode cX3_farmerToSend 0 = .ok (.aload_n 0, 1) := by decide +kernel
theorem dX3_farmerToSend_1 : decode cX3_farmerToSend 1 = .ok (.aload_n 1, 1) := by decide +kernel
theorem dX3_farmerToSend_2 : decode cX3_farmerToSend 2 = .ok (.iload_n 2, 1) := by decide +kernel
theorem dX3_farmerToSend_3 : decode cX3_farmerToSend 3 = .ok (.invokevirtual 71, 3) := by decide +kernel
theorem dX3_farmerToSend_6 : decode cX3_farmerToSend 6 = .ok (.istore_n 3, 1) := by decide +kernel
theorem dX3_farmerToSend_7 : decode cX3_farmerToSend 7 = .ok (.bipush (-9), 2) := by decide +kernel
theorem dX3_farmerToSend_9 : decode cX3_farmerToSend 9 = .ok (.istore 4, 2) := by decide +kernel
theorem dX3_farmerToSend_11 : decode cX3_farmerToSend 11 = .ok (.iconst 0, 1) := by decide +kernel
theorem dX3_farmerToSend_12 : decode cX3_farmerToSend 12 = .ok (.istore 5, 2) := by decide +kernel
theorem dX3_farmerToSend_14 : decode cX3_farmerToSend 14 = .ok (.iload 5, 2) := by decide +kernel
theorem dX3_farmerToSend_16 : decode cX3_farmerToSend 16 = .ok (.aload_n 1, 1) := by decide +kernel
theorem dX3_farmerToSend_17 : decode cX3_farmerToSend 17 = .ok (.getfield 75, 3) := by decide +kernel
theorem dX3_farmerToSend_20 : decode cX3_farmerToSend 20 = .ok (.if_icmp .ge 52, 3) := by decide +kernel
theorem dX3_farmerToSend_23 : decode cX3_farmerToSend 23 = .ok (.aload_n 0, 1) := by decide +kernel
theorem dX3_farmerToSend_24 : decode cX3_farmerToSend 24 = .ok (.getfield 12, 3) := by decide +kernel
theorem dX3_farmerToSend_27 : decode cX3_farmerToSend 27 = .ok (.aload_n 1, 1) := by decide +kernel
theorem dX3_farmerToSend_28 : decode cX3_farmerToSend 28 = .ok (.invokevirtual 35, 3) := by decide +kernel
theorem dX3_farmerToSend_31 : decode cX3_farmerToSend 31 = .ok (.aload_n 0, 1) := by decide +kernel
theorem dX3_farmerToSend_32 : decode cX3_farmerToSend 32 = .ok (.getfield 12, 3) := by decide +kernel
theorem dX3_farmerToSend_35 : decode cX3_farmerToSend 35 = .ok (.getfield 78, 3) := by decide +kernel
theorem dX3_farmerToSend_38 : decode cX3_farmerToSend 38 = .ok (.iload 5, 2) := by decide +kernel
theorem dX3_farmerToSend_40 : decode cX3_farmerToSend 40 = .ok (.bipush (-9), 2) := by decide +kernel
theorem dX3_farmerToSend_42 : decode cX3_farmerToSend 42 = .ok (.iastore, 1) := by decide +kernel
theorem dX3_farmerToSend_43 : decode cX3_farmerToSend 43 = .ok (.aload_n 0, 1) := by decide +kernel
theorem dX3_farmerToSend_44 : decode cX3_farmerToSend 44 = .ok (.getfield 12, 3) := by decide +kernel
theorem dX3_farmerToSend_47 : decode cX3_farmerToSend 47 = .ok (.iload_n 2, 1) := by decide +kernel
theorem dX3_farmerToSend_48 : decode cX3_farmerToSend 48 = .ok (.invokevirtual 39, 3) := by decide +kernel
theorem dX3_farmerToSend_51 : decode cX3_farmerToSend 51 = .ok (.istore 6, 2) := by decide +kernel
theorem dX3_farmerToSend_53 : decode cX3_farmerToSend 53 = .ok (.iload 6, 2) := by decide +kernel
theorem dX3_farmerToSend_55 : decode cX3_farmerToSend 55 = .ok (.iload_n 3, 1) := by decide +kernel
theorem dX3_farmerToSend_56 : decode cX3_farmerToSend 56 = .ok (.if_icmp .le 10, 3) := by decide +kernel
theorem dX3_farmerToSend_59 : decode cX3_farmerToSend 59 = .ok (.iload 6, 2) := by decide +kernel
theorem dX3_farmerToSend_61 : decode cX3_farmerToSend 61 = .ok (.istore_n 3, 1) := by decide +kernel
theorem dX3_farmerToSend_62 : decode cX3_farmerToSend 62 = .ok (.iload 5, 2) := by decide +kernel
theorem dX3_farmerToSend_64 : decode cX3_farmerToSend 64 = .ok (.istore 4, 2) := by decide +kernel
theorem dX3_farmerToSend_66 : decode cX3_farmerToSend 66 = .ok (.iinc 5 1, 3) := by decide +kernel
theorem dX3_farmerToSend_69 : decode cX3_farmerToSend 69 = .ok (.goto (-55), 3) := by decide +kernel
theorem dX3_farmerToSend_72 : decode cX3_farmerToSend 72 = .ok (.iload 4, 2) := by decide +kernel
theorem dX3_farmerToSend_74 : decode cX3_farmerToSend 74 = .ok (.ireturn, 1) := by decide +kernel
theorem dX3_pairToChange_0 : decode cX3_pairToChange 0 = .ok (.aload_n 0, 1) := by decide +kernel
theorem dX3_pairToChange_1 : decode cX3_pairToChange 1 = .ok (.aload_n 1, 1) := by decide +kernel
theorem dX3_pairToChange_2 : decode cX3_pairToChange 2 = .ok (.iload_n 2, 1) := by decide +kernel
theorem dX3_pairToChange_3 : decode cX3_pairToChange 3 = .ok (.invokevirtual 71, 3) := by decide +kernel
theorem dX3_pairToChange_6 : decode cX3_pairToChange 6 = .ok (.istore_n 3, 1) := by decide +kernel
theorem dX3_pairToChange_7 : decode cX3_pairToChange 7 = .ok (.bipush (-9), 2) := by decide +kernel
theorem dX3_pairToChange_9 : decode cX3_pairToChange 9 = .ok (.istore 4, 2) := by decide +kernel
theorem dX3_pairToChange_11 : decode cX3_pairToChange 11 = .ok (.iconst 0, 1) := by decide +kernel
theorem dX3_pairToChange_12 : decode cX3_pairToChange 12 = .ok (.istore 5, 2) := by decide +kernel
theorem dX3_pairToChange_14 : decode cX3_pairToChange 14 = .ok (.iload 5, 2) := by decide +kernel
theorem dX3_pairToChange_16 : decode cX3_pairToChange 16 = .ok (.aload_n 1, 1) := by decide +kernel
theorem dX3_pairToChange_17 : decode cX3_pairToChange 17 = .ok (.getfield 75, 3) := by decide +kernel
theorem dX3_pairToChange_20 : decode cX3_pairToChange 20 = .ok (.if_icmp .ge 78, 3) := by decide +kernel
theorem dX3_pairToChange_23 : decode cX3_pairToChange 23 = .ok (.iload 5, 2) := by decide +kernel
theorem dX3_pairToChange_25 : decode cX3_pairToChange 25 = .ok (.iconst 1, 1) := by decide +kernel
theorem dX3_pairToChange_26 : decode cX3_pairToChange 26 = .ok (.iadd, 1) := by decide +kernel
theorem dX3_pairToChange_27 : decode cX3_pairToChange 27 = .ok (.istore 6, 2) := by decide +kernel
theorem dX3_pairToChange_29 : decode cX3_pairToChange 29 = .ok (.iload 6, 2) := by decide +kernel
theorem dX3_pairToChange_31 : decode cX3_pairToChange 31 = .ok (.aload_n 1, 1) := by decide +kernel
theorem dX3_pairToChange_32 : decode cX3_pairToChange 32 = .ok (.getfield 75, 3) := by decide +kernel
theorem dX3_pairToChange_35 : decode cX3_pairToChange 35 = .ok (.if_icmp .ge 57, 3) := by decide +kernel
theorem dX3_pairToChange_38 : decode cX3_pairToChange 38 = .ok (.aload_n 0, 1) := by decide +kernel
theorem dX3_pairToChange_39 : decode cX3_pairToChange 39 = .ok (.getfield 12, 3) := by decide +kernel
theorem dX3_pairToChange_42 : decode cX3_pairToChange 42 = .ok (.aload_n 1, 1) := by decide +kernel
theorem dX3_pairToChange_43 : decode cX3_pairToChange 43 = .ok (.invokevirtual 35, 3) := by decide +kernel
theorem dX3_pairToChange_46 : decode cX3_pairToChange 46 = .ok (.aload_n 0, 1) := by decide +kernel
theorem dX3_pairToChange_47 : decode cX3_pairToChange 47 = .ok (.getfield 12, 3) := by decide +kernel
theorem dX3_pairToChange_50 : decode cX3_pairToChange 50 = .ok (.iload 5, 2) := by decide +kernel
theorem dX3_pairToChange_52 : decode cX3_pairToChange 52 = .ok (.iload 6, 2) := by decide +kernel
theorem dX3_pairToChange_54 : decode cX3_pairToChange 54 = .ok (.invokevirtual 81, 3) := by decide +kernel
theorem dX3_pairToChange_57 : decode cX3_pairToChange 57 = .ok (.aload_n 0, 1) := by decide +kernel
theorem dX3_pairToChange_58 : decode cX3_pairToChange 58 = .ok (.getfield 12, 3) := by decide +kernel
theorem dX3_pairToChange_61 : decode cX3_pairToChange 61 = .ok (.iload_n 2, 1) := by decide +kernel
theorem dX3_pairToChange_62 : decode cX3_pairToChange 62 = .ok (.invokevirtual 39, 3) := by decide +kernel
theorem dX3_pairToChange_65 : decode cX3_pairToChange 65 = .ok (.istore 7, 2) := by decide +kernel
theorem dX3_pairToChange_67 : decode cX3_pairToChange 67 = .ok (.iload 7, 2) := by decide +kernel
theorem dX3_pairToChange_69 : decode cX3_pairToChange 69 = .ok (.iload_n 3, 1) := by decide +kernel
theorem dX3_pairToChange_70 : decode cX3_pairToChange 70 = .ok (.if_icmp .le 16, 3) := by decide +kernel
theorem dX3_pairToChange_73 : decode cX3_pairToChange 73 = .ok (.iload 7, 2) := by decide +kernel
theorem dX3_pairToChange_75 : decode cX3_pairToChange 75 = .ok (.istore_n 3, 1) := by decide +kernel
theorem dX3_pairToChange_76 : decode cX3_pairToChange 76 = .ok (.bipush 10, 2) := by decide +kernel
theorem dX3_pairToChange_78 : decode cX3_pairToChange 78 = .ok (.iload 5, 2) := by decide +kernel
theorem dX3_pairToChange_80 : decode cX3_pairToChange 80 = .ok (.imul, 1) := by decide +kernel
theorem dX3_pairToChange_81 : decode cX3_pairToChange 81 = .ok (.iload 6, 2) := by decide +kernel
theorem dX3_pairToChange_83 : decode cX3_pairToChange 83 = .ok (.iadd, 1) := by decide +kernel
theorem dX3_pairToChange_84 : decode cX3_pairToChange 84 = .ok (.istore 4, 2) := by decide +kernel
theorem dX3_pairToChange_86 : decode cX3_pairToChange 86 = .ok (.iinc 6 1, 3) := by decide +kernel
theorem dX3_pairToChange_89 : decode cX3_pairToChange 89 = .ok (.goto (-60), 3) := by decide +kernel
theorem dX3_pairToChange_92 : decode cX3_pairToChange 92 = .ok (.iinc 5 1, 3) := by decide +kernel
theorem dX3_pairToChange_95 : decode cX3_pairToChange 95 = .ok (.goto (-81), 3) := by decide +kernel
theorem dX3_pairToChange_98 : decode cX3_pairToChange 98 = .ok (.iload 4, 2) := by decide +kernel
theorem dX3_pairToChange_100 : decode cX3_pairToChange 100 = .ok (.ireturn, 1) := by decide +kernel
theorem dX3_settledYear_0 : decode cX3_settledYear 0 = .ok (.aload_n 0, 1) := by decide +kernel
theorem dX3_settledYear_1 : decode cX3_settledYear 1 = .ok (.getfield 12, 3) := by decide +kernel
theorem dX3_settledYear_4 : decode cX3_settledYear 4 = .ok (.aload_n 1, 1) := by decide +kernel
theorem dX3_settledYear_5 : decode cX3_settledYear 5 = .ok (.invokevirtual 35, 3) := by decide +kernel
theorem dX3_settledYear_8 : decode cX3_settledYear 8 = .ok (.iconst 0, 1) := by decide +kernel
theorem dX3_settledYear_9 : decode cX3_settledYear 9 = .ok (.istore_n 2, 1) := by decide +kernel
theorem dX3_settledYear_10 : decode cX3_settledYear 10 = .ok (.iload_n 2, 1) := by decide +kernel
theorem dX3_settledYear_11 : decode cX3_settledYear 11 = .ok (.bipush 60, 2) := by decide +kernel
theorem dX3_settledYear_13 : decode cX3_settledYear 13 = .ok (.if_icmp .gt 43, 3) := by decide +kernel
theorem dX3_settledYear_16 : decode cX3_settledYear 16 = .ok (.aload_n 0, 1) := by decide +kernel
theorem dX3_settledYear_17 : decode cX3_settledYear 17 = .ok (.getfield 18, 3) := by decide +kernel
theorem dX3_settledYear_20 : decode cX3_settledYear 20 = .ok (.aload_n 0, 1) := by decide +kernel
theorem dX3_settledYear_21 : decode cX3_settledYear 21 = .ok (.getfield 12, 3) := by decide +kernel
theorem dX3_settledYear_24 : decode cX3_settledYear 24 = .ok (.invokevirtual 35, 3) := by decide +kernel
theorem dX3_settledYear_27 : decode cX3_settledYear 27 = .ok (.aload_n 0, 1) := by decide +kernel
theorem dX3_settledYear_28 : decode cX3_settledYear 28 = .ok (.getfield 12, 3) := by decide +kernel
theorem dX3_settledYear_31 : decode cX3_settledYear 31 = .ok (.invokevirtual 49, 3) := by decide +kernel
theorem dX3_settledYear_34 : decode cX3_settledYear 34 = .ok (.aload_n 0, 1) := by decide +kernel
theorem dX3_settledYear_35 : decode cX3_settledYear 35 = .ok (.getfield 12, 3) := by decide +kernel
theorem dX3_settledYear_38 : decode cX3_settledYear 38 = .ok (.aload_n 0, 1) := by decide +kernel
theorem dX3_settledYear_39 : decode cX3_settledYear 39 = .ok (.getfield 18, 3) := by decide +kernel
theorem dX3_settledYear_42 : decode cX3_settledYear 42 = .ok (.invokevirtual 85, 3) := by decide +kernel
theorem dX3_settledYear_45 : decode cX3_settledYear 45 = .ok (.ifCond .eq 5, 3) := by decide +kernel
theorem dX3_settledYear_48 : decode cX3_settledYear 48 = .ok (.iload_n 2, 1) := by decide +kernel
theorem dX3_settledYear_49 : decode cX3_settledYear 49 = .ok (.ireturn, 1) := by decide +kernel
theorem dX3_settledYear_50 : decode cX3_settledYear 50 = .ok (.iinc 2 1, 3) := by decide +kernel
theorem dX3_settledYear_53 : decode cX3_settledYear 53 = .ok (.goto (-43), 3) := by decide +kernel
theorem dX3_settledYear_56 : decode cX3_settledYear 56 = .ok (.bipush (-9), 2) := by decide +kernel
theorem dX3_settledYear_58 : decode cX3_settledYear 58 = .ok (.ireturn, 1) := by decide +kernel
theorem dX3_roundYear_0 : decode cX3_roundYear 0 = .ok (.aload_n 0, 1) := by decide +kernel
theorem dX3_roundYear_1 : decode cX3_roundYear 1 = .ok (.getfield 12, 3) := by decide +kernel
theorem dX3_roundYear_4 : decode cX3_roundYear 4 = .ok (.aload_n 1, 1) := by decide +kernel
theorem dX3_roundYear_5 : decode cX3_roundYear 5 = .ok (.invokevirtual 35, 3) := by decide +kernel
theorem dX3_roundYear_8 : decode cX3_roundYear 8 = .ok (.iconst 1, 1) := by decide +kernel
theorem dX3_roundYear_9 : decode cX3_roundYear 9 = .ok (.istore_n 2, 1) := by decide +kernel
theorem dX3_roundYear_10 : decode cX3_roundYear 10 = .ok (.iload_n 2, 1) := by decide +kernel
theorem dX3_roundYear_11 : decode cX3_roundYear 11 = .ok (.bipush 60, 2) := by decide +kernel
theorem dX3_roundYear_13 : decode cX3_roundYear 13 = .ok (.if_icmp .gt 29, 3) := by decide +kernel
theorem dX3_roundYear_16 : decode cX3_roundYear 16 = .ok (.aload_n 0, 1) := by decide +kernel
theorem dX3_roundYear_17 : decode cX3_roundYear 17 = .ok (.getfield 12, 3) := by decide +kernel
theorem dX3_roundYear_20 : decode cX3_roundYear 20 = .ok (.invokevirtual 49, 3) := by decide +kernel
theorem dX3_roundYear_23 : decode cX3_roundYear 23 = .ok (.aload_n 0, 1) := by decide +kernel
theorem dX3_roundYear_24 : decode cX3_roundYear 24 = .ok (.getfield 12, 3) := by decide +kernel
theorem dX3_roundYear_27 : decode cX3_roundYear 27 = .ok (.aload_n 1, 1) := by decide +kernel
theorem dX3_roundYear_28 : decode cX3_roundYear 28 = .ok (.invokevirtual 89, 3) := by decide +kernel
theorem dX3_roundYear_31 : decode cX3_roundYear 31 = .ok (.ifCond .eq 5, 3) := by decide +kernel
theorem dX3_roundYear_34 : decode cX3_roundYear 34 = .ok (.iload_n 2, 1) := by decide +kernel
theorem dX3_roundYear_35 : decode cX3_roundYear 35 = .ok (.ireturn, 1) := by decide +kernel
theorem dX3_roundYear_36 : decode cX3_roundYear 36 = .ok (.iinc 2 1, 3) := by decide +kernel
theorem dX3_roundYear_39 : decode cX3_roundYear 39 = .ok (.goto (-29), 3) := by decide +kernel
theorem dX3_roundYear_42 : decode cX3_roundYear 42 = .ok (.bipush (-9), 2) := by decide +kernel
theorem dX3_roundYear_44 : decode cX3_roundYear 44 = .ok (.ireturn, 1) := by decide +kernel
theorem dX3_restingPair_0 : decode cX3_restingPair 0 = .ok (.iconst 0, 1) := by decide +kernel
theorem dX3_restingPair_1 : decode cX3_restingPair 1 = .ok (.istore 5, 2) := by decide +kernel
theorem dX3_restingPair_3 : decode cX3_restingPair 3 = .ok (.iload 5, 2) := by decide +kernel
theorem dX3_restingPair_5 : decode cX3_restingPair 5 = .ok (.iconst 4, 1) := by decide +kernel
theorem dX3_restingPair_6 : decode cX3_restingPair 6 = .ok (.if_icmp .ge 20, 3) := by decide +kernel
theorem dX3_restingPair_9 : decode cX3_restingPair 9 = .ok (.aload_n 0, 1) := by decide +kernel
theorem dX3_restingPair_10 : decode cX3_restingPair 10 = .ok (.aload_n 1, 1) := by decide +kernel
theorem dX3_restingPair_11 : decode cX3_restingPair 11 = .ok (.iload_n 2, 1) := by decide +kernel
theorem dX3_restingPair_12 : decode cX3_restingPair 12 = .ok (.iload_n 3, 1) := by decide +kernel
theorem dX3_restingPair_13 : decode cX3_restingPair 13 = .ok (.iload 4, 2) := by decide +kernel
theorem dX3_restingPair_15 : decode cX3_restingPair 15 = .ok (.iload 5, 2) := by decide +kernel
theorem dX3_restingPair_17 : decode cX3_restingPair 17 = .ok (.invokevirtual 92, 3) := by decide +kernel
theorem dX3_restingPair_20 : decode cX3_restingPair 20 = .ok (.iinc 5 1, 3) := by decide +kernel
theorem dX3_restingPair_23 : decode cX3_restingPair 23 = .ok (.goto (-20), 3) := by decide +kernel
theorem dX3_restingPair_26 : decode cX3_restingPair 26 = .ok (.iconst 0, 1) := by decide +kernel
theorem dX3_restingPair_27 : decode cX3_restingPair 27 = .ok (.istore 5, 2) := by decide +kernel
theorem dX3_restingPair_29 : decode cX3_restingPair 29 = .ok (.iload 5, 2) := by decide +kernel
theorem dX3_restingPair_31 : decode cX3_restingPair 31 = .ok (.iconst 4, 1) := by decide +kernel
theorem dX3_restingPair_32 : decode cX3_restingPair 32 = .ok (.if_icmp .ge 96, 3) := by decide +kernel
theorem dX3_restingPair_35 : decode cX3_restingPair 35 = .ok (.aload_n 0, 1) := by decide +kernel
theorem dX3_restingPair_36 : decode cX3_restingPair 36 = .ok (.getfield 32, 3) := by decide +kernel
theorem dX3_restingPair_39 : decode cX3_restingPair 39 = .ok (.iconst 2, 1) := by decide +kernel
theorem dX3_restingPair_40 : decode cX3_restingPair 40 = .ok (.iload 5, 2) := by decide +kernel
theorem dX3_restingPair_42 : decode cX3_restingPair 42 = .ok (.imul, 1) := by decide +kernel
theorem dX3_restingPair_43 : decode cX3_restingPair 43 = .ok (.iaload, 1) := by decide +kernel
theorem dX3_restingPair_44 : decode cX3_restingPair 44 = .ok (.aload_n 0, 1) := by decide +kernel
theorem dX3_restingPair_45 : decode cX3_restingPair 45 = .ok (.getfield 32, 3) := by decide +kernel
theorem dX3_restingPair_48 : decode cX3_restingPair 48 = .ok (.iconst 2, 1) := by decide +kernel
theorem dX3_restingPair_49 : decode cX3_restingPair 49 = .ok (.iload 5, 2) := by decide +kernel
theorem dX3_restingPair_51 : decode cX3_restingPair 51 = .ok (.iconst 2, 1) := by decide +kernel
theorem dX3_restingPair_52 : decode cX3_restingPair 52 = .ok (.ixor, 1) := by decide +kernel
theorem dX3_restingPair_53 : decode cX3_restingPair 53 = .ok (.imul, 1) := by decide +kernel
theorem dX3_restingPair_54 : decode cX3_restingPair 54 = .ok (.iaload, 1) := by decide +kernel
theorem dX3_restingPair_55 : decode cX3_restingPair 55 = .ok (.if_icmp .lt 7, 3) := by decide +kernel
theorem dX3_restingPair_58 : decode cX3_restingPair 58 = .ok (.iconst 1, 1) := by decide +kernel
theorem dX3_restingPair_59 : decode cX3_restingPair 59 = .ok (.goto 4, 3) := by decide +kernel
theorem dX3_restingPair_62 : decode cX3_restingPair 62 = .ok (.iconst 0, 1) := by decide +kernel
theorem dX3_restingPair_63 : decode cX3_restingPair 63 = .ok (.istore 6, 2) := by decide +kernel
theorem dX3_restingPair_65 : decode cX3_restingPair 65 = .ok (.aload_n 0, 1) := by decide +kernel
theorem dX3_restingPair_66 : decode cX3_restingPair 66 = .ok (.getfield 32, 3) := by decide +kernel
theorem dX3_restingPair_69 : decode cX3_restingPair 69 = .ok (.iconst 2, 1) := by decide +kernel
theorem dX3_restingPair_70 : decode cX3_restingPair 70 = .ok (.iload 5, 2) := by decide +kernel
theorem dX3_restingPair_72 : decode cX3_restingPair 72 = .ok (.imul, 1) := by decide +kernel
theorem dX3_restingPair_73 : decode cX3_restingPair 73 = .ok (.iconst 1, 1) := by decide +kernel
theorem dX3_restingPair_74 : decode cX3_restingPair 74 = .ok (.iadd, 1) := by decide +kernel
theorem dX3_restingPair_75 : decode cX3_restingPair 75 = .ok (.iaload, 1) := by decide +kernel
theorem dX3_restingPair_76 : decode cX3_restingPair 76 = .ok (.aload_n 0, 1) := by decide +kernel
theorem dX3_restingPair_77 : decode cX3_restingPair 77 = .ok (.getfield 32, 3) := by decide +kernel
theorem dX3_restingPair_80 : decode cX3_restingPair 80 = .ok (.iconst 2, 1) := by decide +kernel
theorem dX3_restingPair_81 : decode cX3_restingPair 81 = .ok (.iload 5, 2) := by decide +kernel
theorem dX3_restingPair_83 : decode cX3_restingPair 83 = .ok (.iconst 1, 1) := by decide +kernel
theorem dX3_restingPair_84 : decode cX3_restingPair 84 = .ok (.ixor, 1) := by decide +kernel
theorem dX3_restingPair_85 : decode cX3_restingPair 85 = .ok (.imul, 1) := by decide +kernel
theorem dX3_restingPair_86 : decode cX3_restingPair 86 = .ok (.iconst 1, 1) := by decide +kernel
theorem dX3_restingPair_87 : decode cX3_restingPair 87 = .ok (.iadd, 1) := by decide +kernel
theorem dX3_restingPair_88 : decode cX3_restingPair 88 = .ok (.iaload, 1) := by decide +kernel
theorem dX3_restingPair_89 : decode cX3_restingPair 89 = .ok (.if_icmp .lt 7, 3) := by decide +kernel
theorem dX3_restingPair_92 : decode cX3_restingPair 92 = .ok (.iconst 1, 1) := by decide +kernel
theorem dX3_restingPair_93 : decode cX3_restingPair 93 = .ok (.goto 4, 3) := by decide +kernel
theorem dX3_restingPair_96 : decode cX3_restingPair 96 = .ok (.iconst 0, 1) := by decide +kernel
theorem dX3_restingPair_97 : decode cX3_restingPair 97 = .ok (.istore 7, 2) := by decide +kernel
theorem dX3_restingPair_99 : decode cX3_restingPair 99 = .ok (.iload 6, 2) := by decide +kernel
theorem dX3_restingPair_101 : decode cX3_restingPair 101 = .ok (.ifCond .eq 21, 3) := by decide +kernel
theorem dX3_restingPair_104 : decode cX3_restingPair 104 = .ok (.iload 7, 2) := by decide +kernel
theorem dX3_restingPair_106 : decode cX3_restingPair 106 = .ok (.ifCond .eq 16, 3) := by decide +kernel
theorem dX3_restingPair_109 : decode cX3_restingPair 109 = .ok (.bipush 10, 2) := by decide +kernel
theorem dX3_restingPair_111 : decode cX3_restingPair 111 = .ok (.iload 5, 2) := by decide +kernel
theorem dX3_restingPair_113 : decode cX3_restingPair 113 = .ok (.iconst 1, 1) := by decide +kernel
theorem dX3_restingPair_114 : decode cX3_restingPair 114 = .ok (.ishr, 1) := by decide +kernel
theorem dX3_restingPair_115 : decode cX3_restingPair 115 = .ok (.imul, 1) := by decide +kernel
theorem dX3_restingPair_116 : decode cX3_restingPair 116 = .ok (.iload 5, 2) := by decide +kernel
theorem dX3_restingPair_118 : decode cX3_restingPair 118 = .ok (.iconst 1, 1) := by decide +kernel
theorem dX3_restingPair_119 : decode cX3_restingPair 119 = .ok (.iand, 1) := by decide +kernel
theorem dX3_restingPair_120 : decode cX3_restingPair 120 = .ok (.iadd, 1) := by decide +kernel
theorem dX3_restingPair_121 : decode cX3_restingPair 121 = .ok (.ireturn, 1) := by decide +kernel
theorem dX3_restingPair_122 : decode cX3_restingPair 122 = .ok (.iinc 5 1, 3) := by decide +kernel
theorem dX3_restingPair_125 : decode cX3_restingPair 125 = .ok (.goto (-96), 3) := by decide +kernel
theorem dX3_restingPair_128 : decode cX3_restingPair 128 = .ok (.bipush (-9), 2) := by decide +kernel
theorem dX3_restingPair_130 : decode cX3_restingPair 130 = .ok (.ireturn, 1) := by decide +kernel
theorem dX3_weigh_0 : decode cX3_weigh 0 = .ok (.aload_n 0, 1) := by decide +kernel
theorem dX3_weigh_1 : decode cX3_weigh 1 = .ok (.getfield 12, 3) := by decide +kernel
theorem dX3_weigh_4 : decode cX3_weigh 4 = .ok (.aload_n 1, 1) := by decide +kernel
theorem dX3_weigh_5 : decode cX3_weigh 5 = .ok (.invokevirtual 35, 3) := by decide +kernel
theorem dX3_weigh_8 : decode cX3_weigh 8 = .ok (.iload 5, 2) := by decide +kernel
theorem dX3_weigh_10 : decode cX3_weigh 10 = .ok (.iconst 2, 1) := by decide +kernel
theorem dX3_weigh_11 : decode cX3_weigh 11 = .ok (.iand, 1) := by decide +kernel
theorem dX3_weigh_12 : decode cX3_weigh 12 = .ok (.ifCond .eq 14, 3) := by decide +kernel
theorem dX3_weigh_15 : decode cX3_weigh 15 = .ok (.aload_n 0, 1) := by decide +kernel
theorem dX3_weigh_16 : decode cX3_weigh 16 = .ok (.getfield 12, 3) := by decide +kernel
theorem dX3_weigh_19 : decode cX3_weigh 19 = .ok (.getfield 78, 3) := by decide +kernel
theorem dX3_weigh_22 : decode cX3_weigh 22 = .ok (.iload_n 2, 1) := by decide +kernel
theorem dX3_weigh_23 : decode cX3_weigh 23 = .ok (.bipush (-9), 2) := by decide +kernel
theorem dX3_weigh_25 : decode cX3_weigh 25 = .ok (.iastore, 1) := by decide +kernel
theorem dX3_weigh_26 : decode cX3_weigh 26 = .ok (.iload 5, 2) := by decide +kernel
theorem dX3_weigh_28 : decode cX3_weigh 28 = .ok (.iconst 1, 1) := by decide +kernel
theorem dX3_weigh_29 : decode cX3_weigh 29 = .ok (.iand, 1) := by decide +kernel
theorem dX3_weigh_30 : decode cX3_weigh 30 = .ok (.ifCond .eq 14, 3) := by decide +kernel
theorem dX3_weigh_33 : decode cX3_weigh 33 = .ok (.aload_n 0, 1) := by decide +kernel
theorem dX3_weigh_34 : decode cX3_weigh 34 = .ok (.getfield 12, 3) := by decide +kernel
theorem dX3_weigh_37 : decode cX3_weigh 37 = .ok (.getfield 78, 3) := by decide +kernel
theorem dX3_weigh_40 : decode cX3_weigh 40 = .ok (.iload_n 3, 1) := by decide +kernel
theorem dX3_weigh_41 : decode cX3_weigh 41 = .ok (.bipush (-9), 2) := by decide +kernel
theorem dX3_weigh_43 : decode cX3_weigh 43 = .ok (.iastore, 1) := by decide +kernel
theorem dX3_weigh_44 : decode cX3_weigh 44 = .ok (.iconst 0, 1) := by decide +kernel
theorem dX3_weigh_45 : decode cX3_weigh 45 = .ok (.istore 6, 2) := by decide +kernel
theorem dX3_weigh_47 : decode cX3_weigh 47 = .ok (.iconst 0, 1) := by decide +kernel
theorem dX3_weigh_48 : decode cX3_weigh 48 = .ok (.istore 7, 2) := by decide +kernel
theorem dX3_weigh_50 : decode cX3_weigh 50 = .ok (.iconst 0, 1) := by decide +kernel
theorem dX3_weigh_51 : decode cX3_weigh 51 = .ok (.istore 8, 2) := by decide +kernel
theorem dX3_weigh_53 : decode cX3_weigh 53 = .ok (.iload 8, 2) := by decide +kernel
theorem dX3_weigh_55 : decode cX3_weigh 55 = .ok (.iload 4, 2) := by decide +kernel
theorem dX3_weigh_57 : decode cX3_weigh 57 = .ok (.if_icmp .ge 44, 3) := by decide +kernel
theorem dX3_weigh_60 : decode cX3_weigh 60 = .ok (.aload_n 0, 1) := by decide +kernel
theorem dX3_weigh_61 : decode cX3_weigh 61 = .ok (.getfield 12, 3) := by decide +kernel
theorem dX3_weigh_64 : decode cX3_weigh 64 = .ok (.invokevirtual 49, 3) := by decide +kernel
theorem dX3_weigh_67 : decode cX3_weigh 67 = .ok (.iload 6, 2) := by decide +kernel
theorem dX3_weigh_69 : decode cX3_weigh 69 = .ok (.aload_n 0, 1) := by decide +kernel
theorem dX3_weigh_70 : decode cX3_weigh 70 = .ok (.getfield 12, 3) := by decide +kernel
theorem dX3_weigh_73 : decode cX3_weigh 73 = .ok (.getfield 96, 3) := by decide +kernel
theorem dX3_weigh_76 : decode cX3_weigh 76 = .ok (.iload_n 2, 1) := by decide +kernel
theorem dX3_weigh_77 : decode cX3_weigh 77 = .ok (.iaload, 1) := by decide +kernel
theorem dX3_weigh_78 : decode cX3_weigh 78 = .ok (.iadd, 1) := by decide +kernel
theorem dX3_weigh_79 : decode cX3_weigh 79 = .ok (.istore 6, 2) := by decide +kernel
theorem dX3_weigh_81 : decode cX3_weigh 81 = .ok (.iload 7, 2) := by decide +kernel
theorem dX3_weigh_83 : decode cX3_weigh 83 = .ok (.aload_n 0, 1) := by decide +kernel
theorem dX3_weigh_84 : decode cX3_weigh 84 = .ok (.getfield 12, 3) := by decide +kernel
theorem dX3_weigh_87 : decode cX3_weigh 87 = .ok (.getfield 96, 3) := by decide +kernel
theorem dX3_weigh_90 : decode cX3_weigh 90 = .ok (.iload_n 3, 1) := by decide +kernel
theorem dX3_weigh_91 : decode cX3_weigh 91 = .ok (.iaload, 1) := by decide +kernel
theorem dX3_weigh_92 : decode cX3_weigh 92 = .ok (.iadd, 1) := by decide +kernel
theorem dX3_weigh_93 : decode cX3_weigh 93 = .ok (.istore 7, 2) := by decide +kernel
theorem dX3_weigh_95 : decode cX3_weigh 95 = .ok (.iinc 8 1, 3) := by decide +kernel
theorem dX3_weigh_98 : decode cX3_weigh 98 = .ok (.goto (-45), 3) := by decide +kernel
theorem dX3_weigh_101 : decode cX3_weigh 101 = .ok (.aload_n 0, 1) := by decide +kernel
theorem dX3_weigh_102 : decode cX3_weigh 102 = .ok (.getfield 32, 3) := by decide +kernel
theorem dX3_weigh_105 : decode cX3_weigh 105 = .ok (.iconst 2, 1) := by decide +kernel
theorem dX3_weigh_106 : decode cX3_weigh 106 = .ok (.iload 5, 2) := by decide +kernel
theorem dX3_weigh_108 : decode cX3_weigh 108 = .ok (.imul, 1) := by decide +kernel
theorem dX3_weigh_109 : decode cX3_weigh 109 = .ok (.iload 6, 2) := by decide +kernel
theorem dX3_weigh_111 : decode cX3_weigh 111 = .ok (.aload_n 0, 1) := by decide +kernel
theorem dX3_weigh_112 : decode cX3_weigh 112 = .ok (.getfield 12, 3) := by decide +kernel
theorem dX3_weigh_115 : decode cX3_weigh 115 = .ok (.getfield 99, 3) := by decide +kernel
theorem dX3_weigh_118 : decode cX3_weigh 118 = .ok (.iload_n 2, 1) := by decide +kernel
theorem dX3_weigh_119 : decode cX3_weigh 119 = .ok (.iaload, 1) := by decide +kernel
theorem dX3_weigh_120 : decode cX3_weigh 120 = .ok (.isub, 1) := by decide +kernel
theorem dX3_weigh_121 : decode cX3_weigh 121 = .ok (.iastore, 1) := by decide +kernel
theorem dX3_weigh_122 : decode cX3_weigh 122 = .ok (.aload_n 0, 1) := by decide +kernel
theorem dX3_weigh_123 : decode cX3_weigh 123 = .ok (.getfield 32, 3) := by decide +kernel
theorem dX3_weigh_126 : decode cX3_weigh 126 = .ok (.iconst 2, 1) := by decide +kernel
theorem dX3_weigh_127 : decode cX3_weigh 127 = .ok (.iload 5, 2) := by decide +kernel
theorem dX3_weigh_129 : decode cX3_weigh 129 = .ok (.imul, 1) := by decide +kernel
theorem dX3_weigh_130 : decode cX3_weigh 130 = .ok (.iconst 1, 1) := by decide +kernel
theorem dX3_weigh_131 : decode cX3_weigh 131 = .ok (.iadd, 1) := by decide +kernel
theorem dX3_weigh_132 : decode cX3_weigh 132 = .ok (.iload 7, 2) := by decide +kernel
theorem dX3_weigh_134 : decode cX3_weigh 134 = .ok (.aload_n 0, 1) := by decide +kernel
theorem dX3_weigh_135 : decode cX3_weigh 135 = .ok (.getfield 12, 3) := by decide +kernel
theorem dX3_weigh_138 : decode cX3_weigh 138 = .ok (.getfield 99, 3) := by decide +kernel
theorem dX3_weigh_141 : decode cX3_weigh 141 = .ok (.iload_n 3, 1) := by decide +kernel
theorem dX3_weigh_142 : decode cX3_weigh 142 = .ok (.iaload, 1) := by decide +kernel
theorem dX3_weigh_143 : decode cX3_weigh 143 = .ok (.isub, 1) := by decide +kernel
theorem dX3_weigh_144 : decode cX3_weigh 144 = .ok (.iastore, 1) := by decide +kernel
theorem dX3_weigh_145 : decode cX3_weigh 145 = .ok (.return_, 1) := by decide +kernel
theorem dX3_waysThroughFrost_0 : decode cX3_waysThroughFrost 0 = .ok (.aload_n 0, 1) := by decide +kernel
theorem dX3_waysThroughFrost_1 : decode cX3_waysThroughFrost 1 = .ok (.getfield 12, 3) := by decide +kernel
theorem dX3_waysThroughFrost_4 : decode cX3_waysThroughFrost 4 = .ok (.aload_n 1, 1) := by decide +kernel
theorem dX3_waysThroughFrost_5 : decode cX3_waysThroughFrost 5 = .ok (.invokevirtual 35, 3) := by decide +kernel
theorem dX3_waysThroughFrost_8 : decode cX3_waysThroughFrost 8 = .ok (.iload_n 2, 1) := by decide +kernel
theorem dX3_waysThroughFrost_9 : decode cX3_waysThroughFrost 9 = .ok (.aload_n 0, 1) := by decide +kernel
theorem dX3_waysThroughFrost_10 : decode cX3_waysThroughFrost 10 = .ok (.getfield 28, 3) := by decide +kernel
theorem dX3_waysThroughFrost_13 : decode cX3_waysThroughFrost 13 = .ok (.arraylength, 1) := by decide +kernel
theorem dX3_waysThroughFrost_14 : decode cX3_waysThroughFrost 14 = .ok (.invokestatic 102, 3) := by decide +kernel
theorem dX3_waysThroughFrost_17 : decode cX3_waysThroughFrost 17 = .ok (.istore 5, 2) := by decide +kernel
theorem dX3_waysThroughFrost_19 : decode cX3_waysThroughFrost 19 = .ok (.iconst 0, 1) := by decide +kernel
theorem dX3_waysThroughFrost_20 : decode cX3_waysThroughFrost 20 = .ok (.istore 6, 2) := by decide +kernel
theorem dX3_waysThroughFrost_22 : decode cX3_waysThroughFrost 22 = .ok (.iload 6, 2) := by decide +kernel
theorem dX3_waysThroughFrost_24 : decode cX3_waysThroughFrost 24 = .ok (.iload 5, 2) := by decide +kernel
theorem dX3_waysThroughFrost_26 : decode cX3_waysThroughFrost 26 = .ok (.if_icmp .ge 30, 3) := by decide +kernel
theorem dX3_waysThroughFrost_29 : decode cX3_waysThroughFrost 29 = .ok (.aload_n 0, 1) := by decide +kernel
theorem dX3_waysThroughFrost_30 : decode cX3_waysThroughFrost 30 = .ok (.getfield 12, 3) := by decide +kernel
theorem dX3_waysThroughFrost_33 : decode cX3_waysThroughFrost 33 = .ok (.invokevirtual 49, 3) := by decide +kernel
theorem dX3_waysThroughFrost_36 : decode cX3_waysThroughFrost 36 = .ok (.aload_n 0, 1) := by decide +kernel
theorem dX3_waysThroughFrost_37 : decode cX3_waysThroughFrost 37 = .ok (.getfield 28, 3) := by decide +kernel
theorem dX3_waysThroughFrost_40 : decode cX3_waysThroughFrost 40 = .ok (.iload 6, 2) := by decide +kernel
theorem dX3_waysThroughFrost_42 : decode cX3_waysThroughFrost 42 = .ok (.aload_n 0, 1) := by decide +kernel
theorem dX3_waysThroughFrost_43 : decode cX3_waysThroughFrost 43 = .ok (.getfield 12, 3) := by decide +kernel
theorem dX3_waysThroughFrost_46 : decode cX3_waysThroughFrost 46 = .ok (.getfield 108, 3) := by decide +kernel
theorem dX3_waysThroughFrost_49 : decode cX3_waysThroughFrost 49 = .ok (.iastore, 1) := by decide +kernel
theorem dX3_waysThroughFrost_50 : decode cX3_waysThroughFrost 50 = .ok (.iinc 6 1, 3) := by decide +kernel
theorem dX3_waysThroughFrost_53 : decode cX3_waysThroughFrost 53 = .ok (.goto (-31), 3) := by decide +kernel
theorem dX3_waysThroughFrost_56 : decode cX3_waysThroughFrost 56 = .ok (.lconst 0, 1) := by decide +kernel
theorem dX3_waysThroughFrost_57 : decode cX3_waysThroughFrost 57 = .ok (.lstore 6, 2) := by decide +kernel
theorem dX3_waysThroughFrost_59 : decode cX3_waysThroughFrost 59 = .ok (.iconst 0, 1) := by decide +kernel
theorem dX3_waysThroughFrost_60 : decode cX3_waysThroughFrost 60 = .ok (.istore 8, 2) := by decide +kernel
theorem dX3_waysThroughFrost_62 : decode cX3_waysThroughFrost 62 = .ok (.iload 8, 2) := by decide +kernel
theorem dX3_waysThroughFrost_64 : decode cX3_waysThroughFrost 64 = .ok (.iconst 1, 1) := by decide +kernel
theorem dX3_waysThroughFrost_65 : decode cX3_waysThroughFrost 65 = .ok (.iload 5, 2) := by decide +kernel
theorem dX3_waysThroughFrost_67 : decode cX3_waysThroughFrost 67 = .ok (.ishl, 1) := by decide +kernel
theorem dX3_waysThroughFrost_68 : decode cX3_waysThroughFrost 68 = .ok (.if_icmp .ge 80, 3) := by decide +kernel
theorem dX3_waysThroughFrost_71 : decode cX3_waysThroughFrost 71 = .ok (.iconst 0, 1) := by decide +kernel
theorem dX3_waysThroughFrost_72 : decode cX3_waysThroughFrost 72 = .ok (.istore 9, 2) := by decide +kernel
theorem dX3_waysThroughFrost_74 : decode cX3_waysThroughFrost 74 = .ok (.lconst 1, 1) := by decide +kernel
theorem dX3_waysThroughFrost_75 : decode cX3_waysThroughFrost 75 = .ok (.lstore 10, 2) := by decide +kernel
theorem dX3_waysThroughFrost_77 : decode cX3_waysThroughFrost 77 = .ok (.iconst 0, 1) := by decide +kernel
theorem dX3_waysThroughFrost_78 : decode cX3_waysThroughFrost 78 = .ok (.istore 12, 2) := by decide +kernel
theorem dX3_waysThroughFrost_80 : decode cX3_waysThroughFrost 80 = .ok (.iload 12, 2) := by decide +kernel
theorem dX3_waysThroughFrost_82 : decode cX3_waysThroughFrost 82 = .ok (.iload 5, 2) := by decide +kernel
theorem dX3_waysThroughFrost_84 : decode cX3_waysThroughFrost 84 = .ok (.if_icmp .ge 40, 3) := by decide +kernel
theorem dX3_waysThroughFrost_87 : decode cX3_waysThroughFrost 87 = .ok (.iload 8, 2) := by decide +kernel
theorem dX3_waysThroughFrost_89 : decode cX3_waysThroughFrost 89 = .ok (.iconst 1, 1) := by decide +kernel
theorem dX3_waysThroughFrost_90 : decode cX3_waysThroughFrost 90 = .ok (.iload 12, 2) := by decide +kernel
theorem dX3_waysThroughFrost_92 : decode cX3_waysThroughFrost 92 = .ok (.ishl, 1) := by decide +kernel
theorem dX3_waysThroughFrost_93 : decode cX3_waysThroughFrost 93 = .ok (.iand, 1) := by decide +kernel
theorem dX3_waysThroughFrost_94 : decode cX3_waysThroughFrost 94 = .ok (.ifCond .eq 24, 3) := by decide +kernel
theorem dX3_waysThroughFrost_97 : decode cX3_waysThroughFrost 97 = .ok (.iload 9, 2) := by decide +kernel
theorem dX3_waysThroughFrost_99 : decode cX3_waysThroughFrost 99 = .ok (.aload_n 0, 1) := by decide +kernel
theorem dX3_waysThroughFrost_100 : decode cX3_waysThroughFrost 100 = .ok (.getfield 28, 3) := by decide +kernel
theorem dX3_waysThroughFrost_103 : decode cX3_waysThroughFrost 103 = .ok (.iload 12, 2) := by decide +kernel
theorem dX3_waysThroughFrost_105 : decode cX3_waysThroughFrost 105 = .ok (.iaload, 1) := by decide +kernel
theorem dX3_waysThroughFrost_106 : decode cX3_waysThroughFrost 106 = .ok (.iadd, 1) := by decide +kernel
theorem dX3_waysThroughFrost_107 : decode cX3_waysThroughFrost 107 = .ok (.istore 9, 2) := by decide +kernel
theorem dX3_waysThroughFrost_109 : decode cX3_waysThroughFrost 109 = .ok (.lload 10, 2) := by decide +kernel
theorem dX3_waysThroughFrost_111 : decode cX3_waysThroughFrost 111 = .ok (.iload_n 3, 1) := by decide +kernel
theorem dX3_waysThroughFrost_112 : decode cX3_waysThroughFrost 112 = .ok (.iconst 1, 1) := by decide +kernel
theorem dX3_waysThroughFrost_113 : decode cX3_waysThroughFrost 113 = .ok (.isub, 1) := by decide +kernel
theorem dX3_waysThroughFrost_114 : decode cX3_waysThroughFrost 114 = .ok (.i2l, 1) := by decide +kernel
theorem dX3_waysThroughFrost_115 : decode cX3_waysThroughFrost 115 = .ok (.lmul, 1) := by decide +kernel
theorem dX3_waysThroughFrost_116 : decode cX3_waysThroughFrost 116 = .ok (.lstore 10, 2) := by decide +kernel
theorem dX3_waysThroughFrost_118 : decode cX3_waysThroughFrost 118 = .ok (.iinc 12 1, 3) := by decide +kernel
theorem dX3_waysThroughFrost_121 : decode cX3_waysThroughFrost 121 = .ok (.goto (-41), 3) := by decide +kernel
theorem dX3_waysThroughFrost_124 : decode cX3_waysThroughFrost 124 = .ok (.lload 6, 2) := by decide +kernel
theorem dX3_waysThroughFrost_126 : decode cX3_waysThroughFrost 126 = .ok (.iload 9, 2) := by decide +kernel
theorem dX3_waysThroughFrost_128 : decode cX3_waysThroughFrost 128 = .ok (.iload 4, 2) := by decide +kernel
theorem dX3_waysThroughFrost_130 : decode cX3_waysThroughFrost 130 = .ok (.if_icmp .lt 8, 3) := by decide +kernel
theorem dX3_waysThroughFrost_133 : decode cX3_waysThroughFrost 133 = .ok (.lload 10, 2) := by decide +kernel
theorem dX3_waysThroughFrost_135 : decode cX3_waysThroughFrost 135 = .ok (.goto 4, 3) := by decide +kernel
theorem dX3_waysThroughFrost_138 : decode cX3_waysThroughFrost 138 = .ok (.lconst 0, 1) := by decide +kernel
theorem dX3_waysThroughFrost_139 : decode cX3_waysThroughFrost 139 = .ok (.ladd, 1) := by decide +kernel
theorem dX3_waysThroughFrost_140 : decode cX3_waysThroughFrost 140 = .ok (.lstore 6, 2) := by decide +kernel
theorem dX3_waysThroughFrost_142 : decode cX3_waysThroughFrost 142 = .ok (.iinc 8 1, 3) := by decide +kernel
theorem dX3_waysThroughFrost_145 : decode cX3_waysThroughFrost 145 = .ok (.goto (-83), 3) := by decide +kernel
theorem dX3_waysThroughFrost_148 : decode cX3_waysThroughFrost 148 = .ok (.lload 6, 2) := by decide +kernel
theorem dX3_waysThroughFrost_150 : decode cX3_waysThroughFrost 150 = .ok (.lreturn, 1) := by decide +kernel
theorem dX3_sumOfHundreds_0 : decode cX3_sumOfHundreds 0 = .ok (.aload_n 0, 1) := by decide +kernel
theorem dX3_sumOfHundreds_1 : decode cX3_sumOfHundreds 1 = .ok (.iload_n 3, 1) := by decide +kernel
theorem dX3_sumOfHundreds_2 : decode cX3_sumOfHundreds 2 = .ok (.putfield 111, 3) := by decide +kernel
theorem dX3_sumOfHundreds_5 : decode cX3_sumOfHundreds 5 = .ok (.iconst 0, 1) := by decide +kernel
theorem dX3_sumOfHundreds_6 : decode cX3_sumOfHundreds 6 = .ok (.istore 5, 2) := by decide +kernel
theorem dX3_sumOfHundreds_8 : decode cX3_sumOfHundreds 8 = .ok (.iconst 0, 1) := by decide +kernel
theorem dX3_sumOfHundreds_9 : decode cX3_sumOfHundreds 9 = .ok (.istore 6, 2) := by decide +kernel
theorem dX3_sumOfHundreds_11 : decode cX3_sumOfHundreds 11 = .ok (.iload 6, 2) := by decide +kernel
theorem dX3_sumOfHundreds_13 : decode cX3_sumOfHundreds 13 = .ok (.iload_n 2, 1) := by decide +kernel
theorem dX3_sumOfHundreds_14 : decode cX3_sumOfHundreds 14 = .ok (.if_icmp .ge 89, 3) := by decide +kernel
theorem dX3_sumOfHundreds_17 : decode cX3_sumOfHundreds 17 = .ok (.aload_n 0, 1) := by decide +kernel
theorem dX3_sumOfHundreds_18 : decode cX3_sumOfHundreds 18 = .ok (.getfield 12, 3) := by decide +kernel
theorem dX3_sumOfHundreds_21 : decode cX3_sumOfHundreds 21 = .ok (.aload_n 1, 1) := by decide +kernel
theorem dX3_sumOfHundreds_22 : decode cX3_sumOfHundreds 22 = .ok (.invokevirtual 35, 3) := by decide +kernel
theorem dX3_sumOfHundreds_25 : decode cX3_sumOfHundreds 25 = .ok (.iconst 0, 1) := by decide +kernel
theorem dX3_sumOfHundreds_26 : decode cX3_sumOfHundreds 26 = .ok (.istore 7, 2) := by decide +kernel
theorem dX3_sumOfHundreds_28 : decode cX3_sumOfHundreds 28 = .ok (.iload 7, 2) := by decide +kernel
theorem dX3_sumOfHundreds_30 : decode cX3_sumOfHundreds 30 = .ok (.iconst 3, 1) := by decide +kernel
theorem dX3_sumOfHundreds_31 : decode cX3_sumOfHundreds 31 = .ok (.aload_n 0, 1) := by decide +kernel
theorem dX3_sumOfHundreds_32 : decode cX3_sumOfHundreds 32 = .ok (.getfield 12, 3) := by decide +kernel
theorem dX3_sumOfHundreds_35 : decode cX3_sumOfHundreds 35 = .ok (.getfield 114, 3) := by decide +kernel
theorem dX3_sumOfHundreds_38 : decode cX3_sumOfHundreds 38 = .ok (.imul, 1) := by decide +kernel
theorem dX3_sumOfHundreds_39 : decode cX3_sumOfHundreds 39 = .ok (.if_icmp .ge 25, 3) := by decide +kernel
theorem dX3_sumOfHundreds_42 : decode cX3_sumOfHundreds 42 = .ok (.aload_n 0, 1) := by decide +kernel
theorem dX3_sumOfHundreds_43 : decode cX3_sumOfHundreds 43 = .ok (.getfield 12, 3) := by decide +kernel
theorem dX3_sumOfHundreds_46 : decode cX3_sumOfHundreds 46 = .ok (.getfield 117, 3) := by decide +kernel
theorem dX3_sumOfHundreds_49 : decode cX3_sumOfHundreds 49 = .ok (.iload 7, 2) := by decide +kernel
theorem dX3_sumOfHundreds_51 : decode cX3_sumOfHundreds 51 = .ok (.aload_n 0, 1) := by decide +kernel
theorem dX3_sumOfHundreds_52 : decode cX3_sumOfHundreds 52 = .ok (.bipush 31, 2) := by decide +kernel
theorem dX3_sumOfHundreds_54 : decode cX3_sumOfHundreds 54 = .ok (.invokevirtual 120, 3) := by decide +kernel
theorem dX3_sumOfHundreds_57 : decode cX3_sumOfHundreds 57 = .ok (.iastore, 1) := by decide +kernel
theorem dX3_sumOfHundreds_58 : decode cX3_sumOfHundreds 58 = .ok (.iinc 7 1, 3) := by decide +kernel
theorem dX3_sumOfHundreds_61 : decode cX3_sumOfHundreds 61 = .ok (.goto (-33), 3) := by decide +kernel
theorem dX3_sumOfHundreds_64 : decode cX3_sumOfHundreds 64 = .ok (.aload_n 0, 1) := by decide +kernel
theorem dX3_sumOfHundreds_65 : decode cX3_sumOfHundreds 65 = .ok (.getfield 12, 3) := by decide +kernel
theorem dX3_sumOfHundreds_68 : decode cX3_sumOfHundreds 68 = .ok (.bipush 10, 2) := by decide +kernel
theorem dX3_sumOfHundreds_70 : decode cX3_sumOfHundreds 70 = .ok (.invokevirtual 39, 3) := by decide +kernel
theorem dX3_sumOfHundreds_73 : decode cX3_sumOfHundreds 73 = .ok (.istore 7, 2) := by decide +kernel
theorem dX3_sumOfHundreds_75 : decode cX3_sumOfHundreds 75 = .ok (.iload 5, 2) := by decide +kernel
theorem dX3_sumOfHundreds_77 : decode cX3_sumOfHundreds 77 = .ok (.iload 4, 2) := by decide +kernel
theorem dX3_sumOfHundreds_79 : decode cX3_sumOfHundreds 79 = .ok (.ifCond .eq 8, 3) := by decide +kernel
theorem dX3_sumOfHundreds_82 : decode cX3_sumOfHundreds 82 = .ok (.iload 7, 2) := by decide +kernel
theorem dX3_sumOfHundreds_84 : decode cX3_sumOfHundreds 84 = .ok (.goto 10, 3) := by decide +kernel
theorem dX3_sumOfHundreds_87 : decode cX3_sumOfHundreds 87 = .ok (.aload_n 0, 1) := by decide +kernel
theorem dX3_sumOfHundreds_88 : decode cX3_sumOfHundreds 88 = .ok (.getfield 12, 3) := by decide +kernel
theorem dX3_sumOfHundreds_91 : decode cX3_sumOfHundreds 91 = .ok (.invokevirtual 123, 3) := by decide +kernel
theorem dX3_sumOfHundreds_94 : decode cX3_sumOfHundreds 94 = .ok (.iadd, 1) := by decide +kernel
theorem dX3_sumOfHundreds_95 : decode cX3_sumOfHundreds 95 = .ok (.istore 5, 2) := by decide +kernel
theorem dX3_sumOfHundreds_97 : decode cX3_sumOfHundreds 97 = .ok (.iinc 6 1, 3) := by decide +kernel
theorem dX3_sumOfHundreds_100 : decode cX3_sumOfHundreds 100 = .ok (.goto (-89), 3) := by decide +kernel
theorem dX3_sumOfHundreds_103 : decode cX3_sumOfHundreds 103 = .ok (.iload 5, 2) := by decide +kernel
theorem dX3_sumOfHundreds_105 : decode cX3_sumOfHundreds 105 = .ok (.ireturn, 1) := by decide +kernel
theorem dX3_draw_0 : decode cX3_draw 0 = .ok (.aload_n 0, 1) := by decide +kernel
theorem dX3_draw_1 : decode cX3_draw 1 = .ok (.aload_n 0, 1) := by decide +kernel
theorem dX3_draw_2 : decode cX3_draw 2 = .ok (.getfield 111, 3) := by decide +kernel
theorem dX3_draw_5 : decode cX3_draw 5 = .ok (.ldc 126, 2) := by decide +kernel
theorem dX3_draw_7 : decode cX3_draw 7 = .ok (.imul, 1) := by decide +kernel
theorem dX3_draw_8 : decode cX3_draw 8 = .ok (.ldc 127, 2) := by decide +kernel
theorem dX3_draw_10 : decode cX3_draw 10 = .ok (.iadd, 1) := by decide +kernel
theorem dX3_draw_11 : decode cX3_draw 11 = .ok (.putfield 111, 3) := by decide +kernel
theorem dX3_draw_14 : decode cX3_draw 14 = .ok (.aload_n 0, 1) := by decide +kernel
theorem dX3_draw_15 : decode cX3_draw 15 = .ok (.getfield 111, 3) := by decide +kernel
theorem dX3_draw_18 : decode cX3_draw 18 = .ok (.ldc 128, 2) := by decide +kernel
theorem dX3_draw_20 : decode cX3_draw 20 = .ok (.iand, 1) := by decide +kernel
theorem dX3_draw_21 : decode cX3_draw 21 = .ok (.sipush 256, 3) := by decide +kernel
theorem dX3_draw_24 : decode cX3_draw 24 = .ok (.idiv, 1) := by decide +kernel
theorem dX3_draw_25 : decode cX3_draw 25 = .ok (.istore_n 2, 1) := by decide +kernel
theorem dX3_draw_26 : decode cX3_draw 26 = .ok (.iload_n 1, 1) := by decide +kernel
theorem dX3_draw_27 : decode cX3_draw 27 = .ok (.ifCond .le 9, 3) := by decide +kernel
theorem dX3_draw_30 : decode cX3_draw 30 = .ok (.iload_n 2, 1) := by decide +kernel
theorem dX3_draw_31 : decode cX3_draw 31 = .ok (.iload_n 1, 1) := by decide +kernel
theorem dX3_draw_32 : decode cX3_draw 32 = .ok (.irem, 1) := by decide +kernel
theorem dX3_draw_33 : decode cX3_draw 33 = .ok (.goto 4, 3) := by decide +kernel
theorem dX3_draw_36 : decode cX3_draw 36 = .ok (.iconst 0, 1) := by decide +kernel
theorem dX3_draw_37 : decode cX3_draw 37 = .ok (.ireturn, 1) := by decide +kernel
theorem dX4_init_0 : decode cX4_init 0 = .ok (.aload_n 0, 1) := by decide +kernel
theorem dX4_init_1 : decode cX4_init 1 = .ok (.invokespecial 3, 3) := by decide +kernel
theorem dX4_init_4 : decode cX4_init 4 = .ok (.aload_n 0, 1) := by decide +kernel
theorem dX4_init_5 : decode cX4_init 5 = .ok (.sipush 448, 3) := by decide +kernel
theorem dX4_init_8 : decode cX4_init 8 = .ok (.newarray .int, 2) := by decide +kernel
theorem dX4_init_10 : decode cX4_init 10 = .ok (.putfield 11, 3) := by decide +kernel
theorem dX4_init_13 : decode cX4_init 13 = .ok (.return_, 1) := by decide +kernel
theorem dX4_plan_0 : decode cX4_plan 0 = .ok (.iconst 1, 1) := by decide +kernel
theorem dX4_plan_1 : decode cX4_plan 1 = .ok (.aload_n 1, 1) := by decide +kernel
theorem dX4_plan_2 : decode cX4_plan 2 = .ok (.getfield 15, 3) := by decide +kernel
theorem dX4_plan_5 : decode cX4_plan 5 = .ok (.ishl, 1) := by decide +kernel
theorem dX4_plan_6 : decode cX4_plan 6 = .ok (.istore_n 2, 1) := by decide +kernel
theorem dX4_plan_7 : decode cX4_plan 7 = .ok (.iconst 0, 1) := by decide +kernel
theorem dX4_plan_8 : decode cX4_plan 8 = .ok (.istore_n 3, 1) := by decide +kernel
theorem dX4_plan_9 : decode cX4_plan 9 = .ok (.iload_n 3, 1) := by decide +kernel
theorem dX4_plan_10 : decode cX4_plan 10 = .ok (.iload_n 2, 1) := by decide +kernel
theorem dX4_plan_11 : decode cX4_plan 11 = .ok (.if_icmp .ge 24, 3) := by decide +kernel
theorem dX4_plan_14 : decode cX4_plan 14 = .ok (.aload_n 0, 1) := by decide +kernel
theorem dX4_plan_15 : decode cX4_plan 15 = .ok (.getfield 11, 3) := by decide +kernel
theorem dX4_plan_18 : decode cX4_plan 18 = .ok (.bipush 64, 2) := by decide +kernel
theorem dX4_plan_20 : decode cX4_plan 20 = .ok (.aload_n 1, 1) := by decide +kernel
theorem dX4_plan_21 : decode cX4_plan 21 = .ok (.getfield 21, 3) := by decide +kernel
theorem dX4_plan_24 : decode cX4_plan 24 = .ok (.imul, 1) := by decide +kernel
theorem dX4_plan_25 : decode cX4_plan 25 = .ok (.iload_n 3, 1) := by decide +kernel
theorem dX4_plan_26 : decode cX4_plan 26 = .ok (.iadd, 1) := by decide +kernel
theorem dX4_plan_27 : decode cX4_plan 27 = .ok (.iconst 0, 1) := by decide +kernel
theorem dX4_plan_28 : decode cX4_plan 28 = .ok (.iastore, 1) := by decide +kernel
theorem dX4_plan_29 : decode cX4_plan 29 = .ok (.iinc 3 1, 3) := by decide +kernel
theorem dX4_plan_32 : decode cX4_plan 32 = .ok (.goto (-23), 3) := by decide +kernel
theorem dX4_plan_35 : decode cX4_plan 35 = .ok (.aload_n 1, 1) := by decide +kernel
theorem dX4_plan_36 : decode cX4_plan 36 = .ok (.getfield 21, 3) := by decide +kernel
theorem dX4_plan_39 : decode cX4_plan 39 = .ok (.iconst 1, 1) := by decide +kernel
theorem dX4_plan_40 : decode cX4_plan 40 = .ok (.isub, 1) := by decide +kernel
theorem dX4_plan_41 : decode cX4_plan 41 = .ok (.istore_n 3, 1) := by decide +kernel
theorem dX4_plan_42 : decode cX4_plan 42 = .ok (.iload_n 3, 1) := by decide +kernel
theorem dX4_plan_43 : decode cX4_plan 43 = .ok (.ifCond .lt 76, 3) := by decide +kernel
theorem dX4_plan_46 : decode cX4_plan 46 = .ok (.iconst 0, 1) := by decide +kernel
theorem dX4_plan_47 : decode cX4_plan 47 = .ok (.istore 4, 2) := by decide +kernel
theorem dX4_plan_49 : decode cX4_plan 49 = .ok (.iload 4, 2) := by decide +kernel
theorem dX4_plan_51 : decode cX4_plan 51 = .ok (.iload_n 2, 1) := by decide +kernel
theorem dX4_plan_52 : decode cX4_plan 52 = .ok (.if_icmp .ge 28, 3) := by decide +kernel
theorem dX4_plan_55 : decode cX4_plan 55 = .ok (.aload_n 0, 1) := by decide +kernel
theorem dX4_plan_56 : decode cX4_plan 56 = .ok (.getfield 11, 3) := by decide +kernel
theorem dX4_plan_59 : decode cX4_plan 59 = .ok (.bipush 64, 2) := by decide +kernel
theorem dX4_plan_61 : decode cX4_plan 61 = .ok (.iload_n 3, 1) := by decide +kernel
theorem dX4_plan_62 : decode cX4_plan 62 = .ok (.imul, 1) := by decide +kernel
theorem dX4_plan_63 : decode cX4_plan 63 = .ok (.iload 4, 2) := by decide +kernel
theorem dX4_plan_65 : decode cX4_plan 65 = .ok (.iadd, 1) := by decide +kernel
theorem dX4_plan_66 : decode cX4_plan 66 = .ok (.aload_n 0, 1) := by decide +kernel
theorem dX4_plan_67 : decode cX4_plan 67 = .ok (.iload_n 3, 1) := by decide +kernel
theorem dX4_plan_68 : decode cX4_plan 68 = .ok (.iload 4, 2) := by decide +kernel
theorem dX4_plan_70 : decode cX4_plan 70 = .ok (.invokevirtual 24, 3) := by decide +kernel
theorem dX4_plan_73 : decode cX4_plan 73 = .ok (.iastore, 1) := by decide +kernel
theorem dX4_plan_74 : decode cX4_plan 74 = .ok (.iinc 4 1, 3) := by decide +kernel
theorem dX4_plan_77 : decode cX4_plan 77 = .ok (.goto (-28), 3) := by decide +kernel
theorem dX4_plan_80 : decode cX4_plan 80 = .ok (.iconst 0, 1) := by decide +kernel
theorem dX4_plan_81 : decode cX4_plan 81 = .ok (.istore 4, 2) := by decide +kernel
theorem dX4_plan_83 : decode cX4_plan 83 = .ok (.iload 4, 2) := by decide +kernel
theorem dX4_plan_85 : decode cX4_plan 85 = .ok (.aload_n 1, 1) := by decide +kernel
theorem dX4_plan_86 : decode cX4_plan 86 = .ok (.getfield 15, 3) := by decide +kernel
theorem dX4_plan_89 : decode cX4_plan 89 = .ok (.if_icmp .ge 24, 3) := by decide +kernel
theorem dX4_plan_92 : decode cX4_plan 92 = .ok (.aload_n 0, 1) := by decide +kernel
theorem dX4_plan_93 : decode cX4_plan 93 = .ok (.iload_n 3, 1) := by decide +kernel
theorem dX4_plan_94 : decode cX4_plan 94 = .ok (.iload 4, 2) := by decide +kernel
theorem dX4_plan_96 : decode cX4_plan 96 = .ok (.aload_n 1, 1) := by decide +kernel
theorem dX4_plan_97 : decode cX4_plan 97 = .ok (.iload_n 3, 1) := by decide +kernel
theorem dX4_plan_98 : decode cX4_plan 98 = .ok (.iload 4, 2) := by decide +kernel
theorem dX4_plan_100 : decode cX4_plan 100 = .ok (.invokevirtual 28, 3) := by decide +kernel
theorem dX4_plan_103 : decode cX4_plan 103 = .ok (.iload_n 2, 1) := by decide +kernel
theorem dX4_plan_104 : decode cX4_plan 104 = .ok (.invokevirtual 31, 3) := by decide +kernel
theorem dX4_plan_107 : decode cX4_plan 107 = .ok (.iinc 4 1, 3) := by decide +kernel
theorem dX4_plan_110 : decode cX4_plan 110 = .ok (.goto (-27), 3) := by decide +kernel
theorem dX4_plan_113 : decode cX4_plan 113 = .ok (.iinc 3 (-1), 3) := by decide +kernel
theorem dX4_plan_116 : decode cX4_plan 116 = .ok (.goto (-74), 3) := by decide +kernel
theorem dX4_plan_119 : decode cX4_plan 119 = .ok (.return_, 1) := by decide +kernel
theorem dX4_planSeat_0 : decode cX4_planSeat 0 = .ok (.iconst 0, 1) := by decide +kernel
theorem dX4_planSeat_1 : decode cX4_planSeat 1 = .ok (.istore 5, 2) := by decide +kernel
theorem dX4_planSeat_3 : decode cX4_planSeat 3 = .ok (.iload 5, 2) := by decide +kernel
theorem dX4_planSeat_5 : decode cX4_planSeat 5 = .ok (.iload 4, 2) := by decide +kernel
theorem dX4_planSeat_7 : decode cX4_planSeat 7 = .ok (.if_icmp .ge 62, 3) := by decide +kernel
theorem dX4_planSeat_10 : decode cX4_planSeat 10 = .ok (.iload_n 2, 1) := by decide +kernel
theorem dX4_planSeat_11 : decode cX4_planSeat 11 = .ok (.iload 5, 2) := by decide +kernel
theorem dX4_planSeat_13 : decode cX4_planSeat 13 = .ok (.invokestatic 35, 3) := by decide +kernel
theorem dX4_planSeat_16 : decode cX4_planSeat 16 = .ok (.ifCond .eq 47, 3) := by decide +kernel
theorem dX4_planSeat_19 : decode cX4_planSeat 19 = .ok (.iload_n 3, 1) := by decide +kernel
theorem dX4_planSeat_20 : decode cX4_planSeat 20 = .ok (.aload_n 0, 1) := by decide +kernel
theorem dX4_planSeat_21 : decode cX4_planSeat 21 = .ok (.iload_n 1, 1) := by decide +kernel
theorem dX4_planSeat_22 : decode cX4_planSeat 22 = .ok (.iload 5, 2) := by decide +kernel
theorem dX4_planSeat_24 : decode cX4_planSeat 24 = .ok (.iconst 1, 1) := by decide +kernel
theorem dX4_planSeat_25 : decode cX4_planSeat 25 = .ok (.iload_n 2, 1) := by decide +kernel
theorem dX4_planSeat_26 : decode cX4_planSeat 26 = .ok (.ishl, 1) := by decide +kernel
theorem dX4_planSeat_27 : decode cX4_planSeat 27 = .ok (.ior, 1) := by decide +kernel
theorem dX4_planSeat_28 : decode cX4_planSeat 28 = .ok (.invokevirtual 24, 3) := by decide +kernel
theorem dX4_planSeat_31 : decode cX4_planSeat 31 = .ok (.iadd, 1) := by decide +kernel
theorem dX4_planSeat_32 : decode cX4_planSeat 32 = .ok (.istore 6, 2) := by decide +kernel
theorem dX4_planSeat_34 : decode cX4_planSeat 34 = .ok (.aload_n 0, 1) := by decide +kernel
theorem dX4_planSeat_35 : decode cX4_planSeat 35 = .ok (.getfield 11, 3) := by decide +kernel
theorem dX4_planSeat_38 : decode cX4_planSeat 38 = .ok (.bipush 64, 2) := by decide +kernel
theorem dX4_planSeat_40 : decode cX4_planSeat 40 = .ok (.iload_n 1, 1) := by decide +kernel
theorem dX4_planSeat_41 : decode cX4_planSeat 41 = .ok (.imul, 1) := by decide +kernel
theorem dX4_planSeat_42 : decode cX4_planSeat 42 = .ok (.iload 5, 2) := by decide +kernel
theorem dX4_planSeat_44 : decode cX4_planSeat 44 = .ok (.iadd, 1) := by decide +kernel
theorem dX4_planSeat_45 : decode cX4_planSeat 45 = .ok (.aload_n 0, 1) := by decide +kernel
theorem dX4_planSeat_46 : decode cX4_planSeat 46 = .ok (.getfield 11, 3) := by decide +kernel
theorem dX4_planSeat_49 : decode cX4_planSeat 49 = .ok (.bipush 64, 2) := by decide +kernel
theorem dX4_planSeat_51 : decode cX4_planSeat 51 = .ok (.iload_n 1, 1) := by decide +kernel
theorem dX4_planSeat_52 : decode cX4_planSeat 52 = .ok (.imul, 1) := by decide +kernel
theorem dX4_planSeat_53 : decode cX4_planSeat 53 = .ok (.iload 5, 2) := by decide +kernel
theorem dX4_planSeat_55 : decode cX4_planSeat 55 = .ok (.iadd, 1) := by decide +kernel
theorem dX4_planSeat_56 : decode cX4_planSeat 56 = .ok (.iaload, 1) := by decide +kernel
theorem dX4_planSeat_57 : decode cX4_planSeat 57 = .ok (.iload 6, 2) := by decide +kernel
theorem dX4_planSeat_59 : decode cX4_planSeat 59 = .ok (.invokestatic 39, 3) := by decide +kernel
theorem dX4_planSeat_62 : decode cX4_planSeat 62 = .ok (.iastore, 1) := by decide +kernel
theorem dX4_planSeat_63 : decode cX4_planSeat 63 = .ok (.iinc 5 1, 3) := by decide +kernel
theorem dX4_planSeat_66 : decode cX4_planSeat 66 = .ok (.goto (-63), 3) := by decide +kernel
theorem dX4_planSeat_69 : decode cX4_planSeat 69 = .ok (.return_, 1) := by decide +kernel
theorem dX4_most_0 : decode cX4_most 0 = .ok (.aload_n 0, 1) := by decide +kernel
theorem dX4_most_1 : decode cX4_most 1 = .ok (.getfield 11, 3) := by decide +kernel
theorem dX4_most_4 : decode cX4_most 4 = .ok (.iconst 0, 1) := by decide +kernel
theorem dX4_most_5 : decode cX4_most 5 = .ok (.iaload, 1) := by decide +kernel
theorem dX4_most_6 : decode cX4_most 6 = .ok (.ireturn, 1) := by decide +kernel
theorem dX4_seatOf_0 : decode cX4_seatOf 0 = .ok (.iconst 0, 1) := by decide +kernel
theorem dX4_seatOf_1 : decode cX4_seatOf 1 = .ok (.istore_n 3, 1) := by decide +kernel
theorem dX4_seatOf_2 : decode cX4_seatOf 2 = .ok (.bipush (-9), 2) := by decide +kernel
theorem dX4_seatOf_4 : decode cX4_seatOf 4 = .ok (.istore 4, 2) := by decide +kernel
theorem dX4_seatOf_6 : decode cX4_seatOf 6 = .ok (.iconst 0, 1) := by decide +kernel
theorem dX4_seatOf_7 : decode cX4_seatOf 7 = .ok (.istore 5, 2) := by decide +kernel
theorem dX4_seatOf_9 : decode cX4_seatOf 9 = .ok (.iload 5, 2) := by decide +kernel
theorem dX4_seatOf_11 : decode cX4_seatOf 11 = .ok (.iload_n 2, 1) := by decide +kernel
theorem dX4_seatOf_12 : decode cX4_seatOf 12 = .ok (.if_icmp .gt 37, 3) := by decide +kernel
theorem dX4_seatOf_15 : decode cX4_seatOf 15 = .ok (.aload_n 0, 1) := by decide +kernel
theorem dX4_seatOf_16 : decode cX4_seatOf 16 = .ok (.aload_n 1, 1) := by decide +kernel
theorem dX4_seatOf_17 : decode cX4_seatOf 17 = .ok (.iload 5, 2) := by decide +kernel
theorem dX4_seatOf_19 : decode cX4_seatOf 19 = .ok (.iload_n 3, 1) := by decide +kernel
theorem dX4_seatOf_20 : decode cX4_seatOf 20 = .ok (.invokevirtual 44, 3) := by decide +kernel
theorem dX4_seatOf_23 : decode cX4_seatOf 23 = .ok (.istore 4, 2) := by decide +kernel
theorem dX4_seatOf_25 : decode cX4_seatOf 25 = .ok (.iload_n 3, 1) := by decide +kernel
theorem dX4_seatOf_26 : decode cX4_seatOf 26 = .ok (.iload 4, 2) := by decide +kernel
theorem dX4_seatOf_28 : decode cX4_seatOf 28 = .ok (.bipush (-9), 2) := by decide +kernel
theorem dX4_seatOf_30 : decode cX4_seatOf 30 = .ok (.if_icmp .ne 7, 3) := by decide +kernel
theorem dX4_seatOf_33 : decode cX4_seatOf 33 = .ok (.iconst 0, 1) := by decide +kernel
theorem dX4_seatOf_34 : decode cX4_seatOf 34 = .ok (.goto 7, 3) := by decide +kernel
theorem dX4_seatOf_37 : decode cX4_seatOf 37 = .ok (.iconst 1, 1) := by decide +kernel
theorem dX4_seatOf_38 : decode cX4_seatOf 38 = .ok (.iload 4, 2) := by decide +kernel
theorem dX4_seatOf_40 : decode cX4_seatOf 40 = .ok (.ishl, 1) := by decide +kernel
theorem dX4_seatOf_41 : decode cX4_seatOf 41 = .ok (.ior, 1) := by decide +kernel
theorem dX4_seatOf_42 : decode cX4_seatOf 42 = .ok (.istore_n 3, 1) := by decide +kernel
theorem dX4_seatOf_43 : decode cX4_seatOf 43 = .ok (.iinc 5 1, 3) := by decide +kernel
theorem dX4_seatOf_46 : decode cX4_seatOf 46 = .ok (.goto (-37), 3) := by decide +kernel
theorem dX4_seatOf_49 : decode cX4_seatOf 49 = .ok (.iload 4, 2) := by decide +kernel
theorem dX4_seatOf_51 : decode cX4_seatOf 51 = .ok (.ireturn, 1) := by decide +kernel
theorem dX4_firstSeat_0 : decode cX4_firstSeat 0 = .ok (.iconst 0, 1) := by decide +kernel
theorem dX4_firstSeat_1 : decode cX4_firstSeat 1 = .ok (.istore 4, 2) := by decide +kernel
theorem dX4_firstSeat_3 : decode cX4_firstSeat 3 = .ok (.iload 4, 2) := by decide +kernel
theorem dX4_firstSeat_5 : decode cX4_firstSeat 5 = .ok (.aload_n 1, 1) := by decide +kernel
theorem dX4_firstSeat_6 : decode cX4_firstSeat 6 = .ok (.getfield 15, 3) := by decide +kernel
theorem dX4_firstSeat_9 : decode cX4_firstSeat 9 = .ok (.if_icmp .ge 58, 3) := by decide +kernel
theorem dX4_firstSeat_12 : decode cX4_firstSeat 12 = .ok (.iload 4, 2) := by decide +kernel
theorem dX4_firstSeat_14 : decode cX4_firstSeat 14 = .ok (.iload_n 3, 1) := by decide +kernel
theorem dX4_firstSeat_15 : decode cX4_firstSeat 15 = .ok (.invokestatic 35, 3) := by decide +kernel
theorem dX4_firstSeat_18 : decode cX4_firstSeat 18 = .ok (.ifCond .eq 43, 3) := by decide +kernel
theorem dX4_firstSeat_21 : decode cX4_firstSeat 21 = .ok (.aload_n 1, 1) := by decide +kernel
theorem dX4_firstSeat_22 : decode cX4_firstSeat 22 = .ok (.iload_n 2, 1) := by decide +kernel
theorem dX4_firstSeat_23 : decode cX4_firstSeat 23 = .ok (.iload 4, 2) := by decide +kernel
theorem dX4_firstSeat_25 : decode cX4_firstSeat 25 = .ok (.invokevirtual 28, 3) := by decide +kernel
theorem dX4_firstSeat_28 : decode cX4_firstSeat 28 = .ok (.aload_n 0, 1) := by decide +kernel
theorem dX4_firstSeat_29 : decode cX4_firstSeat 29 = .ok (.iload_n 2, 1) := by decide +kernel
theorem dX4_firstSeat_30 : decode cX4_firstSeat 30 = .ok (.iload_n 3, 1) := by decide +kernel
theorem dX4_firstSeat_31 : decode cX4_firstSeat 31 = .ok (.iconst 1, 1) := by decide +kernel
theorem dX4_firstSeat_32 : decode cX4_firstSeat 32 = .ok (.iload 4, 2) := by decide +kernel
theorem dX4_firstSeat_34 : decode cX4_firstSeat 34 = .ok (.ishl, 1) := by decide +kernel
theorem dX4_firstSeat_35 : decode cX4_firstSeat 35 = .ok (.ior, 1) := by decide +kernel
theorem dX4_firstSeat_36 : decode cX4_firstSeat 36 = .ok (.invokevirtual 24, 3) := by decide +kernel
theorem dX4_firstSeat_39 : decode cX4_firstSeat 39 = .ok (.iadd, 1) := by decide +kernel
theorem dX4_firstSeat_40 : decode cX4_firstSeat 40 = .ok (.istore 5, 2) := by decide +kernel
theorem dX4_firstSeat_42 : decode cX4_firstSeat 42 = .ok (.iload 5, 2) := by decide +kernel
theorem dX4_firstSeat_44 : decode cX4_firstSeat 44 = .ok (.aload_n 0, 1) := by decide +kernel
theorem dX4_firstSeat_45 : decode cX4_firstSeat 45 = .ok (.getfield 11, 3) := by decide +kernel
theorem dX4_firstSeat_48 : decode cX4_firstSeat 48 = .ok (.bipush 64, 2) := by decide +kernel
theorem dX4_firstSeat_50 : decode cX4_firstSeat 50 = .ok (.iload_n 2, 1) := by decide +kernel
theorem dX4_firstSeat_51 : decode cX4_firstSeat 51 = .ok (.imul, 1) := by decide +kernel
theorem dX4_firstSeat_52 : decode cX4_firstSeat 52 = .ok (.iload_n 3, 1) := by decide +kernel
theorem dX4_firstSeat_53 : decode cX4_firstSeat 53 = .ok (.iadd, 1) := by decide +kernel
theorem dX4_firstSeat_54 : decode cX4_firstSeat 54 = .ok (.iaload, 1) := by decide +kernel
theorem dX4_firstSeat_55 : decode cX4_firstSeat 55 = .ok (.if_icmp .ne 6, 3) := by decide +kernel
theorem dX4_firstSeat_58 : decode cX4_firstSeat 58 = .ok (.iload 4, 2) := by decide +kernel
theorem dX4_firstSeat_60 : decode cX4_firstSeat 60 = .ok (.ireturn, 1) := by decide +kernel
theorem dX4_firstSeat_61 : decode cX4_firstSeat 61 = .ok (.iinc 4 1, 3) := by decide +kernel
theorem dX4_firstSeat_64 : decode cX4_firstSeat 64 = .ok (.goto (-61), 3) := by decide +kernel
theorem dX4_firstSeat_67 : decode cX4_firstSeat 67 = .ok (.bipush (-9), 2) := by decide +kernel
theorem dX4_firstSeat_69 : decode cX4_firstSeat 69 = .ok (.ireturn, 1) := by decide +kernel
theorem dX4_mostBehind_0 : decode cX4_mostBehind 0 = .ok (.aload_n 0, 1) := by decide +kernel
theorem dX4_mostBehind_1 : decode cX4_mostBehind 1 = .ok (.getfield 11, 3) := by decide +kernel
theorem dX4_mostBehind_4 : decode cX4_mostBehind 4 = .ok (.bipush 64, 2) := by decide +kernel
theorem dX4_mostBehind_6 : decode cX4_mostBehind 6 = .ok (.iload_n 1, 1) := by decide +kernel
theorem dX4_mostBehind_7 : decode cX4_mostBehind 7 = .ok (.iconst 1, 1) := by decide +kernel
theorem dX4_mostBehind_8 : decode cX4_mostBehind 8 = .ok (.iadd, 1) := by decide +kernel
theorem dX4_mostBehind_9 : decode cX4_mostBehind 9 = .ok (.imul, 1) := by decide +kernel
theorem dX4_mostBehind_10 : decode cX4_mostBehind 10 = .ok (.iload_n 2, 1) := by decide +kernel
theorem dX4_mostBehind_11 : decode cX4_mostBehind 11 = .ok (.iadd, 1) := by decide +kernel
theorem dX4_mostBehind_12 : decode cX4_mostBehind 12 = .ok (.iaload, 1) := by decide +kernel
theorem dX4_mostBehind_13 : decode cX4_mostBehind 13 = .ok (.ireturn, 1) := by decide +kernel
theorem dX4_isOpen_0 : decode cX4_isOpen 0 = .ok (.iload_n 1, 1) := by decide +kernel
theorem dX4_isOpen_1 : decode cX4_isOpen 1 = .ok (.iconst 1, 1) := by decide +kernel
theorem dX4_isOpen_2 : decode cX4_isOpen 2 = .ok (.iload_n 0, 1) := by decide +kernel
theorem dX4_isOpen_3 : decode cX4_isOpen 3 = .ok (.ishl, 1) := by decide +kernel
theorem dX4_isOpen_4 : decode cX4_isOpen 4 = .ok (.iand, 1) := by decide +kernel
theorem dX4_isOpen_5 : decode cX4_isOpen 5 = .ok (.ifCond .ne 7, 3) := by decide +kernel
theorem dX4_isOpen_8 : decode cX4_isOpen 8 = .ok (.iconst 1, 1) := by decide +kernel
theorem dX4_isOpen_9 : decode cX4_isOpen 9 = .ok (.goto 4, 3) := by decide +kernel
theorem dX4_isOpen_12 : decode cX4_isOpen 12 = .ok (.iconst 0, 1) := by decide +kernel
theorem dX4_isOpen_13 : decode cX4_isOpen 13 = .ok (.ireturn, 1) := by decide +kernel
theorem dX5_init_0 : decode cX5_init 0 = .ok (.aload_n 0, 1) := by decide +kernel
theorem dX5_init_1 : decode cX5_init 1 = .ok (.invokespecial 1, 3) := by decide +kernel
theorem dX5_init_4 : decode cX5_init 4 = .ok (.aload_n 0, 1) := by decide +kernel
theorem dX5_init_5 : decode cX5_init 5 = .ok (.new 7, 3) := by decide +kernel
theorem dX5_init_8 : decode cX5_init 8 = .ok (.dup, 1) := by decide +kernel
theorem dX5_init_9 : decode cX5_init 9 = .ok (.invokespecial 9, 3) := by decide +kernel
theorem dX5_init_12 : decode cX5_init 12 = .ok (.putfield 10, 3) := by decide +kernel
theorem dX5_init_15 : decode cX5_init 15 = .ok (.aload_n 0, 1) := by decide +kernel
theorem dX5_init_16 : decode cX5_init 16 = .ok (.new 7, 3) := by decide +kernel
theorem dX5_init_19 : decode cX5_init 19 = .ok (.dup, 1) := by decide +kernel
theorem dX5_init_20 : decode cX5_init 20 = .ok (.invokespecial 9, 3) := by decide +kernel
theorem dX5_init_23 : decode cX5_init 23 = .ok (.putfield 16, 3) := by decide +kernel
theorem dX5_init_26 : decode cX5_init 26 = .ok (.aload_n 0, 1) := by decide +kernel
theorem dX5_init_27 : decode cX5_init 27 = .ok (.new 7, 3) := by decide +kernel
theorem dX5_init_30 : decode cX5_init 30 = .ok (.dup, 1) := by decide +kernel
theorem dX5_init_31 : decode cX5_init 31 = .ok (.invokespecial 9, 3) := by decide +kernel
theorem dX5_init_34 : decode cX5_init 34 = .ok (.putfield 19, 3) := by decide +kernel
theorem dX5_init_37 : decode cX5_init 37 = .ok (.aload_n 0, 1) := by decide +kernel
theorem dX5_init_38 : decode cX5_init 38 = .ok (.new 22, 3) := by decide +kernel
theorem dX5_init_41 : decode cX5_init 41 = .ok (.dup, 1) := by decide +kernel
theorem dX5_init_42 : decode cX5_init 42 = .ok (.invokespecial 24, 3) := by decide +kernel
theorem dX5_init_45 : decode cX5_init 45 = .ok (.putfield 25, 3) := by decide +kernel
theorem dX5_init_48 : decode cX5_init 48 = .ok (.aload_n 0, 1) := by decide +kernel
theorem dX5_init_49 : decode cX5_init 49 = .ok (.new 29, 3) := by decide +kernel
theorem dX5_init_52 : decode cX5_init 52 = .ok (.dup, 1) := by decide +kernel
theorem dX5_init_53 : decode cX5_init 53 = .ok (.invokespecial 31, 3) := by decide +kernel
theorem dX5_init_56 : decode cX5_init 56 = .ok (.putfield 32, 3) := by decide +kernel
theorem dX5_init_59 : decode cX5_init 59 = .ok (.aload_n 0, 1) := by decide +kernel
theorem dX5_init_60 : decode cX5_init 60 = .ok (.bipush 16, 2) := by decide +kernel
theorem dX5_init_62 : decode cX5_init 62 = .ok (.newarray .int, 2) := by decide +kernel
theorem dX5_init_64 : decode cX5_init 64 = .ok (.putfield 36, 3) := by decide +kernel
theorem dX5_init_67 : decode cX5_init 67 = .ok (.aload_n 0, 1) := by decide +kernel
theorem dX5_init_68 : decode cX5_init 68 = .ok (.bipush 7, 2) := by decide +kernel
theorem dX5_init_70 : decode cX5_init 70 = .ok (.newarray .int, 2) := by decide +kernel
theorem dX5_init_72 : decode cX5_init 72 = .ok (.putfield 40, 3) := by decide +kernel
theorem dX5_init_75 : decode cX5_init 75 = .ok (.return_, 1) := by decide +kernel
theorem dX5_letter_0 : decode cX5_letter 0 = .ok (.iload_n 1, 1) := by decide +kernel
theorem dX5_letter_1 : decode cX5_letter 1 = .ok (.iconst 0, 1) := by decide +kernel
theorem dX5_letter_2 : decode cX5_letter 2 = .ok (.sipush 255, 3) := by decide +kernel
theorem dX5_letter_5 : decode cX5_letter 5 = .ok (.invokestatic 43, 3) := by decide +kernel
theorem dX5_letter_8 : decode cX5_letter 8 = .ok (.aload_n 0, 1) := by decide +kernel
theorem dX5_letter_9 : decode cX5_letter 9 = .ok (.getfield 25, 3) := by decide +kernel
theorem dX5_letter_12 : decode cX5_letter 12 = .ok (.invokevirtual 47, 3) := by decide +kernel
theorem dX5_letter_15 : decode cX5_letter 15 = .ok (.ifCond .ne 7, 3) := by decide +kernel
theorem dX5_letter_18 : decode cX5_letter 18 = .ok (.iconst 1, 1) := by decide +kernel
theorem dX5_letter_19 : decode cX5_letter 19 = .ok (.goto 4, 3) := by decide +kernel
theorem dX5_letter_22 : decode cX5_letter 22 = .ok (.iconst 0, 1) := by decide +kernel
theorem dX5_letter_23 : decode cX5_letter 23 = .ok (.invokestatic 51, 3) := by decide +kernel
theorem dX5_letter_26 : decode cX5_letter 26 = .ok (.iconst 0, 1) := by decide +kernel
theorem dX5_letter_27 : decode cX5_letter 27 = .ok (.invokestatic 55, 3) := by decide +kernel
theorem dX5_letter_30 : decode cX5_letter 30 = .ok (.istore_n 2, 1) := by decide +kernel
theorem dX5_letter_31 : decode cX5_letter 31 = .ok (.iload_n 2, 1) := by decide +kernel
theorem dX5_letter_32 : decode cX5_letter 32 = .ok (.ifCond .eq 9, 3) := by decide +kernel
theorem dX5_letter_35 : decode cX5_letter 35 = .ok (.aload_n 0, 1) := by decide +kernel
theorem dX5_letter_36 : decode cX5_letter 36 = .ok (.iload_n 2, 1) := by decide +kernel
theorem dX5_letter_37 : decode cX5_letter 37 = .ok (.invokevirtual 58, 3) := by decide +kernel
theorem dX5_letter_40 : decode cX5_letter 40 = .ok (.ireturn, 1) := by decide +kernel
theorem dX5_letter_41 : decode cX5_letter 41 = .ok (.aload_n 0, 1) := by decide +kernel
theorem dX5_letter_42 : decode cX5_letter 42 = .ok (.getfield 25, 3) := by decide +kernel
theorem dX5_letter_45 : decode cX5_letter 45 = .ok (.iload_n 1, 1) := by decide +kernel
theorem dX5_letter_46 : decode cX5_letter 46 = .ok (.invokevirtual 62, 3) := by decide +kernel
theorem dX5_letter_49 : decode cX5_letter 49 = .ok (.aload_n 0, 1) := by decide +kernel
theorem dX5_letter_50 : decode cX5_letter 50 = .ok (.getfield 25, 3) := by decide +kernel
theorem dX5_letter_53 : decode cX5_letter 53 = .ok (.getfield 66, 3) := by decide +kernel
theorem dX5_letter_56 : decode cX5_letter 56 = .ok (.ireturn, 1) := by decide +kernel
theorem dX5_land_0 : decode cX5_land 0 = .ok (.aload_n 0, 1) := by decide +kernel
theorem dX5_land_1 : decode cX5_land 1 = .ok (.getfield 19, 3) := by decide +kernel
theorem dX5_land_4 : decode cX5_land 4 = .ok (.aload_n 0, 1) := by decide +kernel
theorem dX5_land_5 : decode cX5_land 5 = .ok (.getfield 10, 3) := by decide +kernel
theorem dX5_land_8 : decode cX5_land 8 = .ok (.invokevirtual 70, 3) := by decide +kernel
theorem dX5_land_11 : decode cX5_land 11 = .ok (.aload_n 0, 1) := by decide +kernel
theorem dX5_land_12 : decode cX5_land 12 = .ok (.getfield 25, 3) := by decide +kernel
theorem dX5_land_15 : decode cX5_land 15 = .ok (.aload_n 0, 1) := by decide +kernel
theorem dX5_land_16 : decode cX5_land 16 = .ok (.getfield 19, 3) := by decide +kernel
theorem dX5_land_19 : decode cX5_land 19 = .ok (.invokevirtual 74, 3) := by decide +kernel
theorem dX5_land_22 : decode cX5_land 22 = .ok (.istore_n 1, 1) := by decide +kernel
theorem dX5_land_23 : decode cX5_land 23 = .ok (.iload_n 1, 1) := by decide +kernel
theorem dX5_land_24 : decode cX5_land 24 = .ok (.ifCond .lt 14, 3) := by decide +kernel
theorem dX5_land_27 : decode cX5_land 27 = .ok (.aload_n 0, 1) := by decide +kernel
theorem dX5_land_28 : decode cX5_land 28 = .ok (.getfield 10, 3) := by decide +kernel
theorem dX5_land_31 : decode cX5_land 31 = .ok (.aload_n 0, 1) := by decide +kernel
theorem dX5_land_32 : decode cX5_land 32 = .ok (.getfield 19, 3) := by decide +kernel
theorem dX5_land_35 : decode cX5_land 35 = .ok (.invokevirtual 70, 3) := by decide +kernel
theorem dX5_land_38 : decode cX5_land 38 = .ok (.aload_n 0, 1) := by decide +kernel
theorem dX5_land_39 : decode cX5_land 39 = .ok (.getfield 25, 3) := by decide +kernel
theorem dX5_land_42 : decode cX5_land 42 = .ok (.iconst 0, 1) := by decide +kernel
theorem dX5_land_43 : decode cX5_land 43 = .ok (.putfield 66, 3) := by decide +kernel
theorem dX5_land_46 : decode cX5_land 46 = .ok (.iload_n 1, 1) := by decide +kernel
theorem dX5_land_47 : decode cX5_land 47 = .ok (.ireturn, 1) := by decide +kernel
theorem dX5_farm_0 : decode cX5_farm 0 = .ok (.aload_n 0, 1) := by decide +kernel
theorem dX5_farm_1 : decode cX5_farm 1 = .ok (.getfield 10, 3) := by decide +kernel
theorem dX5_farm_4 : decode cX5_farm 4 = .ok (.iload_n 1, 1) := by decide +kernel
theorem dX5_farm_5 : decode cX5_farm 5 = .ok (.invokevirtual 78, 3) := by decide +kernel
theorem dX5_farm_8 : decode cX5_farm 8 = .ok (.invokestatic 82, 3) := by decide +kernel
theorem dX5_farm_11 : decode cX5_farm 11 = .ok (.iload_n 2, 1) := by decide +kernel
theorem dX5_farm_12 : decode cX5_farm 12 = .ok (.iconst 4, 1) := by decide +kernel
theorem dX5_farm_13 : decode cX5_farm 13 = .ok (.invokestatic 85, 3) := by decide +kernel
theorem dX5_farm_16 : decode cX5_farm 16 = .ok (.iconst 0, 1) := by decide +kernel
theorem dX5_farm_17 : decode cX5_farm 17 = .ok (.invokestatic 55, 3) := by decide +kernel
theorem dX5_farm_20 : decode cX5_farm 20 = .ok (.istore_n 3, 1) := by decide +kernel
theorem dX5_farm_21 : decode cX5_farm 21 = .ok (.iload_n 3, 1) := by decide +kernel
theorem dX5_farm_22 : decode cX5_farm 22 = .ok (.ifCond .eq 9, 3) := by decide +kernel
theorem dX5_farm_25 : decode cX5_farm 25 = .ok (.aload_n 0, 1) := by decide +kernel
theorem dX5_farm_26 : decode cX5_farm 26 = .ok (.iload_n 3, 1) := by decide +kernel
theorem dX5_farm_27 : decode cX5_farm 27 = .ok (.invokevirtual 58, 3) := by decide +kernel
theorem dX5_farm_30 : decode cX5_farm 30 = .ok (.ireturn, 1) := by decide +kernel
theorem dX5_farm_31 : decode cX5_farm 31 = .ok (.iload_n 2, 1) := by decide +kernel
theorem dX5_farm_32 : decode cX5_farm 32 = .ok (.iconst 3, 1) := by decide +kernel
theorem dX5_farm_33 : decode cX5_farm 33 = .ok (.if_icmp .ne 12, 3) := by decide +kernel
theorem dX5_farm_36 : decode cX5_farm 36 = .ok (.aload_n 0, 1) := by decide +kernel
theorem dX5_farm_37 : decode cX5_farm 37 = .ok (.getfield 10, 3) := by decide +kernel
theorem dX5_farm_40 : decode cX5_farm 40 = .ok (.iload_n 1, 1) := by decide +kernel
theorem dX5_farm_41 : decode cX5_farm 41 = .ok (.invokevirtual 89, 3) := by decide +kernel
theorem dX5_farm_44 : decode cX5_farm 44 = .ok (.ireturn, 1) := by decide +kernel
theorem dX5_farm_45 : decode cX5_farm 45 = .ok (.iload_n 2, 1) := by decide +kernel
theorem dX5_farm_46 : decode cX5_farm 46 = .ok (.iconst 4, 1) := by decide +kernel
theorem dX5_farm_47 : decode cX5_farm 47 = .ok (.if_icmp .ne 14, 3) := by decide +kernel
theorem dX5_farm_50 : decode cX5_farm 50 = .ok (.aload_n 0, 1) := by decide +kernel
theorem dX5_farm_51 : decode cX5_farm 51 = .ok (.getfield 10, 3) := by decide +kernel
theorem dX5_farm_54 : decode cX5_farm 54 = .ok (.iload_n 1, 1) := by decide +kernel
theorem dX5_farm_55 : decode cX5_farm 55 = .ok (.invokevirtual 92, 3) := by decide +kernel
theorem dX5_farm_58 : decode cX5_farm 58 = .ok (.goto 12, 3) := by decide +kernel
theorem dX5_farm_61 : decode cX5_farm 61 = .ok (.aload_n 0, 1) := by decide +kernel
theorem dX5_farm_62 : decode cX5_farm 62 = .ok (.getfield 10, 3) := by decide +kernel
theorem dX5_farm_65 : decode cX5_farm 65 = .ok (.iload_n 1, 1) := by decide +kernel
theorem dX5_farm_66 : decode cX5_farm 66 = .ok (.iload_n 2, 1) := by decide +kernel
theorem dX5_farm_67 : decode cX5_farm 67 = .ok (.invokevirtual 95, 3) := by decide +kernel
theorem dX5_farm_70 : decode cX5_farm 70 = .ok (.ireturn, 1) := by decide +kernel
theorem dX5_farmer_0 : decode cX5_farmer 0 = .ok (.aload_n 0, 1) := by decide +kernel
theorem dX5_farmer_1 : decode cX5_farmer 1 = .ok (.getfield 10, 3) := by decide +kernel
theorem dX5_farmer_4 : decode cX5_farmer 4 = .ok (.iload_n 1, 1) := by decide +kernel
theorem dX5_farmer_5 : decode cX5_farmer 5 = .ok (.invokevirtual 98, 3) := by decide +kernel
theorem dX5_farmer_8 : decode cX5_farmer 8 = .ok (.invokestatic 82, 3) := by decide +kernel
theorem dX5_farmer_11 : decode cX5_farmer 11 = .ok (.iload_n 2, 1) := by decide +kernel
theorem dX5_farmer_12 : decode cX5_farmer 12 = .ok (.iconst 5, 1) := by decide +kernel
theorem dX5_farmer_13 : decode cX5_farmer 13 = .ok (.invokestatic 85, 3) := by decide +kernel
theorem dX5_farmer_16 : decode cX5_farmer 16 = .ok (.iconst 0, 1) := by decide +kernel
theorem dX5_farmer_17 : decode cX5_farmer 17 = .ok (.invokestatic 55, 3) := by decide +kernel
theorem dX5_farmer_20 : decode cX5_farmer 20 = .ok (.istore_n 3, 1) := by decide +kernel
theorem dX5_farmer_21 : decode cX5_farmer 21 = .ok (.iload_n 3, 1) := by decide +kernel
theorem dX5_farmer_22 : decode cX5_farmer 22 = .ok (.ifCond .eq 9, 3) := by decide +kernel
theorem dX5_farmer_25 : decode cX5_farmer 25 = .ok (.aload_n 0, 1) := by decide +kernel
theorem dX5_farmer_26 : decode cX5_farmer 26 = .ok (.iload_n 3, 1) := by decide +kernel
theorem dX5_farmer_27 : decode cX5_farmer 27 = .ok (.invokevirtual 58, 3) := by decide +kernel
theorem dX5_farmer_30 : decode cX5_farmer 30 = .ok (.ireturn, 1) := by decide +kernel
theorem dX5_farmer_31 : decode cX5_farmer 31 = .ok (.iload_n 2, 1) := by decide +kernel
theorem dX5_farmer_32 : decode cX5_farmer 32 = .ok (.tableswitch 85 0 4 #[36, 46, 56, 66, 76], 36) := by decide +kernel
theorem dX5_farmer_68 : decode cX5_farmer 68 = .ok (.aload_n 0, 1) := by decide +kernel
theorem dX5_farmer_69 : decode cX5_farmer 69 = .ok (.getfield 10, 3) := by decide +kernel
theorem dX5_farmer_72 : decode cX5_farmer 72 = .ok (.getfield 101, 3) := by decide +kernel
theorem dX5_farmer_75 : decode cX5_farmer 75 = .ok (.iload_n 1, 1) := by decide +kernel
theorem dX5_farmer_76 : decode cX5_farmer 76 = .ok (.iaload, 1) := by decide +kernel
theorem dX5_farmer_77 : decode cX5_farmer 77 = .ok (.ireturn, 1) := by decide +kernel
theorem dX5_farmer_78 : decode cX5_farmer 78 = .ok (.aload_n 0, 1) := by decide +kernel
theorem dX5_farmer_79 : decode cX5_farmer 79 = .ok (.getfield 10, 3) := by decide +kernel
theorem dX5_farmer_82 : decode cX5_farmer 82 = .ok (.getfield 104, 3) := by decide +kernel
theorem dX5_farmer_85 : decode cX5_farmer 85 = .ok (.iload_n 1, 1) := by decide +kernel
theorem dX5_farmer_86 : decode cX5_farmer 86 = .ok (.iaload, 1) := by decide +kernel
theorem dX5_farmer_87 : decode cX5_farmer 87 = .ok (.ireturn, 1) := by decide +kernel
theorem dX5_farmer_88 : decode cX5_farmer 88 = .ok (.aload_n 0, 1) := by decide +kernel
theorem dX5_farmer_89 : decode cX5_farmer 89 = .ok (.getfield 10, 3) := by decide +kernel
theorem dX5_farmer_92 : decode cX5_farmer 92 = .ok (.getfield 107, 3) := by decide +kernel
theorem dX5_farmer_95 : decode cX5_farmer 95 = .ok (.iload_n 1, 1) := by decide +kernel
theorem dX5_farmer_96 : decode cX5_farmer 96 = .ok (.iaload, 1) := by decide +kernel
theorem dX5_farmer_97 : decode cX5_farmer 97 = .ok (.ireturn, 1) := by decide +kernel
theorem dX5_farmer_98 : decode cX5_farmer 98 = .ok (.aload_n 0, 1) := by decide +kernel
theorem dX5_farmer_99 : decode cX5_farmer 99 = .ok (.getfield 10, 3) := by decide +kernel
theorem dX5_farmer_102 : decode cX5_farmer 102 = .ok (.getfield 110, 3) := by decide +kernel
theorem dX5_farmer_105 : decode cX5_farmer 105 = .ok (.iload_n 1, 1) := by decide +kernel
theorem dX5_farmer_106 : decode cX5_farmer 106 = .ok (.iaload, 1) := by decide +kernel
theorem dX5_farmer_107 : decode cX5_farmer 107 = .ok (.ireturn, 1) := by decide +kernel
theorem dX5_farmer_108 : decode cX5_farmer 108 = .ok (.aload_n 0, 1) := by decide +kernel
theorem dX5_farmer_109 : decode cX5_farmer 109 = .ok (.getfield 10, 3) := by decide +kernel
theorem dX5_farmer_112 : decode cX5_farmer 112 = .ok (.iload_n 1, 1) := by decide +kernel
theorem dX5_farmer_113 : decode cX5_farmer 113 = .ok (.invokevirtual 113, 3) := by decide +kernel
theorem dX5_farmer_116 : decode cX5_farmer 116 = .ok (.ireturn, 1) := by decide +kernel
theorem dX5_farmer_117 : decode cX5_farmer 117 = .ok (.aload_n 0, 1) := by decide +kernel
theorem dX5_farmer_118 : decode cX5_farmer 118 = .ok (.getfield 10, 3) := by decide +kernel
theorem dX5_farmer_121 : decode cX5_farmer 121 = .ok (.getfield 101, 3) := by decide +kernel
theorem dX5_farmer_124 : decode cX5_farmer 124 = .ok (.iload_n 1, 1) := by decide +kernel
theorem dX5_farmer_125 : decode cX5_farmer 125 = .ok (.iaload, 1) := by decide +kernel
theorem dX5_farmer_126 : decode cX5_farmer 126 = .ok (.invokestatic 116, 3) := by decide +kernel
theorem dX5_farmer_129 : decode cX5_farmer 129 = .ok (.ireturn, 1) := by decide +kernel
theorem dX5_sits_0 : decode cX5_sits 0 = .ok (.aload_n 0, 1) := by decide +kernel
theorem dX5_sits_1 : decode cX5_sits 1 = .ok (.getfield 10, 3) := by decide +kernel
theorem dX5_sits_4 : decode cX5_sits 4 = .ok (.iload_n 1, 1) := by decide +kernel
theorem dX5_sits_5 : decode cX5_sits 5 = .ok (.invokevirtual 98, 3) := by decide +kernel
theorem dX5_sits_8 : decode cX5_sits 8 = .ok (.ifCond .eq 18, 3) := by decide +kernel
theorem dX5_sits_11 : decode cX5_sits 11 = .ok (.aload_n 0, 1) := by decide +kernel
theorem dX5_sits_12 : decode cX5_sits 12 = .ok (.getfield 10, 3) := by decide +kernel
theorem dX5_sits_15 : decode cX5_sits 15 = .ok (.iload_n 2, 1) := by decide +kernel
theorem dX5_sits_16 : decode cX5_sits 16 = .ok (.invokevirtual 78, 3) := by decide +kernel
theorem dX5_sits_19 : decode cX5_sits 19 = .ok (.ifCond .eq 7, 3) := by decide +kernel
theorem dX5_sits_22 : decode cX5_sits 22 = .ok (.iconst 1, 1) := by decide +kernel
theorem dX5_sits_23 : decode cX5_sits 23 = .ok (.goto 4, 3) := by decide +kernel
theorem dX5_sits_26 : decode cX5_sits 26 = .ok (.iconst 0, 1) := by decide +kernel
theorem dX5_sits_27 : decode cX5_sits 27 = .ok (.invokestatic 82, 3) := by decide +kernel
theorem dX5_sits_30 : decode cX5_sits 30 = .ok (.istore_n 3, 1) := by decide +kernel
theorem dX5_sits_31 : decode cX5_sits 31 = .ok (.iload_n 3, 1) := by decide +kernel
theorem dX5_sits_32 : decode cX5_sits 32 = .ok (.ifCond .eq 9, 3) := by decide +kernel
theorem dX5_sits_35 : decode cX5_sits 35 = .ok (.aload_n 0, 1) := by decide +kernel
theorem dX5_sits_36 : decode cX5_sits 36 = .ok (.iload_n 3, 1) := by decide +kernel
theorem dX5_sits_37 : decode cX5_sits 37 = .ok (.invokevirtual 58, 3) := by decide +kernel
theorem dX5_sits_40 : decode cX5_sits 40 = .ok (.ireturn, 1) := by decide +kernel
theorem dX5_sits_41 : decode cX5_sits 41 = .ok (.aload_n 0, 1) := by decide +kernel
theorem dX5_sits_42 : decode cX5_sits 42 = .ok (.getfield 10, 3) := by decide +kernel
theorem dX5_sits_45 : decode cX5_sits 45 = .ok (.iload_n 2, 1) := by decide +kernel
theorem dX5_sits_46 : decode cX5_sits 46 = .ok (.invokevirtual 92, 3) := by decide +kernel
theorem dX5_sits_49 : decode cX5_sits 49 = .ok (.istore 4, 2) := by decide +kernel
theorem dX5_sits_51 : decode cX5_sits 51 = .ok (.aload_n 0, 1) := by decide +kernel
theorem dX5_sits_52 : decode cX5_sits 52 = .ok (.getfield 10, 3) := by decide +kernel
theorem dX5_sits_55 : decode cX5_sits 55 = .ok (.iload_n 1, 1) := by decide +kernel
theorem dX5_sits_56 : decode cX5_sits 56 = .ok (.iload_n 2, 1) := by decide +kernel
theorem dX5_sits_57 : decode cX5_sits 57 = .ok (.invokevirtual 121, 3) := by decide +kernel
theorem dX5_sits_60 : decode cX5_sits 60 = .ok (.iload 4, 2) := by decide +kernel
theorem dX5_sits_62 : decode cX5_sits 62 = .ok (.ireturn, 1) := by decide +kernel
theorem dX5_leaves_0 : decode cX5_leaves 0 = .ok (.aload_n 0, 1) := by decide +kernel
theorem dX5_leaves_1 : decode cX5_leaves 1 = .ok (.getfield 10, 3) := by decide +kernel
theorem dX5_leaves_4 : decode cX5_leaves 4 = .ok (.iload_n 1, 1) := by decide +kernel
theorem dX5_leaves_5 : decode cX5_leaves 5 = .ok (.invokevirtual 98, 3) := by decide +kernel
theorem dX5_leaves_8 : decode cX5_leaves 8 = .ok (.ifCond .ne 9, 3) := by decide +kernel
theorem dX5_leaves_11 : decode cX5_leaves 11 = .ok (.aload_n 0, 1) := by decide +kernel
theorem dX5_leaves_12 : decode cX5_leaves 12 = .ok (.iconst (-1), 1) := by decide +kernel
theorem dX5_leaves_13 : decode cX5_leaves 13 = .ok (.invokevirtual 58, 3) := by decide +kernel
theorem dX5_leaves_16 : decode cX5_leaves 16 = .ok (.ireturn, 1) := by decide +kernel
theorem dX5_leaves_17 : decode cX5_leaves 17 = .ok (.aload_n 0, 1) := by decide +kernel
theorem dX5_leaves_18 : decode cX5_leaves 18 = .ok (.getfield 10, 3) := by decide +kernel
theorem dX5_leaves_21 : decode cX5_leaves 21 = .ok (.getfield 110, 3) := by decide +kernel
theorem dX5_leaves_24 : decode cX5_leaves 24 = .ok (.iload_n 1, 1) := by decide +kernel
theorem dX5_leaves_25 : decode cX5_leaves 25 = .ok (.iaload, 1) := by decide +kernel
theorem dX5_leaves_26 : decode cX5_leaves 26 = .ok (.istore_n 2, 1) := by decide +kernel
theorem dX5_leaves_27 : decode cX5_leaves 27 = .ok (.iload_n 2, 1) := by decide +kernel
theorem dX5_leaves_28 : decode cX5_leaves 28 = .ok (.bipush (-9), 2) := by decide +kernel
theorem dX5_leaves_30 : decode cX5_leaves 30 = .ok (.if_icmp .ne 10, 3) := by decide +kernel
theorem dX5_leaves_33 : decode cX5_leaves 33 = .ok (.aload_n 0, 1) := by decide +kernel
theorem dX5_leaves_34 : decode cX5_leaves 34 = .ok (.bipush (-3), 2) := by decide +kernel
theorem dX5_leaves_36 : decode cX5_leaves 36 = .ok (.invokevirtual 58, 3) := by decide +kernel
theorem dX5_leaves_39 : decode cX5_leaves 39 = .ok (.ireturn, 1) := by decide +kernel
theorem dX5_leaves_40 : decode cX5_leaves 40 = .ok (.aload_n 0, 1) := by decide +kernel
theorem dX5_leaves_41 : decode cX5_leaves 41 = .ok (.getfield 10, 3) := by decide +kernel
theorem dX5_leaves_44 : decode cX5_leaves 44 = .ok (.getfield 110, 3) := by decide +kernel
theorem dX5_leaves_47 : decode cX5_leaves 47 = .ok (.iload_n 1, 1) := by decide +kernel
theorem dX5_leaves_48 : decode cX5_leaves 48 = .ok (.bipush (-9), 2) := by decide +kernel
theorem dX5_leaves_50 : decode cX5_leaves 50 = .ok (.iastore, 1) := by decide +kernel
theorem dX5_leaves_51 : decode cX5_leaves 51 = .ok (.iload_n 2, 1) := by decide +kernel
theorem dX5_leaves_52 : decode cX5_leaves 52 = .ok (.ireturn, 1) := by decide +kernel
theorem dX5_hearts_0 : decode cX5_hearts 0 = .ok (.aload_n 0, 1) := by decide +kernel
theorem dX5_hearts_1 : decode cX5_hearts 1 = .ok (.getfield 10, 3) := by decide +kernel
theorem dX5_hearts_4 : decode cX5_hearts 4 = .ok (.iload_n 1, 1) := by decide +kernel
theorem dX5_hearts_5 : decode cX5_hearts 5 = .ok (.invokevirtual 78, 3) := by decide +kernel
theorem dX5_hearts_8 : decode cX5_hearts 8 = .ok (.ifCond .eq 14, 3) := by decide +kernel
theorem dX5_hearts_11 : decode cX5_hearts 11 = .ok (.iload_n 2, 1) := by decide +kernel
theorem dX5_hearts_12 : decode cX5_hearts 12 = .ok (.invokestatic 125, 3) := by decide +kernel
theorem dX5_hearts_15 : decode cX5_hearts 15 = .ok (.ifCond .eq 7, 3) := by decide +kernel
theorem dX5_hearts_18 : decode cX5_hearts 18 = .ok (.iconst 1, 1) := by decide +kernel
theorem dX5_hearts_19 : decode cX5_hearts 19 = .ok (.goto 4, 3) := by decide +kernel
theorem dX5_hearts_22 : decode cX5_hearts 22 = .ok (.iconst 0, 1) := by decide +kernel
theorem dX5_hearts_23 : decode cX5_hearts 23 = .ok (.invokestatic 82, 3) := by decide +kernel
theorem dX5_hearts_26 : decode cX5_hearts 26 = .ok (.iload_n 3, 1) := by decide +kernel
theorem dX5_hearts_27 : decode cX5_hearts 27 = .ok (.iconst 0, 1) := by decide +kernel
theorem dX5_hearts_28 : decode cX5_hearts 28 = .ok (.bipush 30, 2) := by decide +kernel
theorem dX5_hearts_30 : decode cX5_hearts 30 = .ok (.invokestatic 43, 3) := by decide +kernel
theorem dX5_hearts_33 : decode cX5_hearts 33 = .ok (.iconst 0, 1) := by decide +kernel
theorem dX5_hearts_34 : decode cX5_hearts 34 = .ok (.invokestatic 55, 3) := by decide +kernel
theorem dX5_hearts_37 : decode cX5_hearts 37 = .ok (.istore 4, 2) := by decide +kernel
theorem dX5_hearts_39 : decode cX5_hearts 39 = .ok (.iload 4, 2) := by decide +kernel
theorem dX5_hearts_41 : decode cX5_hearts 41 = .ok (.ifCond .eq 10, 3) := by decide +kernel
theorem dX5_hearts_44 : decode cX5_hearts 44 = .ok (.aload_n 0, 1) := by decide +kernel
theorem dX5_hearts_45 : decode cX5_hearts 45 = .ok (.iload 4, 2) := by decide +kernel
theorem dX5_hearts_47 : decode cX5_hearts 47 = .ok (.invokevirtual 58, 3) := by decide +kernel
theorem dX5_hearts_50 : decode cX5_hearts 50 = .ok (.ireturn, 1) := by decide +kernel
theorem dX5_hearts_51 : decode cX5_hearts 51 = .ok (.aload_n 0, 1) := by decide +kernel
theorem dX5_hearts_52 : decode cX5_hearts 52 = .ok (.getfield 10, 3) := by decide +kernel
theorem dX5_hearts_55 : decode cX5_hearts 55 = .ok (.iload_n 1, 1) := by decide +kernel
theorem dX5_hearts_56 : decode cX5_hearts 56 = .ok (.iload_n 2, 1) := by decide +kernel
theorem dX5_hearts_57 : decode cX5_hearts 57 = .ok (.invokevirtual 95, 3) := by decide +kernel
theorem dX5_hearts_60 : decode cX5_hearts 60 = .ok (.istore 5, 2) := by decide +kernel
theorem dX5_hearts_62 : decode cX5_hearts 62 = .ok (.aload_n 0, 1) := by decide +kernel
theorem dX5_hearts_63 : decode cX5_hearts 63 = .ok (.getfield 10, 3) := by decide +kernel
theorem dX5_hearts_66 : decode cX5_hearts 66 = .ok (.iload_n 1, 1) := by decide +kernel
theorem dX5_hearts_67 : decode cX5_hearts 67 = .ok (.iload_n 2, 1) := by decide +kernel
theorem dX5_hearts_68 : decode cX5_hearts 68 = .ok (.iload_n 3, 1) := by decide +kernel
theorem dX5_hearts_69 : decode cX5_hearts 69 = .ok (.invokevirtual 128, 3) := by decide +kernel
theorem dX5_hearts_72 : decode cX5_hearts 72 = .ok (.iload 5, 2) := by decide +kernel
theorem dX5_hearts_74 : decode cX5_hearts 74 = .ok (.ireturn, 1) := by decide +kernel
theorem dX5_steps_0 : decode cX5_steps 0 = .ok (.iload_n 1, 1) := by decide +kernel
theorem dX5_steps_1 : decode cX5_steps 1 = .ok (.iconst 0, 1) := by decide +kernel
theorem dX5_steps_2 : decode cX5_steps 2 = .ok (.iconst 5, 1) := by decide +kernel
theorem dX5_steps_3 : decode cX5_steps 3 = .ok (.invokestatic 43, 3) := by decide +kernel
theorem dX5_steps_6 : decode cX5_steps 6 = .ok (.istore_n 2, 1) := by decide +kernel
theorem dX5_steps_7 : decode cX5_steps 7 = .ok (.iload_n 2, 1) := by decide +kernel
theorem dX5_steps_8 : decode cX5_steps 8 = .ok (.ifCond .eq 9, 3) := by decide +kernel
theorem dX5_steps_11 : decode cX5_steps 11 = .ok (.aload_n 0, 1) := by decide +kernel
theorem dX5_steps_12 : decode cX5_steps 12 = .ok (.iload_n 2, 1) := by decide +kernel
theorem dX5_steps_13 : decode cX5_steps 13 = .ok (.invokevirtual 58, 3) := by decide +kernel
theorem dX5_steps_16 : decode cX5_steps 16 = .ok (.ireturn, 1) := by decide +kernel
theorem dX5_steps_17 : decode cX5_steps 17 = .ok (.aload_n 0, 1) := by decide +kernel
theorem dX5_steps_18 : decode cX5_steps 18 = .ok (.getfield 10, 3) := by decide +kernel
theorem dX5_steps_21 : decode cX5_steps 21 = .ok (.getfield 132, 3) := by decide +kernel
theorem dX5_steps_24 : decode cX5_steps 24 = .ok (.istore_n 3, 1) := by decide +kernel
theorem dX5_steps_25 : decode cX5_steps 25 = .ok (.aload_n 0, 1) := by decide +kernel
theorem dX5_steps_26 : decode cX5_steps 26 = .ok (.getfield 10, 3) := by decide +kernel
theorem dX5_steps_29 : decode cX5_steps 29 = .ok (.iload_n 1, 1) := by decide +kernel
theorem dX5_steps_30 : decode cX5_steps 30 = .ok (.putfield 132, 3) := by decide +kernel
theorem dX5_steps_33 : decode cX5_steps 33 = .ok (.iload_n 3, 1) := by decide +kernel
theorem dX5_steps_34 : decode cX5_steps 34 = .ok (.ireturn, 1) := by decide +kernel
theorem dX5_tires_0 : decode cX5_tires 0 = .ok (.aload_n 0, 1) := by decide +kernel
theorem dX5_tires_1 : decode cX5_tires 1 = .ok (.getfield 10, 3) := by decide +kernel
theorem dX5_tires_4 : decode cX5_tires 4 = .ok (.iload_n 1, 1) := by decide +kernel
theorem dX5_tires_5 : decode cX5_tires 5 = .ok (.invokevirtual 98, 3) := by decide +kernel
theorem dX5_tires_8 : decode cX5_tires 8 = .ok (.invokestatic 82, 3) := by decide +kernel
theorem dX5_tires_11 : decode cX5_tires 11 = .ok (.iload_n 2, 1) := by decide +kernel
theorem dX5_tires_12 : decode cX5_tires 12 = .ok (.iconst 0, 1) := by decide +kernel
theorem dX5_tires_13 : decode cX5_tires 13 = .ok (.bipush 20, 2) := by decide +kernel
theorem dX5_tires_15 : decode cX5_tires 15 = .ok (.invokestatic 43, 3) := by decide +kernel
theorem dX5_tires_18 : decode cX5_tires 18 = .ok (.iconst 0, 1) := by decide +kernel
theorem dX5_tires_19 : decode cX5_tires 19 = .ok (.invokestatic 55, 3) := by decide +kernel
theorem dX5_tires_22 : decode cX5_tires 22 = .ok (.istore_n 3, 1) := by decide +kernel
theorem dX5_tires_23 : decode cX5_tires 23 = .ok (.iload_n 3, 1) := by decide +kernel
theorem dX5_tires_24 : decode cX5_tires 24 = .ok (.ifCond .eq 9, 3) := by decide +kernel
theorem dX5_tires_27 : decode cX5_tires 27 = .ok (.aload_n 0, 1) := by decide +kernel
theorem dX5_tires_28 : decode cX5_tires 28 = .ok (.iload_n 3, 1) := by decide +kernel
theorem dX5_tires_29 : decode cX5_tires 29 = .ok (.invokevirtual 58, 3) := by decide +kernel
theorem dX5_tires_32 : decode cX5_tires 32 = .ok (.ireturn, 1) := by decide +kernel
theorem dX5_tires_33 : decode cX5_tires 33 = .ok (.aload_n 0, 1) := by decide +kernel
theorem dX5_tires_34 : decode cX5_tires 34 = .ok (.getfield 10, 3) := by decide +kernel
theorem dX5_tires_37 : decode cX5_tires 37 = .ok (.getfield 107, 3) := by decide +kernel
theorem dX5_tires_40 : decode cX5_tires 40 = .ok (.iload_n 1, 1) := by decide +kernel
theorem dX5_tires_41 : decode cX5_tires 41 = .ok (.iaload, 1) := by decide +kernel
theorem dX5_tires_42 : decode cX5_tires 42 = .ok (.istore 4, 2) := by decide +kernel
theorem dX5_tires_44 : decode cX5_tires 44 = .ok (.aload_n 0, 1) := by decide +kernel
theorem dX5_tires_45 : decode cX5_tires 45 = .ok (.getfield 10, 3) := by decide +kernel
theorem dX5_tires_48 : decode cX5_tires 48 = .ok (.getfield 107, 3) := by decide +kernel
theorem dX5_tires_51 : decode cX5_tires 51 = .ok (.iload_n 1, 1) := by decide +kernel
theorem dX5_tires_52 : decode cX5_tires 52 = .ok (.iload_n 2, 1) := by decide +kernel
theorem dX5_tires_53 : decode cX5_tires 53 = .ok (.iastore, 1) := by decide +kernel
theorem dX5_tires_54 : decode cX5_tires 54 = .ok (.iload 4, 2) := by decide +kernel
theorem dX5_tires_56 : decode cX5_tires 56 = .ok (.ireturn, 1) := by decide +kernel
theorem dX5_turn_0 : decode cX5_turn 0 = .ok (.aload_n 0, 1) := by decide +kernel
theorem dX5_turn_1 : decode cX5_turn 1 = .ok (.getfield 10, 3) := by decide +kernel
theorem dX5_turn_4 : decode cX5_turn 4 = .ok (.iload_n 1, 1) := by decide +kernel
theorem dX5_turn_5 : decode cX5_turn 5 = .ok (.invokevirtual 98, 3) := by decide +kernel
theorem dX5_turn_8 : decode cX5_turn 8 = .ok (.invokestatic 82, 3) := by decide +kernel
theorem dX5_turn_11 : decode cX5_turn 11 = .ok (.iload_n 2, 1) := by decide +kernel
theorem dX5_turn_12 : decode cX5_turn 12 = .ok (.iconst 5, 1) := by decide +kernel
theorem dX5_turn_13 : decode cX5_turn 13 = .ok (.invokestatic 85, 3) := by decide +kernel
theorem dX5_turn_16 : decode cX5_turn 16 = .ok (.iload_n 3, 1) := by decide +kernel
theorem dX5_turn_17 : decode cX5_turn 17 = .ok (.iconst 0, 1) := by decide +kernel
theorem dX5_turn_18 : decode cX5_turn 18 = .ok (.bipush 9, 2) := by decide +kernel
theorem dX5_turn_20 : decode cX5_turn 20 = .ok (.invokestatic 43, 3) := by decide +kernel
theorem dX5_turn_23 : decode cX5_turn 23 = .ok (.invokestatic 55, 3) := by decide +kernel
theorem dX5_turn_26 : decode cX5_turn 26 = .ok (.istore 4, 2) := by decide +kernel
theorem dX5_turn_28 : decode cX5_turn 28 = .ok (.iload 4, 2) := by decide +kernel
theorem dX5_turn_30 : decode cX5_turn 30 = .ok (.ifCond .eq 10, 3) := by decide +kernel
theorem dX5_turn_33 : decode cX5_turn 33 = .ok (.aload_n 0, 1) := by decide +kernel
theorem dX5_turn_34 : decode cX5_turn 34 = .ok (.iload 4, 2) := by decide +kernel
theorem dX5_turn_36 : decode cX5_turn 36 = .ok (.invokevirtual 58, 3) := by decide +kernel
theorem dX5_turn_39 : decode cX5_turn 39 = .ok (.ireturn, 1) := by decide +kernel
theorem dX5_turn_40 : decode cX5_turn 40 = .ok (.bipush 10, 2) := by decide +kernel
theorem dX5_turn_42 : decode cX5_turn 42 = .ok (.aload_n 0, 1) := by decide +kernel
theorem dX5_turn_43 : decode cX5_turn 43 = .ok (.getfield 10, 3) := by decide +kernel
theorem dX5_turn_46 : decode cX5_turn 46 = .ok (.getfield 101, 3) := by decide +kernel
theorem dX5_turn_49 : decode cX5_turn 49 = .ok (.iload_n 1, 1) := by decide +kernel
theorem dX5_turn_50 : decode cX5_turn 50 = .ok (.iaload, 1) := by decide +kernel
theorem dX5_turn_51 : decode cX5_turn 51 = .ok (.imul, 1) := by decide +kernel
theorem dX5_turn_52 : decode cX5_turn 52 = .ok (.aload_n 0, 1) := by decide +kernel
theorem dX5_turn_53 : decode cX5_turn 53 = .ok (.getfield 10, 3) := by decide +kernel
theorem dX5_turn_56 : decode cX5_turn 56 = .ok (.getfield 104, 3) := by decide +kernel
theorem dX5_turn_59 : decode cX5_turn 59 = .ok (.iload_n 1, 1) := by decide +kernel
theorem dX5_turn_60 : decode cX5_turn 60 = .ok (.iaload, 1) := by decide +kernel
theorem dX5_turn_61 : decode cX5_turn 61 = .ok (.iadd, 1) := by decide +kernel
theorem dX5_turn_62 : decode cX5_turn 62 = .ok (.istore 5, 2) := by decide +kernel
theorem dX5_turn_64 : decode cX5_turn 64 = .ok (.aload_n 0, 1) := by decide +kernel
theorem dX5_turn_65 : decode cX5_turn 65 = .ok (.getfield 10, 3) := by decide +kernel
theorem dX5_turn_68 : decode cX5_turn 68 = .ok (.getfield 101, 3) := by decide +kernel
theorem dX5_turn_71 : decode cX5_turn 71 = .ok (.iload_n 1, 1) := by decide +kernel
theorem dX5_turn_72 : decode cX5_turn 72 = .ok (.iload_n 2, 1) := by decide +kernel
theorem dX5_turn_73 : decode cX5_turn 73 = .ok (.iastore, 1) := by decide +kernel
theorem dX5_turn_74 : decode cX5_turn 74 = .ok (.aload_n 0, 1) := by decide +kernel
theorem dX5_turn_75 : decode cX5_turn 75 = .ok (.getfield 10, 3) := by decide +kernel
theorem dX5_turn_78 : decode cX5_turn 78 = .ok (.getfield 104, 3) := by decide +kernel
theorem dX5_turn_81 : decode cX5_turn 81 = .ok (.iload_n 1, 1) := by decide +kernel
theorem dX5_turn_82 : decode cX5_turn 82 = .ok (.iload_n 3, 1) := by decide +kernel
theorem dX5_turn_83 : decode cX5_turn 83 = .ok (.iastore, 1) := by decide +kernel
theorem dX5_turn_84 : decode cX5_turn 84 = .ok (.iload 5, 2) := by decide +kernel
theorem dX5_turn_86 : decode cX5_turn 86 = .ok (.ireturn, 1) := by decide +kernel
theorem dX5_years_0 : decode cX5_years 0 = .ok (.iload_n 1, 1) := by decide +kernel
theorem dX5_years_1 : decode cX5_years 1 = .ok (.iconst 1, 1) := by decide +kernel
theorem dX5_years_2 : decode cX5_years 2 = .ok (.bipush 60, 2) := by decide +kernel
theorem dX5_years_4 : decode cX5_years 4 = .ok (.invokestatic 43, 3) := by decide +kernel
theorem dX5_years_7 : decode cX5_years 7 = .ok (.aload_n 0, 1) := by decide +kernel
theorem dX5_years_8 : decode cX5_years 8 = .ok (.getfield 10, 3) := by decide +kernel
theorem dX5_years_11 : decode cX5_years 11 = .ok (.iload_n 1, 1) := by decide +kernel
theorem dX5_years_12 : decode cX5_years 12 = .ok (.invokevirtual 135, 3) := by decide +kernel
theorem dX5_years_15 : decode cX5_years 15 = .ok (.invokestatic 51, 3) := by decide +kernel
theorem dX5_years_18 : decode cX5_years 18 = .ok (.iconst 0, 1) := by decide +kernel
theorem dX5_years_19 : decode cX5_years 19 = .ok (.invokestatic 55, 3) := by decide +kernel
theorem dX5_years_22 : decode cX5_years 22 = .ok (.istore_n 2, 1) := by decide +kernel
theorem dX5_years_23 : decode cX5_years 23 = .ok (.iload_n 2, 1) := by decide +kernel
theorem dX5_years_24 : decode cX5_years 24 = .ok (.ifCond .eq 9, 3) := by decide +kernel
theorem dX5_years_27 : decode cX5_years 27 = .ok (.aload_n 0, 1) := by decide +kernel
theorem dX5_years_28 : decode cX5_years 28 = .ok (.iload_n 2, 1) := by decide +kernel
theorem dX5_years_29 : decode cX5_years 29 = .ok (.invokevirtual 58, 3) := by decide +kernel
theorem dX5_years_32 : decode cX5_years 32 = .ok (.ireturn, 1) := by decide +kernel
theorem dX5_years_33 : decode cX5_years 33 = .ok (.aload_n 0, 1) := by decide +kernel
theorem dX5_years_34 : decode cX5_years 34 = .ok (.getfield 10, 3) := by decide +kernel
theorem dX5_years_37 : decode cX5_years 37 = .ok (.iload_n 1, 1) := by decide +kernel
theorem dX5_years_38 : decode cX5_years 38 = .ok (.invokevirtual 138, 3) := by decide +kernel
theorem dX5_years_41 : decode cX5_years 41 = .ok (.pop, 1) := by decide +kernel
theorem dX5_years_42 : decode cX5_years 42 = .ok (.aload_n 0, 1) := by decide +kernel
theorem dX5_years_43 : decode cX5_years 43 = .ok (.getfield 10, 3) := by decide +kernel
theorem dX5_years_46 : decode cX5_years 46 = .ok (.getfield 141, 3) := by decide +kernel
theorem dX5_years_49 : decode cX5_years 49 = .ok (.ireturn, 1) := by decide +kernel
theorem dX5_heartThen_0 : decode cX5_heartThen 0 = .ok (.aload_n 0, 1) := by decide +kernel
theorem dX5_heartThen_1 : decode cX5_heartThen 1 = .ok (.getfield 10, 3) := by decide +kernel
theorem dX5_heartThen_4 : decode cX5_heartThen 4 = .ok (.iload_n 1, 1) := by decide +kernel
theorem dX5_heartThen_5 : decode cX5_heartThen 5 = .ok (.invokevirtual 78, 3) := by decide +kernel
theorem dX5_heartThen_8 : decode cX5_heartThen 8 = .ok (.ifCond .eq 14, 3) := by decide +kernel
theorem dX5_heartThen_11 : decode cX5_heartThen 11 = .ok (.iload_n 2, 1) := by decide +kernel
theorem dX5_heartThen_12 : decode cX5_heartThen 12 = .ok (.invokestatic 125, 3) := by decide +kernel
theorem dX5_heartThen_15 : decode cX5_heartThen 15 = .ok (.ifCond .eq 7, 3) := by decide +kernel
theorem dX5_heartThen_18 : decode cX5_heartThen 18 = .ok (.iconst 1, 1) := by decide +kernel
theorem dX5_heartThen_19 : decode cX5_heartThen 19 = .ok (.goto 4, 3) := by decide +kernel
theorem dX5_heartThen_22 : decode cX5_heartThen 22 = .ok (.iconst 0, 1) := by decide +kernel
theorem dX5_heartThen_23 : decode cX5_heartThen 23 = .ok (.invokestatic 82, 3) := by decide +kernel
theorem dX5_heartThen_26 : decode cX5_heartThen 26 = .ok (.iload_n 3, 1) := by decide +kernel
theorem dX5_heartThen_27 : decode cX5_heartThen 27 = .ok (.iconst 0, 1) := by decide +kernel
theorem dX5_heartThen_28 : decode cX5_heartThen 28 = .ok (.bipush 60, 2) := by decide +kernel
theorem dX5_heartThen_30 : decode cX5_heartThen 30 = .ok (.invokestatic 43, 3) := by decide +kernel
theorem dX5_heartThen_33 : decode cX5_heartThen 33 = .ok (.iconst 0, 1) := by decide +kernel
theorem dX5_heartThen_34 : decode cX5_heartThen 34 = .ok (.invokestatic 55, 3) := by decide +kernel
theorem dX5_heartThen_37 : decode cX5_heartThen 37 = .ok (.istore 4, 2) := by decide +kernel
theorem dX5_heartThen_39 : decode cX5_heartThen 39 = .ok (.iload 4, 2) := by decide +kernel
theorem dX5_heartThen_41 : decode cX5_heartThen 41 = .ok (.ifCond .eq 12, 3) := by decide +kernel
theorem dX5_heartThen_44 : decode cX5_heartThen 44 = .ok (.aload_n 0, 1) := by decide +kernel
theorem dX5_heartThen_45 : decode cX5_heartThen 45 = .ok (.iload 4, 2) := by decide +kernel
theorem dX5_heartThen_47 : decode cX5_heartThen 47 = .ok (.invokevirtual 58, 3) := by decide +kernel
theorem dX5_heartThen_50 : decode cX5_heartThen 50 = .ok (.goto 20, 3) := by decide +kernel
theorem dX5_heartThen_53 : decode cX5_heartThen 53 = .ok (.aload_n 0, 1) := by decide +kernel
theorem dX5_heartThen_54 : decode cX5_heartThen 54 = .ok (.getfield 32, 3) := by decide +kernel
theorem dX5_heartThen_57 : decode cX5_heartThen 57 = .ok (.aload_n 0, 1) := by decide +kernel
theorem dX5_heartThen_58 : decode cX5_heartThen 58 = .ok (.getfield 10, 3) := by decide +kernel
theorem dX5_heartThen_61 : decode cX5_heartThen 61 = .ok (.iload_n 3, 1) := by decide +kernel
theorem dX5_heartThen_62 : decode cX5_heartThen 62 = .ok (.invokevirtual 144, 3) := by decide +kernel
theorem dX5_heartThen_65 : decode cX5_heartThen 65 = .ok (.iload_n 1, 1) := by decide +kernel
theorem dX5_heartThen_66 : decode cX5_heartThen 66 = .ok (.iload_n 2, 1) := by decide +kernel
theorem dX5_heartThen_67 : decode cX5_heartThen 67 = .ok (.invokevirtual 95, 3) := by decide +kernel
theorem dX5_heartThen_70 : decode cX5_heartThen 70 = .ok (.ireturn, 1) := by decide +kernel
theorem dX5_farmerThen_0 : decode cX5_farmerThen 0 = .ok (.aload_n 0, 1) := by decide +kernel
theorem dX5_farmerThen_1 : decode cX5_farmerThen 1 = .ok (.getfield 10, 3) := by decide +kernel
theorem dX5_farmerThen_4 : decode cX5_farmerThen 4 = .ok (.iload_n 1, 1) := by decide +kernel
theorem dX5_farmerThen_5 : decode cX5_farmerThen 5 = .ok (.invokevirtual 98, 3) := by decide +kernel
theorem dX5_farmerThen_8 : decode cX5_farmerThen 8 = .ok (.invokestatic 82, 3) := by decide +kernel
theorem dX5_farmerThen_11 : decode cX5_farmerThen 11 = .ok (.iload_n 2, 1) := by decide +kernel
theorem dX5_farmerThen_12 : decode cX5_farmerThen 12 = .ok (.iconst 0, 1) := by decide +kernel
theorem dX5_farmerThen_13 : decode cX5_farmerThen 13 = .ok (.bipush 60, 2) := by decide +kernel
theorem dX5_farmerThen_15 : decode cX5_farmerThen 15 = .ok (.invokestatic 43, 3) := by decide +kernel
theorem dX5_farmerThen_18 : decode cX5_farmerThen 18 = .ok (.iload_n 3, 1) := by decide +kernel
theorem dX5_farmerThen_19 : decode cX5_farmerThen 19 = .ok (.iconst 1, 1) := by decide +kernel
theorem dX5_farmerThen_20 : decode cX5_farmerThen 20 = .ok (.invokestatic 85, 3) := by decide +kernel
theorem dX5_farmerThen_23 : decode cX5_farmerThen 23 = .ok (.invokestatic 55, 3) := by decide +kernel
theorem dX5_farmerThen_26 : decode cX5_farmerThen 26 = .ok (.istore 4, 2) := by decide +kernel
theorem dX5_farmerThen_28 : decode cX5_farmerThen 28 = .ok (.iload 4, 2) := by decide +kernel
theorem dX5_farmerThen_30 : decode cX5_farmerThen 30 = .ok (.ifCond .eq 10, 3) := by decide +kernel
theorem dX5_farmerThen_33 : decode cX5_farmerThen 33 = .ok (.aload_n 0, 1) := by decide +kernel
theorem dX5_farmerThen_34 : decode cX5_farmerThen 34 = .ok (.iload 4, 2) := by decide +kernel
theorem dX5_farmerThen_36 : decode cX5_farmerThen 36 = .ok (.invokevirtual 58, 3) := by decide +kernel
theorem dX5_farmerThen_39 : decode cX5_farmerThen 39 = .ok (.ireturn, 1) := by decide +kernel
theorem dX5_farmerThen_40 : decode cX5_farmerThen 40 = .ok (.aload_n 0, 1) := by decide +kernel
theorem dX5_farmerThen_41 : decode cX5_farmerThen 41 = .ok (.getfield 32, 3) := by decide +kernel
theorem dX5_farmerThen_44 : decode cX5_farmerThen 44 = .ok (.aload_n 0, 1) := by decide +kernel
theorem dX5_farmerThen_45 : decode cX5_farmerThen 45 = .ok (.getfield 10, 3) := by decide +kernel
theorem dX5_farmerThen_48 : decode cX5_farmerThen 48 = .ok (.iload_n 2, 1) := by decide +kernel
theorem dX5_farmerThen_49 : decode cX5_farmerThen 49 = .ok (.invokevirtual 144, 3) := by decide +kernel
theorem dX5_farmerThen_52 : decode cX5_farmerThen 52 = .ok (.astore 5, 2) := by decide +kernel
theorem dX5_farmerThen_54 : decode cX5_farmerThen 54 = .ok (.iload_n 3, 1) := by decide +kernel
theorem dX5_farmerThen_55 : decode cX5_farmerThen 55 = .ok (.ifCond .ne 13, 3) := by decide +kernel
theorem dX5_farmerThen_58 : decode cX5_farmerThen 58 = .ok (.aload 5, 2) := by decide +kernel
theorem dX5_farmerThen_60 : decode cX5_farmerThen 60 = .ok (.getfield 107, 3) := by decide +kernel
theorem dX5_farmerThen_63 : decode cX5_farmerThen 63 = .ok (.iload_n 1, 1) := by decide +kernel
theorem dX5_farmerThen_64 : decode cX5_farmerThen 64 = .ok (.iaload, 1) := by decide +kernel
theorem dX5_farmerThen_65 : decode cX5_farmerThen 65 = .ok (.goto 10, 3) := by decide +kernel
theorem dX5_farmerThen_68 : decode cX5_farmerThen 68 = .ok (.aload 5, 2) := by decide +kernel
theorem dX5_farmerThen_70 : decode cX5_farmerThen 70 = .ok (.getfield 110, 3) := by decide +kernel
theorem dX5_farmerThen_73 : decode cX5_farmerThen 73 = .ok (.iload_n 1, 1) := by decide +kernel
theorem dX5_farmerThen_74 : decode cX5_farmerThen 74 = .ok (.iaload, 1) := by decide +kernel
theorem dX5_farmerThen_75 : decode cX5_farmerThen 75 = .ok (.ireturn, 1) := by decide +kernel
theorem dX5_barnThen_0 : decode cX5_barnThen 0 = .ok (.iload_n 1, 1) := by decide +kernel
theorem dX5_barnThen_1 : decode cX5_barnThen 1 = .ok (.iconst 0, 1) := by decide +kernel
theorem dX5_barnThen_2 : decode cX5_barnThen 2 = .ok (.bipush 60, 2) := by decide +kernel
theorem dX5_barnThen_4 : decode cX5_barnThen 4 = .ok (.invokestatic 43, 3) := by decide +kernel
theorem dX5_barnThen_7 : decode cX5_barnThen 7 = .ok (.istore_n 2, 1) := by decide +kernel
theorem dX5_barnThen_8 : decode cX5_barnThen 8 = .ok (.iload_n 2, 1) := by decide +kernel
theorem dX5_barnThen_9 : decode cX5_barnThen 9 = .ok (.ifCond .eq 11, 3) := by decide +kernel
theorem dX5_barnThen_12 : decode cX5_barnThen 12 = .ok (.aload_n 0, 1) := by decide +kernel
theorem dX5_barnThen_13 : decode cX5_barnThen 13 = .ok (.iload_n 2, 1) := by decide +kernel
theorem dX5_barnThen_14 : decode cX5_barnThen 14 = .ok (.invokevirtual 58, 3) := by decide +kernel
theorem dX5_barnThen_17 : decode cX5_barnThen 17 = .ok (.goto 18, 3) := by decide +kernel
theorem dX5_barnThen_20 : decode cX5_barnThen 20 = .ok (.aload_n 0, 1) := by decide +kernel
theorem dX5_barnThen_21 : decode cX5_barnThen 21 = .ok (.getfield 32, 3) := by decide +kernel
theorem dX5_barnThen_24 : decode cX5_barnThen 24 = .ok (.aload_n 0, 1) := by decide +kernel
theorem dX5_barnThen_25 : decode cX5_barnThen 25 = .ok (.getfield 10, 3) := by decide +kernel
theorem dX5_barnThen_28 : decode cX5_barnThen 28 = .ok (.iload_n 1, 1) := by decide +kernel
theorem dX5_barnThen_29 : decode cX5_barnThen 29 = .ok (.invokevirtual 144, 3) := by decide +kernel
theorem dX5_barnThen_32 : decode cX5_barnThen 32 = .ok (.getfield 141, 3) := by decide +kernel
theorem dX5_barnThen_35 : decode cX5_barnThen 35 = .ok (.ireturn, 1) := by decide +kernel
theorem dX5_greenest_0 : decode cX5_greenest 0 = .ok (.aload_n 0, 1) := by decide +kernel
theorem dX5_greenest_1 : decode cX5_greenest 1 = .ok (.getfield 10, 3) := by decide +kernel
theorem dX5_greenest_4 : decode cX5_greenest 4 = .ok (.invokevirtual 148, 3) := by decide +kernel
theorem dX5_greenest_7 : decode cX5_greenest 7 = .ok (.ireturn, 1) := by decide +kernel
theorem dX5_lost_0 : decode cX5_lost 0 = .ok (.iload_n 1, 1) := by decide +kernel
theorem dX5_lost_1 : decode cX5_lost 1 = .ok (.iconst 1, 1) := by decide +kernel
theorem dX5_lost_2 : decode cX5_lost 2 = .ok (.invokestatic 85, 3) := by decide +kernel
theorem dX5_lost_5 : decode cX5_lost 5 = .ok (.istore_n 2, 1) := by decide +kernel
theorem dX5_lost_6 : decode cX5_lost 6 = .ok (.iload_n 2, 1) := by decide +kernel
theorem dX5_lost_7 : decode cX5_lost 7 = .ok (.ifCond .eq 9, 3) := by decide +kernel
theorem dX5_lost_10 : decode cX5_lost 10 = .ok (.aload_n 0, 1) := by decide +kernel
theorem dX5_lost_11 : decode cX5_lost 11 = .ok (.iload_n 2, 1) := by decide +kernel
theorem dX5_lost_12 : decode cX5_lost 12 = .ok (.invokevirtual 58, 3) := by decide +kernel
theorem dX5_lost_15 : decode cX5_lost 15 = .ok (.ireturn, 1) := by decide +kernel
theorem dX5_lost_16 : decode cX5_lost 16 = .ok (.iload_n 1, 1) := by decide +kernel
theorem dX5_lost_17 : decode cX5_lost 17 = .ok (.ifCond .ne 17, 3) := by decide +kernel
theorem dX5_lost_20 : decode cX5_lost 20 = .ok (.aload_n 0, 1) := by decide +kernel
theorem dX5_lost_21 : decode cX5_lost 21 = .ok (.getfield 32, 3) := by decide +kernel
theorem dX5_lost_24 : decode cX5_lost 24 = .ok (.aload_n 0, 1) := by decide +kernel
theorem dX5_lost_25 : decode cX5_lost 25 = .ok (.getfield 10, 3) := by decide +kernel
theorem dX5_lost_28 : decode cX5_lost 28 = .ok (.invokevirtual 152, 3) := by decide +kernel
theorem dX5_lost_31 : decode cX5_lost 31 = .ok (.goto 14, 3) := by decide +kernel
theorem dX5_lost_34 : decode cX5_lost 34 = .ok (.aload_n 0, 1) := by decide +kernel
theorem dX5_lost_35 : decode cX5_lost 35 = .ok (.getfield 32, 3) := by decide +kernel
theorem dX5_lost_38 : decode cX5_lost 38 = .ok (.aload_n 0, 1) := by decide +kernel
theorem dX5_lost_39 : decode cX5_lost 39 = .ok (.getfield 10, 3) := by decide +kernel
theorem dX5_lost_42 : decode cX5_lost 42 = .ok (.invokevirtual 155, 3) := by decide +kernel
theorem dX5_lost_45 : decode cX5_lost 45 = .ok (.ireturn, 1) := by decide +kernel
theorem dX5_crop_0 : decode cX5_crop 0 = .ok (.iload_n 1, 1) := by decide +kernel
theorem dX5_crop_1 : decode cX5_crop 1 = .ok (.iconst (-1), 1) := by decide +kernel
theorem dX5_crop_2 : decode cX5_crop 2 = .ok (.if_icmp .eq 14, 3) := by decide +kernel
theorem dX5_crop_5 : decode cX5_crop 5 = .ok (.aload_n 0, 1) := by decide +kernel
theorem dX5_crop_6 : decode cX5_crop 6 = .ok (.getfield 10, 3) := by decide +kernel
theorem dX5_crop_9 : decode cX5_crop 9 = .ok (.iload_n 1, 1) := by decide +kernel
theorem dX5_crop_10 : decode cX5_crop 10 = .ok (.invokevirtual 78, 3) := by decide +kernel
theorem dX5_crop_13 : decode cX5_crop 13 = .ok (.ifCond .eq 7, 3) := by decide +kernel
theorem dX5_crop_16 : decode cX5_crop 16 = .ok (.iconst 1, 1) := by decide +kernel
theorem dX5_crop_17 : decode cX5_crop 17 = .ok (.goto 4, 3) := by decide +kernel
theorem dX5_crop_20 : decode cX5_crop 20 = .ok (.iconst 0, 1) := by decide +kernel
theorem dX5_crop_21 : decode cX5_crop 21 = .ok (.invokestatic 82, 3) := by decide +kernel
theorem dX5_crop_24 : decode cX5_crop 24 = .ok (.iload_n 2, 1) := by decide +kernel
theorem dX5_crop_25 : decode cX5_crop 25 = .ok (.iconst 1, 1) := by decide +kernel
theorem dX5_crop_26 : decode cX5_crop 26 = .ok (.bipush 60, 2) := by decide +kernel
theorem dX5_crop_28 : decode cX5_crop 28 = .ok (.invokestatic 43, 3) := by decide +kernel
theorem dX5_crop_31 : decode cX5_crop 31 = .ok (.iconst 0, 1) := by decide +kernel
theorem dX5_crop_32 : decode cX5_crop 32 = .ok (.invokestatic 55, 3) := by decide +kernel
theorem dX5_crop_35 : decode cX5_crop 35 = .ok (.istore_n 3, 1) := by decide +kernel
theorem dX5_crop_36 : decode cX5_crop 36 = .ok (.iload_n 3, 1) := by decide +kernel
theorem dX5_crop_37 : decode cX5_crop 37 = .ok (.ifCond .eq 9, 3) := by decide +kernel
theorem dX5_crop_40 : decode cX5_crop 40 = .ok (.aload_n 0, 1) := by decide +kernel
theorem dX5_crop_41 : decode cX5_crop 41 = .ok (.iload_n 3, 1) := by decide +kernel
theorem dX5_crop_42 : decode cX5_crop 42 = .ok (.invokevirtual 58, 3) := by decide +kernel
theorem dX5_crop_45 : decode cX5_crop 45 = .ok (.ireturn, 1) := by decide +kernel
theorem dX5_crop_46 : decode cX5_crop 46 = .ok (.iload_n 1, 1) := by decide +kernel
theorem dX5_crop_47 : decode cX5_crop 47 = .ok (.iconst (-1), 1) := by decide +kernel
theorem dX5_crop_48 : decode cX5_crop 48 = .ok (.if_icmp .ne 18, 3) := by decide +kernel
theorem dX5_crop_51 : decode cX5_crop 51 = .ok (.aload_n 0, 1) := by decide +kernel
theorem dX5_crop_52 : decode cX5_crop 52 = .ok (.getfield 32, 3) := by decide +kernel
theorem dX5_crop_55 : decode cX5_crop 55 = .ok (.aload_n 0, 1) := by decide +kernel
theorem dX5_crop_56 : decode cX5_crop 56 = .ok (.getfield 10, 3) := by decide +kernel
theorem dX5_crop_59 : decode cX5_crop 59 = .ok (.iload_n 2, 1) := by decide +kernel
theorem dX5_crop_60 : decode cX5_crop 60 = .ok (.invokevirtual 158, 3) := by decide +kernel
theorem dX5_crop_63 : decode cX5_crop 63 = .ok (.goto 16, 3) := by decide +kernel
theorem dX5_crop_66 : decode cX5_crop 66 = .ok (.aload_n 0, 1) := by decide +kernel
theorem dX5_crop_67 : decode cX5_crop 67 = .ok (.getfield 32, 3) := by decide +kernel
theorem dX5_crop_70 : decode cX5_crop 70 = .ok (.aload_n 0, 1) := by decide +kernel
theorem dX5_crop_71 : decode cX5_crop 71 = .ok (.getfield 10, 3) := by decide +kernel
theorem dX5_crop_74 : decode cX5_crop 74 = .ok (.iload_n 1, 1) := by decide +kernel
theorem dX5_crop_75 : decode cX5_crop 75 = .ok (.iload_n 2, 1) := by decide +kernel
theorem dX5_crop_76 : decode cX5_crop 76 = .ok (.invokevirtual 162, 3) := by decide +kernel
theorem dX5_crop_79 : decode cX5_crop 79 = .ok (.ireturn, 1) := by decide +kernel
theorem dX5_bestStep_0 : decode cX5_bestStep 0 = .ok (.iload_n 1, 1) := by decide +kernel
theorem dX5_bestStep_1 : decode cX5_bestStep 1 = .ok (.iconst 1, 1) := by decide +kernel
theorem dX5_bestStep_2 : decode cX5_bestStep 2 = .ok (.bipush 30, 2) := by decide +kernel
theorem dX5_bestStep_4 : decode cX5_bestStep 4 = .ok (.invokestatic 43, 3) := by decide +kernel
theorem dX5_bestStep_7 : decode cX5_bestStep 7 = .ok (.iload_n 2, 1) := by decide +kernel
theorem dX5_bestStep_8 : decode cX5_bestStep 8 = .ok (.iconst 1, 1) := by decide +kernel
theorem dX5_bestStep_9 : decode cX5_bestStep 9 = .ok (.invokestatic 85, 3) := by decide +kernel
theorem dX5_bestStep_12 : decode cX5_bestStep 12 = .ok (.iconst 0, 1) := by decide +kernel
theorem dX5_bestStep_13 : decode cX5_bestStep 13 = .ok (.invokestatic 55, 3) := by decide +kernel
theorem dX5_bestStep_16 : decode cX5_bestStep 16 = .ok (.istore_n 3, 1) := by decide +kernel
theorem dX5_bestStep_17 : decode cX5_bestStep 17 = .ok (.iload_n 3, 1) := by decide +kernel
theorem dX5_bestStep_18 : decode cX5_bestStep 18 = .ok (.ifCond .eq 9, 3) := by decide +kernel
theorem dX5_bestStep_21 : decode cX5_bestStep 21 = .ok (.aload_n 0, 1) := by decide +kernel
theorem dX5_bestStep_22 : decode cX5_bestStep 22 = .ok (.iload_n 3, 1) := by decide +kernel
theorem dX5_bestStep_23 : decode cX5_bestStep 23 = .ok (.invokevirtual 58, 3) := by decide +kernel
theorem dX5_bestStep_26 : decode cX5_bestStep 26 = .ok (.ireturn, 1) := by decide +kernel
theorem dX5_bestStep_27 : decode cX5_bestStep 27 = .ok (.aload_n 0, 1) := by decide +kernel
theorem dX5_bestStep_28 : decode cX5_bestStep 28 = .ok (.getfield 32, 3) := by decide +kernel
theorem dX5_bestStep_31 : decode cX5_bestStep 31 = .ok (.aload_n 0, 1) := by decide +kernel
theorem dX5_bestStep_32 : decode cX5_bestStep 32 = .ok (.getfield 10, 3) := by decide +kernel
theorem dX5_bestStep_35 : decode cX5_bestStep 35 = .ok (.iload_n 1, 1) := by decide +kernel
theorem dX5_bestStep_36 : decode cX5_bestStep 36 = .ok (.invokevirtual 166, 3) := by decide +kernel
theorem dX5_bestStep_39 : decode cX5_bestStep 39 = .ok (.istore 4, 2) := by decide +kernel
theorem dX5_bestStep_41 : decode cX5_bestStep 41 = .ok (.iload_n 2, 1) := by decide +kernel
theorem dX5_bestStep_42 : decode cX5_bestStep 42 = .ok (.ifCond .ne 8, 3) := by decide +kernel
theorem dX5_bestStep_45 : decode cX5_bestStep 45 = .ok (.iload 4, 2) := by decide +kernel
theorem dX5_bestStep_47 : decode cX5_bestStep 47 = .ok (.goto 17, 3) := by decide +kernel
theorem dX5_bestStep_50 : decode cX5_bestStep 50 = .ok (.aload_n 0, 1) := by decide +kernel
theorem dX5_bestStep_51 : decode cX5_bestStep 51 = .ok (.getfield 32, 3) := by decide +kernel
theorem dX5_bestStep_54 : decode cX5_bestStep 54 = .ok (.aload_n 0, 1) := by decide +kernel
theorem dX5_bestStep_55 : decode cX5_bestStep 55 = .ok (.getfield 10, 3) := by decide +kernel
theorem dX5_bestStep_58 : decode cX5_bestStep 58 = .ok (.iload 4, 2) := by decide +kernel
theorem dX5_bestStep_60 : decode cX5_bestStep 60 = .ok (.iload_n 1, 1) := by decide +kernel
theorem dX5_bestStep_61 : decode cX5_bestStep 61 = .ok (.invokevirtual 169, 3) := by decide +kernel
theorem dX5_bestStep_64 : decode cX5_bestStep 64 = .ok (.ireturn, 1) := by decide +kernel
theorem dX5_send_0 : decode cX5_send 0 = .ok (.iload_n 1, 1) := by decide +kernel
theorem dX5_send_1 : decode cX5_send 1 = .ok (.iconst 1, 1) := by decide +kernel
theorem dX5_send_2 : decode cX5_send 2 = .ok (.bipush 30, 2) := by decide +kernel
theorem dX5_send_4 : decode cX5_send 4 = .ok (.invokestatic 43, 3) := by decide +kernel
theorem dX5_send_7 : decode cX5_send 7 = .ok (.istore_n 2, 1) := by decide +kernel
theorem dX5_send_8 : decode cX5_send 8 = .ok (.iload_n 2, 1) := by decide +kernel
theorem dX5_send_9 : decode cX5_send 9 = .ok (.ifCond .eq 11, 3) := by decide +kernel
theorem dX5_send_12 : decode cX5_send 12 = .ok (.aload_n 0, 1) := by decide +kernel
theorem dX5_send_13 : decode cX5_send 13 = .ok (.iload_n 2, 1) := by decide +kernel
theorem dX5_send_14 : decode cX5_send 14 = .ok (.invokevirtual 58, 3) := by decide +kernel
theorem dX5_send_17 : decode cX5_send 17 = .ok (.goto 15, 3) := by decide +kernel
theorem dX5_send_20 : decode cX5_send 20 = .ok (.aload_n 0, 1) := by decide +kernel
theorem dX5_send_21 : decode cX5_send 21 = .ok (.getfield 32, 3) := by decide +kernel
theorem dX5_send_24 : decode cX5_send 24 = .ok (.aload_n 0, 1) := by decide +kernel
theorem dX5_send_25 : decode cX5_send 25 = .ok (.getfield 10, 3) := by decide +kernel
theorem dX5_send_28 : decode cX5_send 28 = .ok (.iload_n 1, 1) := by decide +kernel
theorem dX5_send_29 : decode cX5_send 29 = .ok (.invokevirtual 172, 3) := by decide +kernel
theorem dX5_send_32 : decode cX5_send 32 = .ok (.ireturn, 1) := by decide +kernel
theorem dX5_change_0 : decode cX5_change 0 = .ok (.iload_n 1, 1) := by decide +kernel
theorem dX5_change_1 : decode cX5_change 1 = .ok (.iconst 1, 1) := by decide +kernel
theorem dX5_change_2 : decode cX5_change 2 = .ok (.bipush 30, 2) := by decide +kernel
theorem dX5_change_4 : decode cX5_change 4 = .ok (.invokestatic 43, 3) := by decide +kernel
theorem dX5_change_7 : decode cX5_change 7 = .ok (.istore_n 2, 1) := by decide +kernel
theorem dX5_change_8 : decode cX5_change 8 = .ok (.iload_n 2, 1) := by decide +kernel
theorem dX5_change_9 : decode cX5_change 9 = .ok (.ifCond .eq 11, 3) := by decide +kernel
theorem dX5_change_12 : decode cX5_change 12 = .ok (.aload_n 0, 1) := by decide +kernel
theorem dX5_change_13 : decode cX5_change 13 = .ok (.iload_n 2, 1) := by decide +kernel
theorem dX5_change_14 : decode cX5_change 14 = .ok (.invokevirtual 58, 3) := by decide +kernel
theorem dX5_change_17 : decode cX5_change 17 = .ok (.goto 15, 3) := by decide +kernel
theorem dX5_change_20 : decode cX5_change 20 = .ok (.aload_n 0, 1) := by decide +kernel
theorem dX5_change_21 : decode cX5_change 21 = .ok (.getfield 32, 3) := by decide +kernel
theorem dX5_change_24 : decode cX5_change 24 = .ok (.aload_n 0, 1) := by decide +kernel
theorem dX5_change_25 : decode cX5_change 25 = .ok (.getfield 10, 3) := by decide +kernel
theorem dX5_change_28 : decode cX5_change 28 = .ok (.iload_n 1, 1) := by decide +kernel
theorem dX5_change_29 : decode cX5_change 29 = .ok (.invokevirtual 175, 3) := by decide +kernel
theorem dX5_change_32 : decode cX5_change 32 = .ok (.ireturn, 1) := by decide +kernel
theorem dX5_next_0 : decode cX5_next 0 = .ok (.iload_n 1, 1) := by decide +kernel
theorem dX5_next_1 : decode cX5_next 1 = .ok (.iconst (-1), 1) := by decide +kernel
theorem dX5_next_2 : decode cX5_next 2 = .ok (.if_icmp .eq 14, 3) := by decide +kernel
theorem dX5_next_5 : decode cX5_next 5 = .ok (.aload_n 0, 1) := by decide +kernel
theorem dX5_next_6 : decode cX5_next 6 = .ok (.getfield 10, 3) := by decide +kernel
theorem dX5_next_9 : decode cX5_next 9 = .ok (.iload_n 1, 1) := by decide +kernel
theorem dX5_next_10 : decode cX5_next 10 = .ok (.invokevirtual 98, 3) := by decide +kernel
theorem dX5_next_13 : decode cX5_next 13 = .ok (.ifCond .eq 7, 3) := by decide +kernel
theorem dX5_next_16 : decode cX5_next 16 = .ok (.iconst 1, 1) := by decide +kernel
theorem dX5_next_17 : decode cX5_next 17 = .ok (.goto 4, 3) := by decide +kernel
theorem dX5_next_20 : decode cX5_next 20 = .ok (.iconst 0, 1) := by decide +kernel
theorem dX5_next_21 : decode cX5_next 21 = .ok (.invokestatic 82, 3) := by decide +kernel
theorem dX5_next_24 : decode cX5_next 24 = .ok (.istore_n 2, 1) := by decide +kernel
theorem dX5_next_25 : decode cX5_next 25 = .ok (.iload_n 2, 1) := by decide +kernel
theorem dX5_next_26 : decode cX5_next 26 = .ok (.ifCond .eq 9, 3) := by decide +kernel
theorem dX5_next_29 : decode cX5_next 29 = .ok (.aload_n 0, 1) := by decide +kernel
theorem dX5_next_30 : decode cX5_next 30 = .ok (.iload_n 2, 1) := by decide +kernel
theorem dX5_next_31 : decode cX5_next 31 = .ok (.invokevirtual 58, 3) := by decide +kernel
theorem dX5_next_34 : decode cX5_next 34 = .ok (.ireturn, 1) := by decide +kernel
theorem dX5_next_35 : decode cX5_next 35 = .ok (.aload_n 0, 1) := by decide +kernel
theorem dX5_next_36 : decode cX5_next 36 = .ok (.getfield 32, 3) := by decide +kernel
theorem dX5_next_39 : decode cX5_next 39 = .ok (.getfield 178, 3) := by decide +kernel
theorem dX5_next_42 : decode cX5_next 42 = .ok (.aload_n 0, 1) := by decide +kernel
theorem dX5_next_43 : decode cX5_next 43 = .ok (.getfield 10, 3) := by decide +kernel
theorem dX5_next_46 : decode cX5_next 46 = .ok (.invokevirtual 182, 3) := by decide +kernel
theorem dX5_next_49 : decode cX5_next 49 = .ok (.iload_n 1, 1) := by decide +kernel
theorem dX5_next_50 : decode cX5_next 50 = .ok (.iconst (-1), 1) := by decide +kernel
theorem dX5_next_51 : decode cX5_next 51 = .ok (.if_icmp .ne 16, 3) := by decide +kernel
theorem dX5_next_54 : decode cX5_next 54 = .ok (.aload_n 0, 1) := by decide +kernel
theorem dX5_next_55 : decode cX5_next 55 = .ok (.getfield 32, 3) := by decide +kernel
theorem dX5_next_58 : decode cX5_next 58 = .ok (.getfield 178, 3) := by decide +kernel
theorem dX5_next_61 : decode cX5_next 61 = .ok (.invokevirtual 187, 3) := by decide +kernel
theorem dX5_next_64 : decode cX5_next 64 = .ok (.goto 18, 3) := by decide +kernel
theorem dX5_next_67 : decode cX5_next 67 = .ok (.aload_n 0, 1) := by decide +kernel
theorem dX5_next_68 : decode cX5_next 68 = .ok (.getfield 32, 3) := by decide +kernel
theorem dX5_next_71 : decode cX5_next 71 = .ok (.getfield 178, 3) := by decide +kernel
theorem dX5_next_74 : decode cX5_next 74 = .ok (.aload_n 0, 1) := by decide +kernel
theorem dX5_next_75 : decode cX5_next 75 = .ok (.getfield 10, 3) := by decide +kernel
theorem dX5_next_78 : decode cX5_next 78 = .ok (.iload_n 1, 1) := by decide +kernel
theorem dX5_next_79 : decode cX5_next 79 = .ok (.invokevirtual 190, 3) := by decide +kernel
theorem dX5_next_82 : decode cX5_next 82 = .ok (.ireturn, 1) := by decide +kernel
theorem dX5_feed_0 : decode cX5_feed 0 = .ok (.aload_n 0, 1) := by decide +kernel
theorem dX5_feed_1 : decode cX5_feed 1 = .ok (.getfield 10, 3) := by decide +kernel
theorem dX5_feed_4 : decode cX5_feed 4 = .ok (.iload_n 1, 1) := by decide +kernel
theorem dX5_feed_5 : decode cX5_feed 5 = .ok (.invokevirtual 78, 3) := by decide +kernel
theorem dX5_feed_8 : decode cX5_feed 8 = .ok (.invokestatic 82, 3) := by decide +kernel
theorem dX5_feed_11 : decode cX5_feed 11 = .ok (.iload_n 2, 1) := by decide +kernel
theorem dX5_feed_12 : decode cX5_feed 12 = .ok (.iconst 1, 1) := by decide +kernel
theorem dX5_feed_13 : decode cX5_feed 13 = .ok (.invokestatic 85, 3) := by decide +kernel
theorem dX5_feed_16 : decode cX5_feed 16 = .ok (.iconst 0, 1) := by decide +kernel
theorem dX5_feed_17 : decode cX5_feed 17 = .ok (.invokestatic 55, 3) := by decide +kernel
theorem dX5_feed_20 : decode cX5_feed 20 = .ok (.istore_n 3, 1) := by decide +kernel
theorem dX5_feed_21 : decode cX5_feed 21 = .ok (.iload_n 3, 1) := by decide +kernel
theorem dX5_feed_22 : decode cX5_feed 22 = .ok (.ifCond .eq 9, 3) := by decide +kernel
theorem dX5_feed_25 : decode cX5_feed 25 = .ok (.aload_n 0, 1) := by decide +kernel
theorem dX5_feed_26 : decode cX5_feed 26 = .ok (.iload_n 3, 1) := by decide +kernel
theorem dX5_feed_27 : decode cX5_feed 27 = .ok (.invokevirtual 58, 3) := by decide +kernel
theorem dX5_feed_30 : decode cX5_feed 30 = .ok (.ireturn, 1) := by decide +kernel
theorem dX5_feed_31 : decode cX5_feed 31 = .ok (.aload_n 0, 1) := by decide +kernel
theorem dX5_feed_32 : decode cX5_feed 32 = .ok (.getfield 10, 3) := by decide +kernel
theorem dX5_feed_35 : decode cX5_feed 35 = .ok (.iload_n 1, 1) := by decide +kernel
theorem dX5_feed_36 : decode cX5_feed 36 = .ok (.invokevirtual 193, 3) := by decide +kernel
theorem dX5_feed_39 : decode cX5_feed 39 = .ok (.istore 4, 2) := by decide +kernel
theorem dX5_feed_41 : decode cX5_feed 41 = .ok (.iload_n 2, 1) := by decide +kernel
theorem dX5_feed_42 : decode cX5_feed 42 = .ok (.ifCond .ne 8, 3) := by decide +kernel
theorem dX5_feed_45 : decode cX5_feed 45 = .ok (.iload 4, 2) := by decide +kernel
theorem dX5_feed_47 : decode cX5_feed 47 = .ok (.goto 13, 3) := by decide +kernel
theorem dX5_feed_50 : decode cX5_feed 50 = .ok (.aload_n 0, 1) := by decide +kernel
theorem dX5_feed_51 : decode cX5_feed 51 = .ok (.getfield 10, 3) := by decide +kernel
theorem dX5_feed_54 : decode cX5_feed 54 = .ok (.iload_n 1, 1) := by decide +kernel
theorem dX5_feed_55 : decode cX5_feed 55 = .ok (.iload 4, 2) := by decide +kernel
theorem dX5_feed_57 : decode cX5_feed 57 = .ok (.invokevirtual 196, 3) := by decide +kernel
theorem dX5_feed_60 : decode cX5_feed 60 = .ok (.ireturn, 1) := by decide +kernel
theorem dX5_settles_0 : decode cX5_settles 0 = .ok (.aload_n 0, 1) := by decide +kernel
theorem dX5_settles_1 : decode cX5_settles 1 = .ok (.getfield 32, 3) := by decide +kernel
theorem dX5_settles_4 : decode cX5_settles 4 = .ok (.aload_n 0, 1) := by decide +kernel
theorem dX5_settles_5 : decode cX5_settles 5 = .ok (.getfield 10, 3) := by decide +kernel
theorem dX5_settles_8 : decode cX5_settles 8 = .ok (.invokevirtual 199, 3) := by decide +kernel
theorem dX5_settles_11 : decode cX5_settles 11 = .ok (.ireturn, 1) := by decide +kernel
theorem dX5_round_0 : decode cX5_round 0 = .ok (.aload_n 0, 1) := by decide +kernel
theorem dX5_round_1 : decode cX5_round 1 = .ok (.getfield 32, 3) := by decide +kernel
theorem dX5_round_4 : decode cX5_round 4 = .ok (.aload_n 0, 1) := by decide +kernel
theorem dX5_round_5 : decode cX5_round 5 = .ok (.getfield 10, 3) := by decide +kernel
theorem dX5_round_8 : decode cX5_round 8 = .ok (.invokevirtual 202, 3) := by decide +kernel
theorem dX5_round_11 : decode cX5_round 11 = .ok (.ireturn, 1) := by decide +kernel
theorem dX5_free_0 : decode cX5_free 0 = .ok (.iload_n 1, 1) := by decide +kernel
theorem dX5_free_1 : decode cX5_free 1 = .ok (.iconst 2, 1) := by decide +kernel
theorem dX5_free_2 : decode cX5_free 2 = .ok (.invokestatic 85, 3) := by decide +kernel
theorem dX5_free_5 : decode cX5_free 5 = .ok (.istore_n 2, 1) := by decide +kernel
theorem dX5_free_6 : decode cX5_free 6 = .ok (.iload_n 2, 1) := by decide +kernel
theorem dX5_free_7 : decode cX5_free 7 = .ok (.ifCond .eq 9, 3) := by decide +kernel
theorem dX5_free_10 : decode cX5_free 10 = .ok (.aload_n 0, 1) := by decide +kernel
theorem dX5_free_11 : decode cX5_free 11 = .ok (.iload_n 2, 1) := by decide +kernel
theorem dX5_free_12 : decode cX5_free 12 = .ok (.invokevirtual 58, 3) := by decide +kernel
theorem dX5_free_15 : decode cX5_free 15 = .ok (.ireturn, 1) := by decide +kernel
theorem dX5_free_16 : decode cX5_free 16 = .ok (.iload_n 1, 1) := by decide +kernel
theorem dX5_free_17 : decode cX5_free 17 = .ok (.ifCond .ne 11, 3) := by decide +kernel
theorem dX5_free_20 : decode cX5_free 20 = .ok (.aload_n 0, 1) := by decide +kernel
theorem dX5_free_21 : decode cX5_free 21 = .ok (.getfield 10, 3) := by decide +kernel
theorem dX5_free_24 : decode cX5_free 24 = .ok (.invokevirtual 205, 3) := by decide +kernel
theorem dX5_free_27 : decode cX5_free 27 = .ok (.ireturn, 1) := by decide +kernel
theorem dX5_free_28 : decode cX5_free 28 = .ok (.iload_n 1, 1) := by decide +kernel
theorem dX5_free_29 : decode cX5_free 29 = .ok (.iconst 1, 1) := by decide +kernel
theorem dX5_free_30 : decode cX5_free 30 = .ok (.if_icmp .ne 13, 3) := by decide +kernel
theorem dX5_free_33 : decode cX5_free 33 = .ok (.aload_n 0, 1) := by decide +kernel
theorem dX5_free_34 : decode cX5_free 34 = .ok (.getfield 10, 3) := by decide +kernel
theorem dX5_free_37 : decode cX5_free 37 = .ok (.invokevirtual 208, 3) := by decide +kernel
theorem dX5_free_40 : decode cX5_free 40 = .ok (.goto 10, 3) := by decide +kernel
theorem dX5_free_43 : decode cX5_free 43 = .ok (.aload_n 0, 1) := by decide +kernel
theorem dX5_free_44 : decode cX5_free 44 = .ok (.getfield 10, 3) := by decide +kernel
theorem dX5_free_47 : decode cX5_free 47 = .ok (.invokevirtual 211, 3) := by decide +kernel
theorem dX5_free_50 : decode cX5_free 50 = .ok (.ireturn, 1) := by decide +kernel
theorem dX5_inHeart_0 : decode cX5_inHeart 0 = .ok (.aload_n 0, 1) := by decide +kernel
theorem dX5_inHeart_1 : decode cX5_inHeart 1 = .ok (.getfield 32, 3) := by decide +kernel
theorem dX5_inHeart_4 : decode cX5_inHeart 4 = .ok (.aload_n 0, 1) := by decide +kernel
theorem dX5_inHeart_5 : decode cX5_inHeart 5 = .ok (.getfield 10, 3) := by decide +kernel
theorem dX5_inHeart_8 : decode cX5_inHeart 8 = .ok (.invokevirtual 155, 3) := by decide +kernel
theorem dX5_inHeart_11 : decode cX5_inHeart 11 = .ok (.istore_n 1, 1) := by decide +kernel
theorem dX5_inHeart_12 : decode cX5_inHeart 12 = .ok (.iload_n 1, 1) := by decide +kernel
theorem dX5_inHeart_13 : decode cX5_inHeart 13 = .ok (.bipush (-9), 2) := by decide +kernel
theorem dX5_inHeart_15 : decode cX5_inHeart 15 = .ok (.if_icmp .ne 8, 3) := by decide +kernel
theorem dX5_inHeart_18 : decode cX5_inHeart 18 = .ok (.bipush 61, 2) := by decide +kernel
theorem dX5_inHeart_20 : decode cX5_inHeart 20 = .ok (.goto 4, 3) := by decide +kernel
theorem dX5_inHeart_23 : decode cX5_inHeart 23 = .ok (.iload_n 1, 1) := by decide +kernel
theorem dX5_inHeart_24 : decode cX5_inHeart 24 = .ok (.ireturn, 1) := by decide +kernel
theorem dX5_even_0 : decode cX5_even 0 = .ok (.aload_n 0, 1) := by decide +kernel
theorem dX5_even_1 : decode cX5_even 1 = .ok (.getfield 10, 3) := by decide +kernel
theorem dX5_even_4 : decode cX5_even 4 = .ok (.invokevirtual 214, 3) := by decide +kernel
theorem dX5_even_7 : decode cX5_even 7 = .ok (.aload_n 0, 1) := by decide +kernel
theorem dX5_even_8 : decode cX5_even 8 = .ok (.getfield 10, 3) := by decide +kernel
theorem dX5_even_11 : decode cX5_even 11 = .ok (.invokevirtual 217, 3) := by decide +kernel
theorem dX5_even_14 : decode cX5_even 14 = .ok (.isub, 1) := by decide +kernel
theorem dX5_even_15 : decode cX5_even 15 = .ok (.ireturn, 1) := by decide +kernel
theorem dX5_two_0 : decode cX5_two 0 = .ok (.aload_n 0, 1) := by decide +kernel
theorem dX5_two_1 : decode cX5_two 1 = .ok (.getfield 10, 3) := by decide +kernel
theorem dX5_two_4 : decode cX5_two 4 = .ok (.iload_n 1, 1) := by decide +kernel
theorem dX5_two_5 : decode cX5_two 5 = .ok (.invokevirtual 98, 3) := by decide +kernel
theorem dX5_two_8 : decode cX5_two 8 = .ok (.ifCond .eq 23, 3) := by decide +kernel
theorem dX5_two_11 : decode cX5_two 11 = .ok (.aload_n 0, 1) := by decide +kernel
theorem dX5_two_12 : decode cX5_two 12 = .ok (.getfield 10, 3) := by decide +kernel
theorem dX5_two_15 : decode cX5_two 15 = .ok (.iload_n 2, 1) := by decide +kernel
theorem dX5_two_16 : decode cX5_two 16 = .ok (.invokevirtual 98, 3) := by decide +kernel
theorem dX5_two_19 : decode cX5_two 19 = .ok (.ifCond .eq 12, 3) := by decide +kernel
theorem dX5_two_22 : decode cX5_two 22 = .ok (.iload_n 1, 1) := by decide +kernel
theorem dX5_two_23 : decode cX5_two 23 = .ok (.iload_n 2, 1) := by decide +kernel
theorem dX5_two_24 : decode cX5_two 24 = .ok (.if_icmp .eq 7, 3) := by decide +kernel
theorem dX5_two_27 : decode cX5_two 27 = .ok (.iconst 1, 1) := by decide +kernel
theorem dX5_two_28 : decode cX5_two 28 = .ok (.goto 4, 3) := by decide +kernel
theorem dX5_two_31 : decode cX5_two 31 = .ok (.iconst 0, 1) := by decide +kernel
theorem dX5_two_32 : decode cX5_two 32 = .ok (.invokestatic 82, 3) := by decide +kernel
theorem dX5_two_35 : decode cX5_two 35 = .ok (.iload_n 3, 1) := by decide +kernel
theorem dX5_two_36 : decode cX5_two 36 = .ok (.iconst 1, 1) := by decide +kernel
theorem dX5_two_37 : decode cX5_two 37 = .ok (.bipush 30, 2) := by decide +kernel
theorem dX5_two_39 : decode cX5_two 39 = .ok (.invokestatic 43, 3) := by decide +kernel
theorem dX5_two_42 : decode cX5_two 42 = .ok (.iconst 0, 1) := by decide +kernel
theorem dX5_two_43 : decode cX5_two 43 = .ok (.invokestatic 55, 3) := by decide +kernel
theorem dX5_two_46 : decode cX5_two 46 = .ok (.istore 4, 2) := by decide +kernel
theorem dX5_two_48 : decode cX5_two 48 = .ok (.iload 4, 2) := by decide +kernel
theorem dX5_two_50 : decode cX5_two 50 = .ok (.ifCond .eq 12, 3) := by decide +kernel
theorem dX5_two_53 : decode cX5_two 53 = .ok (.aload_n 0, 1) := by decide +kernel
theorem dX5_two_54 : decode cX5_two 54 = .ok (.iload 4, 2) := by decide +kernel
theorem dX5_two_56 : decode cX5_two 56 = .ok (.invokevirtual 58, 3) := by decide +kernel
theorem dX5_two_59 : decode cX5_two 59 = .ok (.goto 17, 3) := by decide +kernel
theorem dX5_two_62 : decode cX5_two 62 = .ok (.aload_n 0, 1) := by decide +kernel
theorem dX5_two_63 : decode cX5_two 63 = .ok (.getfield 32, 3) := by decide +kernel
theorem dX5_two_66 : decode cX5_two 66 = .ok (.aload_n 0, 1) := by decide +kernel
theorem dX5_two_67 : decode cX5_two 67 = .ok (.getfield 10, 3) := by decide +kernel
theorem dX5_two_70 : decode cX5_two 70 = .ok (.iload_n 1, 1) := by decide +kernel
theorem dX5_two_71 : decode cX5_two 71 = .ok (.iload_n 2, 1) := by decide +kernel
theorem dX5_two_72 : decode cX5_two 72 = .ok (.iload_n 3, 1) := by decide +kernel
theorem dX5_two_73 : decode cX5_two 73 = .ok (.invokevirtual 220, 3) := by decide +kernel
theorem dX5_two_76 : decode cX5_two 76 = .ok (.ireturn, 1) := by decide +kernel
theorem dX5_frost_0 : decode cX5_frost 0 = .ok (.iconst 0, 1) := by decide +kernel
theorem dX5_frost_1 : decode cX5_frost 1 = .ok (.istore 5, 2) := by decide +kernel
theorem dX5_frost_3 : decode cX5_frost 3 = .ok (.iload_n 1, 1) := by decide +kernel
theorem dX5_frost_4 : decode cX5_frost 4 = .ok (.ifCond .lt 12, 3) := by decide +kernel
theorem dX5_frost_7 : decode cX5_frost 7 = .ok (.iload_n 3, 1) := by decide +kernel
theorem dX5_frost_8 : decode cX5_frost 8 = .ok (.ifCond .lt 8, 3) := by decide +kernel
theorem dX5_frost_11 : decode cX5_frost 11 = .ok (.iload_n 2, 1) := by decide +kernel
theorem dX5_frost_12 : decode cX5_frost 12 = .ok (.iconst 2, 1) := by decide +kernel
theorem dX5_frost_13 : decode cX5_frost 13 = .ok (.if_icmp .ge 10, 3) := by decide +kernel
theorem dX5_frost_16 : decode cX5_frost 16 = .ok (.bipush (-4), 2) := by decide +kernel
theorem dX5_frost_18 : decode cX5_frost 18 = .ok (.istore 5, 2) := by decide +kernel
theorem dX5_frost_20 : decode cX5_frost 20 = .ok (.goto 37, 3) := by decide +kernel
theorem dX5_frost_23 : decode cX5_frost 23 = .ok (.iload_n 1, 1) := by decide +kernel
theorem dX5_frost_24 : decode cX5_frost 24 = .ok (.bipush 7, 2) := by decide +kernel
theorem dX5_frost_26 : decode cX5_frost 26 = .ok (.if_icmp .gt 16, 3) := by decide +kernel
theorem dX5_frost_29 : decode cX5_frost 29 = .ok (.iload_n 2, 1) := by decide +kernel
theorem dX5_frost_30 : decode cX5_frost 30 = .ok (.bipush 20, 2) := by decide +kernel
theorem dX5_frost_32 : decode cX5_frost 32 = .ok (.if_icmp .gt 10, 3) := by decide +kernel
theorem dX5_frost_35 : decode cX5_frost 35 = .ok (.iload_n 3, 1) := by decide +kernel
theorem dX5_frost_36 : decode cX5_frost 36 = .ok (.sipush 999, 3) := by decide +kernel
theorem dX5_frost_39 : decode cX5_frost 39 = .ok (.if_icmp .le 10, 3) := by decide +kernel
theorem dX5_frost_42 : decode cX5_frost 42 = .ok (.bipush (-6), 2) := by decide +kernel
theorem dX5_frost_44 : decode cX5_frost 44 = .ok (.istore 5, 2) := by decide +kernel
theorem dX5_frost_46 : decode cX5_frost 46 = .ok (.goto 11, 3) := by decide +kernel
theorem dX5_frost_49 : decode cX5_frost 49 = .ok (.iload 4, 2) := by decide +kernel
theorem dX5_frost_51 : decode cX5_frost 51 = .ok (.iconst 1, 1) := by decide +kernel
theorem dX5_frost_52 : decode cX5_frost 52 = .ok (.invokestatic 85, 3) := by decide +kernel
theorem dX5_frost_55 : decode cX5_frost 55 = .ok (.istore 5, 2) := by decide +kernel
theorem dX5_frost_57 : decode cX5_frost 57 = .ok (.iload 5, 2) := by decide +kernel
theorem dX5_frost_59 : decode cX5_frost 59 = .ok (.ifCond .eq 15, 3) := by decide +kernel
theorem dX5_frost_62 : decode cX5_frost 62 = .ok (.ldc2_w 224, 3) := by decide +kernel
theorem dX5_frost_65 : decode cX5_frost 65 = .ok (.aload_n 0, 1) := by decide +kernel
theorem dX5_frost_66 : decode cX5_frost 66 = .ok (.iload 5, 2) := by decide +kernel
theorem dX5_frost_68 : decode cX5_frost 68 = .ok (.invokevirtual 58, 3) := by decide +kernel
theorem dX5_frost_71 : decode cX5_frost 71 = .ok (.i2l, 1) := by decide +kernel
theorem dX5_frost_72 : decode cX5_frost 72 = .ok (.lsub, 1) := by decide +kernel
theorem dX5_frost_73 : decode cX5_frost 73 = .ok (.lreturn, 1) := by decide +kernel
theorem dX5_frost_74 : decode cX5_frost 74 = .ok (.lconst 1, 1) := by decide +kernel
theorem dX5_frost_75 : decode cX5_frost 75 = .ok (.lstore 6, 2) := by decide +kernel
theorem dX5_frost_77 : decode cX5_frost 77 = .ok (.iconst 0, 1) := by decide +kernel
theorem dX5_frost_78 : decode cX5_frost 78 = .ok (.istore 8, 2) := by decide +kernel
theorem dX5_frost_80 : decode cX5_frost 80 = .ok (.iload 8, 2) := by decide +kernel
theorem dX5_frost_82 : decode cX5_frost 82 = .ok (.iload_n 1, 1) := by decide +kernel
theorem dX5_frost_83 : decode cX5_frost 83 = .ok (.if_icmp .ge 16, 3) := by decide +kernel
theorem dX5_frost_86 : decode cX5_frost 86 = .ok (.lload 6, 2) := by decide +kernel
theorem dX5_frost_88 : decode cX5_frost 88 = .ok (.iload_n 2, 1) := by decide +kernel
theorem dX5_frost_89 : decode cX5_frost 89 = .ok (.i2l, 1) := by decide +kernel
theorem dX5_frost_90 : decode cX5_frost 90 = .ok (.lmul, 1) := by decide +kernel
theorem dX5_frost_91 : decode cX5_frost 91 = .ok (.lstore 6, 2) := by decide +kernel
theorem dX5_frost_93 : decode cX5_frost 93 = .ok (.iinc 8 1, 3) := by decide +kernel
theorem dX5_frost_96 : decode cX5_frost 96 = .ok (.goto (-16), 3) := by decide +kernel
theorem dX5_frost_99 : decode cX5_frost 99 = .ok (.aload_n 0, 1) := by decide +kernel
theorem dX5_frost_100 : decode cX5_frost 100 = .ok (.getfield 32, 3) := by decide +kernel
theorem dX5_frost_103 : decode cX5_frost 103 = .ok (.aload_n 0, 1) := by decide +kernel
theorem dX5_frost_104 : decode cX5_frost 104 = .ok (.getfield 10, 3) := by decide +kernel
theorem dX5_frost_107 : decode cX5_frost 107 = .ok (.iload_n 1, 1) := by decide +kernel
theorem dX5_frost_108 : decode cX5_frost 108 = .ok (.iload_n 2, 1) := by decide +kernel
theorem dX5_frost_109 : decode cX5_frost 109 = .ok (.iload_n 3, 1) := by decide +kernel
theorem dX5_frost_110 : decode cX5_frost 110 = .ok (.invokevirtual 226, 3) := by decide +kernel
theorem dX5_frost_113 : decode cX5_frost 113 = .ok (.lload 6, 2) := by decide +kernel
theorem dX5_frost_115 : decode cX5_frost 115 = .ok (.iload 4, 2) := by decide +kernel
theorem dX5_frost_117 : decode cX5_frost 117 = .ok (.invokestatic 230, 3) := by decide +kernel
theorem dX5_frost_120 : decode cX5_frost 120 = .ok (.lreturn, 1) := by decide +kernel
theorem dX5_mean_0 : decode cX5_mean 0 = .ok (.iload_n 1, 1) := by decide +kernel
theorem dX5_mean_1 : decode cX5_mean 1 = .ok (.iconst 1, 1) := by decide +kernel
theorem dX5_mean_2 : decode cX5_mean 2 = .ok (.invokestatic 85, 3) := by decide +kernel
theorem dX5_mean_5 : decode cX5_mean 5 = .ok (.istore_n 2, 1) := by decide +kernel
theorem dX5_mean_6 : decode cX5_mean 6 = .ok (.iload_n 2, 1) := by decide +kernel
theorem dX5_mean_7 : decode cX5_mean 7 = .ok (.ifCond .eq 14, 3) := by decide +kernel
theorem dX5_mean_10 : decode cX5_mean 10 = .ok (.ldc2_w 224, 3) := by decide +kernel
theorem dX5_mean_13 : decode cX5_mean 13 = .ok (.aload_n 0, 1) := by decide +kernel
theorem dX5_mean_14 : decode cX5_mean 14 = .ok (.iload_n 2, 1) := by decide +kernel
theorem dX5_mean_15 : decode cX5_mean 15 = .ok (.invokevirtual 58, 3) := by decide +kernel
theorem dX5_mean_18 : decode cX5_mean 18 = .ok (.i2l, 1) := by decide +kernel
theorem dX5_mean_19 : decode cX5_mean 19 = .ok (.lsub, 1) := by decide +kernel
theorem dX5_mean_20 : decode cX5_mean 20 = .ok (.lreturn, 1) := by decide +kernel
theorem dX5_mean_21 : decode cX5_mean 21 = .ok (.aload_n 0, 1) := by decide +kernel
theorem dX5_mean_22 : decode cX5_mean 22 = .ok (.getfield 10, 3) := by decide +kernel
theorem dX5_mean_25 : decode cX5_mean 25 = .ok (.invokevirtual 234, 3) := by decide +kernel
theorem dX5_mean_28 : decode cX5_mean 28 = .ok (.i2l, 1) := by decide +kernel
theorem dX5_mean_29 : decode cX5_mean 29 = .ok (.iconst 1, 1) := by decide +kernel
theorem dX5_mean_30 : decode cX5_mean 30 = .ok (.aload_n 0, 1) := by decide +kernel
theorem dX5_mean_31 : decode cX5_mean 31 = .ok (.getfield 10, 3) := by decide +kernel
theorem dX5_mean_34 : decode cX5_mean 34 = .ok (.getfield 237, 3) := by decide +kernel
theorem dX5_mean_37 : decode cX5_mean 37 = .ok (.invokestatic 240, 3) := by decide +kernel
theorem dX5_mean_40 : decode cX5_mean 40 = .ok (.i2l, 1) := by decide +kernel
theorem dX5_mean_41 : decode cX5_mean 41 = .ok (.iload_n 1, 1) := by decide +kernel
theorem dX5_mean_42 : decode cX5_mean 42 = .ok (.invokestatic 230, 3) := by decide +kernel
theorem dX5_mean_45 : decode cX5_mean 45 = .ok (.lreturn, 1) := by decide +kernel
theorem dX5_whoSat_0 : decode cX5_whoSat 0 = .ok (.aload_n 0, 1) := by decide +kernel
theorem dX5_whoSat_1 : decode cX5_whoSat 1 = .ok (.getfield 10, 3) := by decide +kernel
theorem dX5_whoSat_4 : decode cX5_whoSat 4 = .ok (.iload_n 1, 1) := by decide +kernel
theorem dX5_whoSat_5 : decode cX5_whoSat 5 = .ok (.invokevirtual 78, 3) := by decide +kernel
theorem dX5_whoSat_8 : decode cX5_whoSat 8 = .ok (.ifCond .eq 18, 3) := by decide +kernel
theorem dX5_whoSat_11 : decode cX5_whoSat 11 = .ok (.aload_n 0, 1) := by decide +kernel
theorem dX5_whoSat_12 : decode cX5_whoSat 12 = .ok (.getfield 10, 3) := by decide +kernel
theorem dX5_whoSat_15 : decode cX5_whoSat 15 = .ok (.iload_n 2, 1) := by decide +kernel
theorem dX5_whoSat_16 : decode cX5_whoSat 16 = .ok (.invokevirtual 98, 3) := by decide +kernel
theorem dX5_whoSat_19 : decode cX5_whoSat 19 = .ok (.ifCond .eq 7, 3) := by decide +kernel
theorem dX5_whoSat_22 : decode cX5_whoSat 22 = .ok (.iconst 1, 1) := by decide +kernel
theorem dX5_whoSat_23 : decode cX5_whoSat 23 = .ok (.goto 4, 3) := by decide +kernel
theorem dX5_whoSat_26 : decode cX5_whoSat 26 = .ok (.iconst 0, 1) := by decide +kernel
theorem dX5_whoSat_27 : decode cX5_whoSat 27 = .ok (.invokestatic 82, 3) := by decide +kernel
theorem dX5_whoSat_30 : decode cX5_whoSat 30 = .ok (.iload_n 3, 1) := by decide +kernel
theorem dX5_whoSat_31 : decode cX5_whoSat 31 = .ok (.iconst 1, 1) := by decide +kernel
theorem dX5_whoSat_32 : decode cX5_whoSat 32 = .ok (.invokestatic 85, 3) := by decide +kernel
theorem dX5_whoSat_35 : decode cX5_whoSat 35 = .ok (.iconst 0, 1) := by decide +kernel
theorem dX5_whoSat_36 : decode cX5_whoSat 36 = .ok (.invokestatic 55, 3) := by decide +kernel
theorem dX5_whoSat_39 : decode cX5_whoSat 39 = .ok (.istore 4, 2) := by decide +kernel
theorem dX5_whoSat_41 : decode cX5_whoSat 41 = .ok (.iload 4, 2) := by decide +kernel
theorem dX5_whoSat_43 : decode cX5_whoSat 43 = .ok (.ifCond .eq 10, 3) := by decide +kernel
theorem dX5_whoSat_46 : decode cX5_whoSat 46 = .ok (.aload_n 0, 1) := by decide +kernel
theorem dX5_whoSat_47 : decode cX5_whoSat 47 = .ok (.iload 4, 2) := by decide +kernel
theorem dX5_whoSat_49 : decode cX5_whoSat 49 = .ok (.invokevirtual 58, 3) := by decide +kernel
theorem dX5_whoSat_52 : decode cX5_whoSat 52 = .ok (.ireturn, 1) := by decide +kernel
theorem dX5_whoSat_53 : decode cX5_whoSat 53 = .ok (.iload_n 3, 1) := by decide +kernel
theorem dX5_whoSat_54 : decode cX5_whoSat 54 = .ok (.ifCond .ne 8, 3) := by decide +kernel
theorem dX5_whoSat_57 : decode cX5_whoSat 57 = .ok (.bipush 6, 2) := by decide +kernel
theorem dX5_whoSat_59 : decode cX5_whoSat 59 = .ok (.goto 5, 3) := by decide +kernel
theorem dX5_whoSat_62 : decode cX5_whoSat 62 = .ok (.bipush 10, 2) := by decide +kernel
theorem dX5_whoSat_64 : decode cX5_whoSat 64 = .ok (.istore 5, 2) := by decide +kernel
theorem dX5_whoSat_66 : decode cX5_whoSat 66 = .ok (.iconst 0, 1) := by decide +kernel
theorem dX5_whoSat_67 : decode cX5_whoSat 67 = .ok (.istore 6, 2) := by decide +kernel
theorem dX5_whoSat_69 : decode cX5_whoSat 69 = .ok (.iconst 0, 1) := by decide +kernel
theorem dX5_whoSat_70 : decode cX5_whoSat 70 = .ok (.istore 7, 2) := by decide +kernel
theorem dX5_whoSat_72 : decode cX5_whoSat 72 = .ok (.iload 7, 2) := by decide +kernel
theorem dX5_whoSat_74 : decode cX5_whoSat 74 = .ok (.iload 5, 2) := by decide +kernel
theorem dX5_whoSat_76 : decode cX5_whoSat 76 = .ok (.if_icmp .ge 86, 3) := by decide +kernel
theorem dX5_whoSat_79 : decode cX5_whoSat 79 = .ok (.iload_n 3, 1) := by decide +kernel
theorem dX5_whoSat_80 : decode cX5_whoSat 80 = .ok (.ifCond .ne 8, 3) := by decide +kernel
theorem dX5_whoSat_83 : decode cX5_whoSat 83 = .ok (.iload 7, 2) := by decide +kernel
theorem dX5_whoSat_85 : decode cX5_whoSat 85 = .ok (.goto 12, 3) := by decide +kernel
theorem dX5_whoSat_88 : decode cX5_whoSat 88 = .ok (.aload_n 0, 1) := by decide +kernel
theorem dX5_whoSat_89 : decode cX5_whoSat 89 = .ok (.getfield 10, 3) := by decide +kernel
theorem dX5_whoSat_92 : decode cX5_whoSat 92 = .ok (.getfield 101, 3) := by decide +kernel
theorem dX5_whoSat_95 : decode cX5_whoSat 95 = .ok (.iload_n 2, 1) := by decide +kernel
theorem dX5_whoSat_96 : decode cX5_whoSat 96 = .ok (.iaload, 1) := by decide +kernel
theorem dX5_whoSat_97 : decode cX5_whoSat 97 = .ok (.istore 8, 2) := by decide +kernel
theorem dX5_whoSat_99 : decode cX5_whoSat 99 = .ok (.iload_n 3, 1) := by decide +kernel
theorem dX5_whoSat_100 : decode cX5_whoSat 100 = .ok (.ifCond .ne 15, 3) := by decide +kernel
theorem dX5_whoSat_103 : decode cX5_whoSat 103 = .ok (.aload_n 0, 1) := by decide +kernel
theorem dX5_whoSat_104 : decode cX5_whoSat 104 = .ok (.getfield 10, 3) := by decide +kernel
theorem dX5_whoSat_107 : decode cX5_whoSat 107 = .ok (.getfield 104, 3) := by decide +kernel
theorem dX5_whoSat_110 : decode cX5_whoSat 110 = .ok (.iload_n 2, 1) := by decide +kernel
theorem dX5_whoSat_111 : decode cX5_whoSat 111 = .ok (.iaload, 1) := by decide +kernel
theorem dX5_whoSat_112 : decode cX5_whoSat 112 = .ok (.goto 5, 3) := by decide +kernel
theorem dX5_whoSat_115 : decode cX5_whoSat 115 = .ok (.iload 7, 2) := by decide +kernel
theorem dX5_whoSat_117 : decode cX5_whoSat 117 = .ok (.istore 9, 2) := by decide +kernel
theorem dX5_whoSat_119 : decode cX5_whoSat 119 = .ok (.aload_n 0, 1) := by decide +kernel
theorem dX5_whoSat_120 : decode cX5_whoSat 120 = .ok (.getfield 32, 3) := by decide +kernel
theorem dX5_whoSat_123 : decode cX5_whoSat 123 = .ok (.aload_n 0, 1) := by decide +kernel
theorem dX5_whoSat_124 : decode cX5_whoSat 124 = .ok (.getfield 10, 3) := by decide +kernel
theorem dX5_whoSat_127 : decode cX5_whoSat 127 = .ok (.iload_n 2, 1) := by decide +kernel
theorem dX5_whoSat_128 : decode cX5_whoSat 128 = .ok (.iload 8, 2) := by decide +kernel
theorem dX5_whoSat_130 : decode cX5_whoSat 130 = .ok (.iload 9, 2) := by decide +kernel
theorem dX5_whoSat_132 : decode cX5_whoSat 132 = .ok (.invokevirtual 245, 3) := by decide +kernel
theorem dX5_whoSat_135 : decode cX5_whoSat 135 = .ok (.iload 6, 2) := by decide +kernel
theorem dX5_whoSat_137 : decode cX5_whoSat 137 = .ok (.aload_n 0, 1) := by decide +kernel
theorem dX5_whoSat_138 : decode cX5_whoSat 138 = .ok (.iload_n 1, 1) := by decide +kernel
theorem dX5_whoSat_139 : decode cX5_whoSat 139 = .ok (.invokevirtual 249, 3) := by decide +kernel
theorem dX5_whoSat_142 : decode cX5_whoSat 142 = .ok (.ifCond .eq 10, 3) := by decide +kernel
theorem dX5_whoSat_145 : decode cX5_whoSat 145 = .ok (.iconst 1, 1) := by decide +kernel
theorem dX5_whoSat_146 : decode cX5_whoSat 146 = .ok (.iload 7, 2) := by decide +kernel
theorem dX5_whoSat_148 : decode cX5_whoSat 148 = .ok (.ishl, 1) := by decide +kernel
theorem dX5_whoSat_149 : decode cX5_whoSat 149 = .ok (.goto 4, 3) := by decide +kernel
theorem dX5_whoSat_152 : decode cX5_whoSat 152 = .ok (.iconst 0, 1) := by decide +kernel
theorem dX5_whoSat_153 : decode cX5_whoSat 153 = .ok (.ior, 1) := by decide +kernel
theorem dX5_whoSat_154 : decode cX5_whoSat 154 = .ok (.istore 6, 2) := by decide +kernel
theorem dX5_whoSat_156 : decode cX5_whoSat 156 = .ok (.iinc 7 1, 3) := by decide +kernel
theorem dX5_whoSat_159 : decode cX5_whoSat 159 = .ok (.goto (-87), 3) := by decide +kernel
theorem dX5_whoSat_162 : decode cX5_whoSat 162 = .ok (.iload 6, 2) := by decide +kernel
theorem dX5_whoSat_164 : decode cX5_whoSat 164 = .ok (.ireturn, 1) := by decide +kernel
theorem dX5_row_0 : decode cX5_row 0 = .ok (.iload_n 1, 1) := by decide +kernel
theorem dX5_row_1 : decode cX5_row 1 = .ok (.iconst 0, 1) := by decide +kernel
theorem dX5_row_2 : decode cX5_row 2 = .ok (.bipush 99, 2) := by decide +kernel
theorem dX5_row_4 : decode cX5_row 4 = .ok (.invokestatic 43, 3) := by decide +kernel
theorem dX5_row_7 : decode cX5_row 7 = .ok (.aload_n 0, 1) := by decide +kernel
theorem dX5_row_8 : decode cX5_row 8 = .ok (.getfield 252, 3) := by decide +kernel
theorem dX5_row_11 : decode cX5_row 11 = .ok (.bipush 16, 2) := by decide +kernel
theorem dX5_row_13 : decode cX5_row 13 = .ok (.if_icmp .ge 7, 3) := by decide +kernel
theorem dX5_row_16 : decode cX5_row 16 = .ok (.iconst 1, 1) := by decide +kernel
theorem dX5_row_17 : decode cX5_row 17 = .ok (.goto 4, 3) := by decide +kernel
theorem dX5_row_20 : decode cX5_row 20 = .ok (.iconst 0, 1) := by decide +kernel
theorem dX5_row_21 : decode cX5_row 21 = .ok (.invokestatic 51, 3) := by decide +kernel
theorem dX5_row_24 : decode cX5_row 24 = .ok (.iconst 0, 1) := by decide +kernel
theorem dX5_row_25 : decode cX5_row 25 = .ok (.invokestatic 55, 3) := by decide +kernel
theorem dX5_row_28 : decode cX5_row 28 = .ok (.istore_n 2, 1) := by decide +kernel
theorem dX5_row_29 : decode cX5_row 29 = .ok (.iload_n 2, 1) := by decide +kernel
theorem dX5_row_30 : decode cX5_row 30 = .ok (.ifCond .eq 9, 3) := by decide +kernel
theorem dX5_row_33 : decode cX5_row 33 = .ok (.aload_n 0, 1) := by decide +kernel
theorem dX5_row_34 : decode cX5_row 34 = .ok (.iload_n 2, 1) := by decide +kernel
theorem dX5_row_35 : decode cX5_row 35 = .ok (.invokevirtual 58, 3) := by decide +kernel
theorem dX5_row_38 : decode cX5_row 38 = .ok (.ireturn, 1) := by decide +kernel
theorem dX5_row_39 : decode cX5_row 39 = .ok (.aload_n 0, 1) := by decide +kernel
theorem dX5_row_40 : decode cX5_row 40 = .ok (.getfield 36, 3) := by decide +kernel
theorem dX5_row_43 : decode cX5_row 43 = .ok (.aload_n 0, 1) := by decide +kernel
theorem dX5_row_44 : decode cX5_row 44 = .ok (.getfield 252, 3) := by decide +kernel
theorem dX5_row_47 : decode cX5_row 47 = .ok (.iload_n 1, 1) := by decide +kernel
theorem dX5_row_48 : decode cX5_row 48 = .ok (.iastore, 1) := by decide +kernel
theorem dX5_row_49 : decode cX5_row 49 = .ok (.aload_n 0, 1) := by decide +kernel
theorem dX5_row_50 : decode cX5_row 50 = .ok (.dup, 1) := by decide +kernel
theorem dX5_row_51 : decode cX5_row 51 = .ok (.getfield 252, 3) := by decide +kernel
theorem dX5_row_54 : decode cX5_row 54 = .ok (.iconst 1, 1) := by decide +kernel
theorem dX5_row_55 : decode cX5_row 55 = .ok (.iadd, 1) := by decide +kernel
theorem dX5_row_56 : decode cX5_row 56 = .ok (.putfield 252, 3) := by decide +kernel
theorem dX5_row_59 : decode cX5_row 59 = .ok (.aload_n 0, 1) := by decide +kernel
theorem dX5_row_60 : decode cX5_row 60 = .ok (.getfield 252, 3) := by decide +kernel
theorem dX5_row_63 : decode cX5_row 63 = .ok (.ireturn, 1) := by decide +kernel
theorem dX5_judge_0 : decode cX5_judge 0 = .ok (.aload_n 0, 1) := by decide +kernel
theorem dX5_judge_1 : decode cX5_judge 1 = .ok (.invokevirtual 255, 3) := by decide +kernel
theorem dX5_judge_4 : decode cX5_judge 4 = .ok (.istore_n 1, 1) := by decide +kernel
theorem dX5_judge_5 : decode cX5_judge 5 = .ok (.aload_n 0, 1) := by decide +kernel
theorem dX5_judge_6 : decode cX5_judge 6 = .ok (.iconst 0, 1) := by decide +kernel
theorem dX5_judge_7 : decode cX5_judge 7 = .ok (.putfield 252, 3) := by decide +kernel
theorem dX5_judge_10 : decode cX5_judge 10 = .ok (.iload_n 1, 1) := by decide +kernel
theorem dX5_judge_11 : decode cX5_judge 11 = .ok (.ireturn, 1) := by decide +kernel
theorem dX5_clear_0 : decode cX5_clear 0 = .ok (.aload_n 0, 1) := by decide +kernel
theorem dX5_clear_1 : decode cX5_clear 1 = .ok (.getfield 252, 3) := by decide +kernel
theorem dX5_clear_4 : decode cX5_clear 4 = .ok (.istore_n 1, 1) := by decide +kernel
theorem dX5_clear_5 : decode cX5_clear 5 = .ok (.aload_n 0, 1) := by decide +kernel
theorem dX5_clear_6 : decode cX5_clear 6 = .ok (.iconst 0, 1) := by decide +kernel
theorem dX5_clear_7 : decode cX5_clear 7 = .ok (.putfield 252, 3) := by decide +kernel
theorem dX5_clear_10 : decode cX5_clear 10 = .ok (.iload_n 1, 1) := by decide +kernel
theorem dX5_clear_11 : decode cX5_clear 11 = .ok (.ireturn, 1) := by decide +kernel
theorem dX5_lots_0 : decode cX5_lots 0 = .ok (.iload_n 1, 1) := by decide +kernel
theorem dX5_lots_1 : decode cX5_lots 1 = .ok (.iconst 1, 1) := by decide +kernel
theorem dX5_lots_2 : decode cX5_lots 2 = .ok (.bipush 20, 2) := by decide +kernel
theorem dX5_lots_4 : decode cX5_lots 4 = .ok (.invokestatic 43, 3) := by decide +kernel
theorem dX5_lots_7 : decode cX5_lots 7 = .ok (.iload_n 3, 1) := by decide +kernel
theorem dX5_lots_8 : decode cX5_lots 8 = .ok (.iconst 1, 1) := by decide +kernel
theorem dX5_lots_9 : decode cX5_lots 9 = .ok (.invokestatic 85, 3) := by decide +kernel
theorem dX5_lots_12 : decode cX5_lots 12 = .ok (.iconst 0, 1) := by decide +kernel
theorem dX5_lots_13 : decode cX5_lots 13 = .ok (.invokestatic 55, 3) := by decide +kernel
theorem dX5_lots_16 : decode cX5_lots 16 = .ok (.istore 4, 2) := by decide +kernel
theorem dX5_lots_18 : decode cX5_lots 18 = .ok (.iload 4, 2) := by decide +kernel
theorem dX5_lots_20 : decode cX5_lots 20 = .ok (.ifCond .eq 12, 3) := by decide +kernel
theorem dX5_lots_23 : decode cX5_lots 23 = .ok (.aload_n 0, 1) := by decide +kernel
theorem dX5_lots_24 : decode cX5_lots 24 = .ok (.iload 4, 2) := by decide +kernel
theorem dX5_lots_26 : decode cX5_lots 26 = .ok (.invokevirtual 58, 3) := by decide +kernel
theorem dX5_lots_29 : decode cX5_lots 29 = .ok (.goto 25, 3) := by decide +kernel
theorem dX5_lots_32 : decode cX5_lots 32 = .ok (.aload_n 0, 1) := by decide +kernel
theorem dX5_lots_33 : decode cX5_lots 33 = .ok (.getfield 32, 3) := by decide +kernel
theorem dX5_lots_36 : decode cX5_lots 36 = .ok (.aload_n 0, 1) := by decide +kernel
theorem dX5_lots_37 : decode cX5_lots 37 = .ok (.getfield 10, 3) := by decide +kernel
theorem dX5_lots_40 : decode cX5_lots 40 = .ok (.iload_n 1, 1) := by decide +kernel
theorem dX5_lots_41 : decode cX5_lots 41 = .ok (.iload_n 2, 1) := by decide +kernel
theorem dX5_lots_42 : decode cX5_lots 42 = .ok (.iload_n 3, 1) := by decide +kernel
theorem dX5_lots_43 : decode cX5_lots 43 = .ok (.ifCond .ne 7, 3) := by decide +kernel
theorem dX5_lots_46 : decode cX5_lots 46 = .ok (.iconst 1, 1) := by decide +kernel
theorem dX5_lots_47 : decode cX5_lots 47 = .ok (.goto 4, 3) := by decide +kernel
theorem dX5_lots_50 : decode cX5_lots 50 = .ok (.iconst 0, 1) := by decide +kernel
theorem dX5_lots_51 : decode cX5_lots 51 = .ok (.invokevirtual 258, 3) := by decide +kernel
theorem dX5_lots_54 : decode cX5_lots 54 = .ok (.ireturn, 1) := by decide +kernel
theorem dX5_image_0 : decode cX5_image 0 = .ok (.aload_n 0, 1) := by decide +kernel
theorem dX5_image_1 : decode cX5_image 1 = .ok (.getfield 16, 3) := by decide +kernel
theorem dX5_image_4 : decode cX5_image 4 = .ok (.aload_n 0, 1) := by decide +kernel
theorem dX5_image_5 : decode cX5_image 5 = .ok (.getfield 10, 3) := by decide +kernel
theorem dX5_image_8 : decode cX5_image 8 = .ok (.invokevirtual 70, 3) := by decide +kernel
theorem dX5_image_11 : decode cX5_image 11 = .ok (.aload_n 0, 1) := by decide +kernel
theorem dX5_image_12 : decode cX5_image 12 = .ok (.iconst 1, 1) := by decide +kernel
theorem dX5_image_13 : decode cX5_image 13 = .ok (.putfield 262, 3) := by decide +kernel
theorem dX5_image_16 : decode cX5_image 16 = .ok (.aload_n 0, 1) := by decide +kernel
theorem dX5_image_17 : decode cX5_image 17 = .ok (.getfield 10, 3) := by decide +kernel
theorem dX5_image_20 : decode cX5_image 20 = .ok (.getfield 266, 3) := by decide +kernel
theorem dX5_image_23 : decode cX5_image 23 = .ok (.ireturn, 1) := by decide +kernel
theorem dX5_on_0 : decode cX5_on 0 = .ok (.aload_n 0, 1) := by decide +kernel
theorem dX5_on_1 : decode cX5_on 1 = .ok (.getfield 262, 3) := by decide +kernel
theorem dX5_on_4 : decode cX5_on 4 = .ok (.ifCond .ne 10, 3) := by decide +kernel
theorem dX5_on_7 : decode cX5_on 7 = .ok (.aload_n 0, 1) := by decide +kernel
theorem dX5_on_8 : decode cX5_on 8 = .ok (.bipush (-3), 2) := by decide +kernel
theorem dX5_on_10 : decode cX5_on 10 = .ok (.invokevirtual 58, 3) := by decide +kernel
theorem dX5_on_13 : decode cX5_on 13 = .ok (.ireturn, 1) := by decide +kernel
theorem dX5_on_14 : decode cX5_on 14 = .ok (.aload_n 0, 1) := by decide +kernel
theorem dX5_on_15 : decode cX5_on 15 = .ok (.getfield 10, 3) := by decide +kernel
theorem dX5_on_18 : decode cX5_on 18 = .ok (.aload_n 0, 1) := by decide +kernel
theorem dX5_on_19 : decode cX5_on 19 = .ok (.getfield 16, 3) := by decide +kernel
theorem dX5_on_22 : decode cX5_on 22 = .ok (.invokevirtual 70, 3) := by decide +kernel
theorem dX5_on_25 : decode cX5_on 25 = .ok (.aload_n 0, 1) := by decide +kernel
theorem dX5_on_26 : decode cX5_on 26 = .ok (.getfield 10, 3) := by decide +kernel
theorem dX5_on_29 : decode cX5_on 29 = .ok (.getfield 266, 3) := by decide +kernel
theorem dX5_on_32 : decode cX5_on 32 = .ok (.ireturn, 1) := by decide +kernel
theorem dX5_count_0 : decode cX5_count 0 = .ok (.iload_n 1, 1) := by decide +kernel
theorem dX5_count_1 : decode cX5_count 1 = .ok (.bipush 10, 2) := by decide +kernel
theorem dX5_count_3 : decode cX5_count 3 = .ok (.if_icmp .le 25, 3) := by decide +kernel
theorem dX5_count_6 : decode cX5_count 6 = .ok (.iload_n 1, 1) := by decide +kernel
theorem dX5_count_7 : decode cX5_count 7 = .ok (.bipush 10, 2) := by decide +kernel
theorem dX5_count_9 : decode cX5_count 9 = .ok (.isub, 1) := by decide +kernel
theorem dX5_count_10 : decode cX5_count 10 = .ok (.aload_n 0, 1) := by decide +kernel
theorem dX5_count_11 : decode cX5_count 11 = .ok (.getfield 40, 3) := by decide +kernel
theorem dX5_count_14 : decode cX5_count 14 = .ok (.arraylength, 1) := by decide +kernel
theorem dX5_count_15 : decode cX5_count 15 = .ok (.if_icmp .ge 13, 3) := by decide +kernel
theorem dX5_count_18 : decode cX5_count 18 = .ok (.aload_n 0, 1) := by decide +kernel
theorem dX5_count_19 : decode cX5_count 19 = .ok (.getfield 40, 3) := by decide +kernel
theorem dX5_count_22 : decode cX5_count 22 = .ok (.iload_n 1, 1) := by decide +kernel
theorem dX5_count_23 : decode cX5_count 23 = .ok (.bipush 10, 2) := by decide +kernel
theorem dX5_count_25 : decode cX5_count 25 = .ok (.isub, 1) := by decide +kernel
theorem dX5_count_26 : decode cX5_count 26 = .ok (.iaload, 1) := by decide +kernel
theorem dX5_count_27 : decode cX5_count 27 = .ok (.ireturn, 1) := by decide +kernel
theorem dX5_count_28 : decode cX5_count 28 = .ok (.iload_n 1, 1) := by decide +kernel
theorem dX5_count_29 : decode cX5_count 29 = .ok (.tableswitch 108 0 7 #[47, 55, 63, 71, 79, 87, 95, 100], 47) := by decide +kernel
theorem dX5_count_76 : decode cX5_count 76 = .ok (.aload_n 0, 1) := by decide +kernel
theorem dX5_count_77 : decode cX5_count 77 = .ok (.getfield 10, 3) := by decide +kernel
theorem dX5_count_80 : decode cX5_count 80 = .ok (.getfield 237, 3) := by decide +kernel
theorem dX5_count_83 : decode cX5_count 83 = .ok (.ireturn, 1) := by decide +kernel
theorem dX5_count_84 : decode cX5_count 84 = .ok (.aload_n 0, 1) := by decide +kernel
theorem dX5_count_85 : decode cX5_count 85 = .ok (.getfield 10, 3) := by decide +kernel
theorem dX5_count_88 : decode cX5_count 88 = .ok (.getfield 269, 3) := by decide +kernel
theorem dX5_count_91 : decode cX5_count 91 = .ok (.ireturn, 1) := by decide +kernel
theorem dX5_count_92 : decode cX5_count 92 = .ok (.aload_n 0, 1) := by decide +kernel
theorem dX5_count_93 : decode cX5_count 93 = .ok (.getfield 10, 3) := by decide +kernel
theorem dX5_count_96 : decode cX5_count 96 = .ok (.getfield 266, 3) := by decide +kernel
theorem dX5_count_99 : decode cX5_count 99 = .ok (.ireturn, 1) := by decide +kernel
theorem dX5_count_100 : decode cX5_count 100 = .ok (.aload_n 0, 1) := by decide +kernel
theorem dX5_count_101 : decode cX5_count 101 = .ok (.getfield 10, 3) := by decide +kernel
theorem dX5_count_104 : decode cX5_count 104 = .ok (.getfield 132, 3) := by decide +kernel
theorem dX5_count_107 : decode cX5_count 107 = .ok (.ireturn, 1) := by decide +kernel
theorem dX5_count_108 : decode cX5_count 108 = .ok (.aload_n 0, 1) := by decide +kernel
theorem dX5_count_109 : decode cX5_count 109 = .ok (.getfield 10, 3) := by decide +kernel
theorem dX5_count_112 : decode cX5_count 112 = .ok (.getfield 141, 3) := by decide +kernel
theorem dX5_count_115 : decode cX5_count 115 = .ok (.ireturn, 1) := by decide +kernel
theorem dX5_count_116 : decode cX5_count 116 = .ok (.aload_n 0, 1) := by decide +kernel
theorem dX5_count_117 : decode cX5_count 117 = .ok (.getfield 10, 3) := by decide +kernel
theorem dX5_count_120 : decode cX5_count 120 = .ok (.invokevirtual 234, 3) := by decide +kernel
theorem dX5_count_123 : decode cX5_count 123 = .ok (.ireturn, 1) := by decide +kernel
theorem dX5_count_124 : decode cX5_count 124 = .ok (.aload_n 0, 1) := by decide +kernel
theorem dX5_count_125 : decode cX5_count 125 = .ok (.getfield 252, 3) := by decide +kernel
theorem dX5_count_128 : decode cX5_count 128 = .ok (.ireturn, 1) := by decide +kernel
theorem dX5_count_129 : decode cX5_count 129 = .ok (.aload_n 0, 1) := by decide +kernel
theorem dX5_count_130 : decode cX5_count 130 = .ok (.getfield 25, 3) := by decide +kernel
theorem dX5_count_133 : decode cX5_count 133 = .ok (.getfield 66, 3) := by decide +kernel
theorem dX5_count_136 : decode cX5_count 136 = .ok (.ireturn, 1) := by decide +kernel
theorem dX5_count_137 : decode cX5_count 137 = .ok (.bipush (-9), 2) := by decide +kernel
theorem dX5_count_139 : decode cX5_count 139 = .ok (.ireturn, 1) := by decide +kernel
theorem dX5_greensAreTheRow_0 : decode cX5_greensAreTheRow 0 = .ok (.iconst 0, 1) := by decide +kernel
theorem dX5_greensAreTheRow_1 : decode cX5_greensAreTheRow 1 = .ok (.istore_n 2, 1) := by decide +kernel
theorem dX5_greensAreTheRow_2 : decode cX5_greensAreTheRow 2 = .ok (.iload_n 2, 1) := by decide +kernel
theorem dX5_greensAreTheRow_3 : decode cX5_greensAreTheRow 3 = .ok (.aload_n 0, 1) := by decide +kernel
theorem dX5_greensAreTheRow_4 : decode cX5_greensAreTheRow 4 = .ok (.getfield 252, 3) := by decide +kernel
theorem dX5_greensAreTheRow_7 : decode cX5_greensAreTheRow 7 = .ok (.if_icmp .ge 45, 3) := by decide +kernel
theorem dX5_greensAreTheRow_10 : decode cX5_greensAreTheRow 10 = .ok (.iload_n 2, 1) := by decide +kernel
theorem dX5_greensAreTheRow_11 : decode cX5_greensAreTheRow 11 = .ok (.ifCond .le 13, 3) := by decide +kernel
theorem dX5_greensAreTheRow_14 : decode cX5_greensAreTheRow 14 = .ok (.aload_n 0, 1) := by decide +kernel
theorem dX5_greensAreTheRow_15 : decode cX5_greensAreTheRow 15 = .ok (.getfield 32, 3) := by decide +kernel
theorem dX5_greensAreTheRow_18 : decode cX5_greensAreTheRow 18 = .ok (.getfield 272, 3) := by decide +kernel
theorem dX5_greensAreTheRow_21 : decode cX5_greensAreTheRow 21 = .ok (.invokevirtual 275, 3) := by decide +kernel
theorem dX5_greensAreTheRow_24 : decode cX5_greensAreTheRow 24 = .ok (.aload_n 0, 1) := by decide +kernel
theorem dX5_greensAreTheRow_25 : decode cX5_greensAreTheRow 25 = .ok (.getfield 32, 3) := by decide +kernel
theorem dX5_greensAreTheRow_28 : decode cX5_greensAreTheRow 28 = .ok (.getfield 272, 3) := by decide +kernel
theorem dX5_greensAreTheRow_31 : decode cX5_greensAreTheRow 31 = .ok (.iload_n 1, 1) := by decide +kernel
theorem dX5_greensAreTheRow_32 : decode cX5_greensAreTheRow 32 = .ok (.invokevirtual 89, 3) := by decide +kernel
theorem dX5_greensAreTheRow_35 : decode cX5_greensAreTheRow 35 = .ok (.aload_n 0, 1) := by decide +kernel
theorem dX5_greensAreTheRow_36 : decode cX5_greensAreTheRow 36 = .ok (.getfield 36, 3) := by decide +kernel
theorem dX5_greensAreTheRow_39 : decode cX5_greensAreTheRow 39 = .ok (.iload_n 2, 1) := by decide +kernel
theorem dX5_greensAreTheRow_40 : decode cX5_greensAreTheRow 40 = .ok (.iaload, 1) := by decide +kernel
theorem dX5_greensAreTheRow_41 : decode cX5_greensAreTheRow 41 = .ok (.if_icmp .eq 5, 3) := by decide +kernel
theorem dX5_greensAreTheRow_44 : decode cX5_greensAreTheRow 44 = .ok (.iconst 0, 1) := by decide +kernel
theorem dX5_greensAreTheRow_45 : decode cX5_greensAreTheRow 45 = .ok (.ireturn, 1) := by decide +kernel
theorem dX5_greensAreTheRow_46 : decode cX5_greensAreTheRow 46 = .ok (.iinc 2 1, 3) := by decide +kernel
theorem dX5_greensAreTheRow_49 : decode cX5_greensAreTheRow 49 = .ok (.goto (-47), 3) := by decide +kernel
theorem dX5_greensAreTheRow_52 : decode cX5_greensAreTheRow 52 = .ok (.iconst 1, 1) := by decide +kernel
theorem dX5_greensAreTheRow_53 : decode cX5_greensAreTheRow 53 = .ok (.ireturn, 1) := by decide +kernel
theorem dX5_firstWrongCrop_0 : decode cX5_firstWrongCrop 0 = .ok (.aload_n 0, 1) := by decide +kernel
theorem dX5_firstWrongCrop_1 : decode cX5_firstWrongCrop 1 = .ok (.getfield 32, 3) := by decide +kernel
theorem dX5_firstWrongCrop_4 : decode cX5_firstWrongCrop 4 = .ok (.aload_n 0, 1) := by decide +kernel
theorem dX5_firstWrongCrop_5 : decode cX5_firstWrongCrop 5 = .ok (.getfield 10, 3) := by decide +kernel
theorem dX5_firstWrongCrop_8 : decode cX5_firstWrongCrop 8 = .ok (.iconst 0, 1) := by decide +kernel
theorem dX5_firstWrongCrop_9 : decode cX5_firstWrongCrop 9 = .ok (.invokevirtual 144, 3) := by decide +kernel
theorem dX5_firstWrongCrop_12 : decode cX5_firstWrongCrop 12 = .ok (.astore_n 1, 1) := by decide +kernel
theorem dX5_firstWrongCrop_13 : decode cX5_firstWrongCrop 13 = .ok (.iconst 0, 1) := by decide +kernel
theorem dX5_firstWrongCrop_14 : decode cX5_firstWrongCrop 14 = .ok (.istore_n 2, 1) := by decide +kernel
theorem dX5_firstWrongCrop_15 : decode cX5_firstWrongCrop 15 = .ok (.iload_n 2, 1) := by decide +kernel
theorem dX5_firstWrongCrop_16 : decode cX5_firstWrongCrop 16 = .ok (.aload_n 0, 1) := by decide +kernel
theorem dX5_firstWrongCrop_17 : decode cX5_firstWrongCrop 17 = .ok (.getfield 252, 3) := by decide +kernel
theorem dX5_firstWrongCrop_20 : decode cX5_firstWrongCrop 20 = .ok (.if_icmp .ge 28, 3) := by decide +kernel
theorem dX5_firstWrongCrop_23 : decode cX5_firstWrongCrop 23 = .ok (.aload_n 1, 1) := by decide +kernel
theorem dX5_firstWrongCrop_24 : decode cX5_firstWrongCrop 24 = .ok (.invokevirtual 275, 3) := by decide +kernel
theorem dX5_firstWrongCrop_27 : decode cX5_firstWrongCrop 27 = .ok (.aload_n 1, 1) := by decide +kernel
theorem dX5_firstWrongCrop_28 : decode cX5_firstWrongCrop 28 = .ok (.getfield 278, 3) := by decide +kernel
theorem dX5_firstWrongCrop_31 : decode cX5_firstWrongCrop 31 = .ok (.aload_n 0, 1) := by decide +kernel
theorem dX5_firstWrongCrop_32 : decode cX5_firstWrongCrop 32 = .ok (.getfield 36, 3) := by decide +kernel
theorem dX5_firstWrongCrop_35 : decode cX5_firstWrongCrop 35 = .ok (.iload_n 2, 1) := by decide +kernel
theorem dX5_firstWrongCrop_36 : decode cX5_firstWrongCrop 36 = .ok (.iaload, 1) := by decide +kernel
theorem dX5_firstWrongCrop_37 : decode cX5_firstWrongCrop 37 = .ok (.if_icmp .eq 5, 3) := by decide +kernel
theorem dX5_firstWrongCrop_40 : decode cX5_firstWrongCrop 40 = .ok (.iload_n 2, 1) := by decide +kernel
theorem dX5_firstWrongCrop_41 : decode cX5_firstWrongCrop 41 = .ok (.ireturn, 1) := by decide +kernel
theorem dX5_firstWrongCrop_42 : decode cX5_firstWrongCrop 42 = .ok (.iinc 2 1, 3) := by decide +kernel
theorem dX5_firstWrongCrop_45 : decode cX5_firstWrongCrop 45 = .ok (.goto (-30), 3) := by decide +kernel
theorem dX5_firstWrongCrop_48 : decode cX5_firstWrongCrop 48 = .ok (.bipush (-9), 2) := by decide +kernel
theorem dX5_firstWrongCrop_50 : decode cX5_firstWrongCrop 50 = .ok (.ireturn, 1) := by decide +kernel
theorem dX5_refuse_0 : decode cX5_refuse 0 = .ok (.iload_n 1, 1) := by decide +kernel
theorem dX5_refuse_1 : decode cX5_refuse 1 = .ok (.ineg, 1) := by decide +kernel
theorem dX5_refuse_2 : decode cX5_refuse 2 = .ok (.istore_n 2, 1) := by decide +kernel
theorem dX5_refuse_3 : decode cX5_refuse 3 = .ok (.iload_n 2, 1) := by decide +kernel
theorem dX5_refuse_4 : decode cX5_refuse 4 = .ok (.ifCond .lt 22, 3) := by decide +kernel
theorem dX5_refuse_7 : decode cX5_refuse 7 = .ok (.iload_n 2, 1) := by decide +kernel
theorem dX5_refuse_8 : decode cX5_refuse 8 = .ok (.aload_n 0, 1) := by decide +kernel
theorem dX5_refuse_9 : decode cX5_refuse 9 = .ok (.getfield 40, 3) := by decide +kernel
theorem dX5_refuse_12 : decode cX5_refuse 12 = .ok (.arraylength, 1) := by decide +kernel
theorem dX5_refuse_13 : decode cX5_refuse 13 = .ok (.if_icmp .ge 13, 3) := by decide +kernel
theorem dX5_refuse_16 : decode cX5_refuse 16 = .ok (.aload_n 0, 1) := by decide +kernel
theorem dX5_refuse_17 : decode cX5_refuse 17 = .ok (.getfield 40, 3) := by decide +kernel
theorem dX5_refuse_20 : decode cX5_refuse 20 = .ok (.iload_n 2, 1) := by decide +kernel
theorem dX5_refuse_21 : decode cX5_refuse 21 = .ok (.dup2, 1) := by decide +kernel
theorem dX5_refuse_22 : decode cX5_refuse 22 = .ok (.iaload, 1) := by decide +kernel
theorem dX5_refuse_23 : decode cX5_refuse 23 = .ok (.iconst 1, 1) := by decide +kernel
theorem dX5_refuse_24 : decode cX5_refuse 24 = .ok (.iadd, 1) := by decide +kernel
theorem dX5_refuse_25 : decode cX5_refuse 25 = .ok (.iastore, 1) := by decide +kernel
theorem dX5_refuse_26 : decode cX5_refuse 26 = .ok (.iload_n 1, 1) := by decide +kernel
theorem dX5_refuse_27 : decode cX5_refuse 27 = .ok (.ireturn, 1) := by decide +kernel
theorem dX5_firstOf_0 : decode cX5_firstOf 0 = .ok (.iload_n 0, 1) := by decide +kernel
theorem dX5_firstOf_1 : decode cX5_firstOf 1 = .ok (.ifCond .eq 5, 3) := by decide +kernel
theorem dX5_firstOf_4 : decode cX5_firstOf 4 = .ok (.iload_n 0, 1) := by decide +kernel
theorem dX5_firstOf_5 : decode cX5_firstOf 5 = .ok (.ireturn, 1) := by decide +kernel
theorem dX5_firstOf_6 : decode cX5_firstOf 6 = .ok (.iload_n 1, 1) := by decide +kernel
theorem dX5_firstOf_7 : decode cX5_firstOf 7 = .ok (.ifCond .eq 7, 3) := by decide +kernel
theorem dX5_firstOf_10 : decode cX5_firstOf 10 = .ok (.iload_n 1, 1) := by decide +kernel
theorem dX5_firstOf_11 : decode cX5_firstOf 11 = .ok (.goto 4, 3) := by decide +kernel
theorem dX5_firstOf_14 : decode cX5_firstOf 14 = .ok (.iload_n 2, 1) := by decide +kernel
theorem dX5_firstOf_15 : decode cX5_firstOf 15 = .ok (.ireturn, 1) := by decide +kernel
theorem dX5_nobodyUnless_0 : decode cX5_nobodyUnless 0 = .ok (.iload_n 0, 1) := by decide +kernel
theorem dX5_nobodyUnless_1 : decode cX5_nobodyUnless 1 = .ok (.ifCond .eq 7, 3) := by decide +kernel
theorem dX5_nobodyUnless_4 : decode cX5_nobodyUnless 4 = .ok (.iconst 0, 1) := by decide +kernel
theorem dX5_nobodyUnless_5 : decode cX5_nobodyUnless 5 = .ok (.goto 4, 3) := by decide +kernel
theorem dX5_nobodyUnless_8 : decode cX5_nobodyUnless 8 = .ok (.iconst (-1), 1) := by decide +kernel
theorem dX5_nobodyUnless_9 : decode cX5_nobodyUnless 9 = .ok (.ireturn, 1) := by decide +kernel
theorem dX5_otherUnless_0 : decode cX5_otherUnless 0 = .ok (.iload_n 0, 1) := by decide +kernel
theorem dX5_otherUnless_1 : decode cX5_otherUnless 1 = .ok (.ifCond .lt 12, 3) := by decide +kernel
theorem dX5_otherUnless_4 : decode cX5_otherUnless 4 = .ok (.iload_n 0, 1) := by decide +kernel
theorem dX5_otherUnless_5 : decode cX5_otherUnless 5 = .ok (.iload_n 1, 1) := by decide +kernel
theorem dX5_otherUnless_6 : decode cX5_otherUnless 6 = .ok (.if_icmp .gt 7, 3) := by decide +kernel
theorem dX5_otherUnless_9 : decode cX5_otherUnless 9 = .ok (.iconst 0, 1) := by decide +kernel
theorem dX5_otherUnless_10 : decode cX5_otherUnless 10 = .ok (.goto 5, 3) := by decide +kernel
theorem dX5_otherUnless_13 : decode cX5_otherUnless 13 = .ok (.bipush (-2), 2) := by decide +kernel
theorem dX5_otherUnless_15 : decode cX5_otherUnless 15 = .ok (.ireturn, 1) := by decide +kernel
theorem dX5_roomIf_0 : decode cX5_roomIf 0 = .ok (.iload_n 0, 1) := by decide +kernel
theorem dX5_roomIf_1 : decode cX5_roomIf 1 = .ok (.ifCond .eq 7, 3) := by decide +kernel
theorem dX5_roomIf_4 : decode cX5_roomIf 4 = .ok (.iconst 0, 1) := by decide +kernel
theorem dX5_roomIf_5 : decode cX5_roomIf 5 = .ok (.goto 5, 3) := by decide +kernel
theorem dX5_roomIf_8 : decode cX5_roomIf 8 = .ok (.bipush (-6), 2) := by decide +kernel
theorem dX5_roomIf_10 : decode cX5_roomIf 10 = .ok (.ireturn, 1) := by decide +kernel
theorem dX5_inRange_0 : decode cX5_inRange 0 = .ok (.iload_n 0, 1) := by decide +kernel
theorem dX5_inRange_1 : decode cX5_inRange 1 = .ok (.iload_n 1, 1) := by decide +kernel
theorem dX5_inRange_2 : decode cX5_inRange 2 = .ok (.if_icmp .ge 6, 3) := by decide +kernel
theorem dX5_inRange_5 : decode cX5_inRange 5 = .ok (.bipush (-4), 2) := by decide +kernel
theorem dX5_inRange_7 : decode cX5_inRange 7 = .ok (.ireturn, 1) := by decide +kernel
theorem dX5_inRange_8 : decode cX5_inRange 8 = .ok (.iload_n 0, 1) := by decide +kernel
theorem dX5_inRange_9 : decode cX5_inRange 9 = .ok (.iload_n 2, 1) := by decide +kernel
theorem dX5_inRange_10 : decode cX5_inRange 10 = .ok (.if_icmp .le 8, 3) := by decide +kernel
theorem dX5_inRange_13 : decode cX5_inRange 13 = .ok (.bipush (-6), 2) := by decide +kernel
theorem dX5_inRange_15 : decode cX5_inRange 15 = .ok (.goto 4, 3) := by decide +kernel
theorem dX5_inRange_18 : decode cX5_inRange 18 = .ok (.iconst 0, 1) := by decide +kernel
theorem dX5_inRange_19 : decode cX5_inRange 19 = .ok (.ireturn, 1) := by decide +kernel
theorem dX5_termOf_0 : decode cX5_termOf 0 = .ok (.lload_n 0, 1) := by decide +kernel
theorem dX5_termOf_1 : decode cX5_termOf 1 = .ok (.lstore 5, 2) := by decide +kernel
theorem dX5_termOf_3 : decode cX5_termOf 3 = .ok (.lload_n 2, 1) := by decide +kernel
theorem dX5_termOf_4 : decode cX5_termOf 4 = .ok (.lstore 7, 2) := by decide +kernel
theorem dX5_termOf_6 : decode cX5_termOf 6 = .ok (.iconst 0, 1) := by decide +kernel
theorem dX5_termOf_7 : decode cX5_termOf 7 = .ok (.istore 9, 2) := by decide +kernel
theorem dX5_termOf_9 : decode cX5_termOf 9 = .ok (.iload 9, 2) := by decide +kernel
theorem dX5_termOf_11 : decode cX5_termOf 11 = .ok (.bipush 100, 2) := by decide +kernel
theorem dX5_termOf_13 : decode cX5_termOf 13 = .ok (.if_icmp .ge 31, 3) := by decide +kernel
theorem dX5_termOf_16 : decode cX5_termOf 16 = .ok (.lload 7, 2) := by decide +kernel
theorem dX5_termOf_18 : decode cX5_termOf 18 = .ok (.lconst 0, 1) := by decide +kernel
theorem dX5_termOf_19 : decode cX5_termOf 19 = .ok (.lcmp, 1) := by decide +kernel
theorem dX5_termOf_20 : decode cX5_termOf 20 = .ok (.ifCond .eq 24, 3) := by decide +kernel
theorem dX5_termOf_23 : decode cX5_termOf 23 = .ok (.lload 5, 2) := by decide +kernel
theorem dX5_termOf_25 : decode cX5_termOf 25 = .ok (.lload 7, 2) := by decide +kernel
theorem dX5_termOf_27 : decode cX5_termOf 27 = .ok (.lrem, 1) := by decide +kernel
theorem dX5_termOf_28 : decode cX5_termOf 28 = .ok (.lstore 10, 2) := by decide +kernel
theorem dX5_termOf_30 : decode cX5_termOf 30 = .ok (.lload 7, 2) := by decide +kernel
theorem dX5_termOf_32 : decode cX5_termOf 32 = .ok (.lstore 5, 2) := by decide +kernel
theorem dX5_termOf_34 : decode cX5_termOf 34 = .ok (.lload 10, 2) := by decide +kernel
theorem dX5_termOf_36 : decode cX5_termOf 36 = .ok (.lstore 7, 2) := by decide +kernel
theorem dX5_termOf_38 : decode cX5_termOf 38 = .ok (.iinc 9 1, 3) := by decide +kernel
theorem dX5_termOf_41 : decode cX5_termOf 41 = .ok (.goto (-32), 3) := by decide +kernel
theorem dX5_termOf_44 : decode cX5_termOf 44 = .ok (.lconst 1, 1) := by decide +kernel
theorem dX5_termOf_45 : decode cX5_termOf 45 = .ok (.lload 5, 2) := by decide +kernel
theorem dX5_termOf_47 : decode cX5_termOf 47 = .ok (.invokestatic 281, 3) := by decide +kernel
theorem dX5_termOf_50 : decode cX5_termOf 50 = .ok (.lstore 9, 2) := by decide +kernel
theorem dX5_termOf_52 : decode cX5_termOf 52 = .ok (.iload 4, 2) := by decide +kernel
theorem dX5_termOf_54 : decode cX5_termOf 54 = .ok (.ifCond .ne 7, 3) := by decide +kernel
theorem dX5_termOf_57 : decode cX5_termOf 57 = .ok (.lload_n 0, 1) := by decide +kernel
theorem dX5_termOf_58 : decode cX5_termOf 58 = .ok (.goto 4, 3) := by decide +kernel
theorem dX5_termOf_61 : decode cX5_termOf 61 = .ok (.lload_n 2, 1) := by decide +kernel
theorem dX5_termOf_62 : decode cX5_termOf 62 = .ok (.lload 9, 2) := by decide +kernel
theorem dX5_termOf_64 : decode cX5_termOf 64 = .ok (.ldiv, 1) := by decide +kernel
theorem dX5_termOf_65 : decode cX5_termOf 65 = .ok (.lreturn, 1) := by decide +kernel
end
section
-- decode rows: printed by program out of the claim
theorem dX6_init_0 : decode cX6_init 0 = .ok (.aload_n 0, 1) := by decide +kernel
theorem dX6_init_1 : decode cX6_init 1 = .ok (.invokespecial 1, 3) := by decide +kernel
theorem dX6_init_4 : decode cX6_init 4 = .ok (.aload_n 0, 1) := by decide +kernel
theorem dX6_init_5 : decode cX6_init 5 = .ok (.bipush 47, 2) := by decide +kernel
theorem dX6_init_7 : decode cX6_init 7 = .ok (.newarray .int, 2) := by decide +kernel
theorem dX6_init_9 : decode cX6_init 9 = .ok (.putfield 9, 3) := by decide +kernel
theorem dX6_init_12 : decode cX6_init 12 = .ok (.aload_n 0, 1) := by decide +kernel
theorem dX6_init_13 : decode cX6_init 13 = .ok (.bipush 47, 2) := by decide +kernel
theorem dX6_init_15 : decode cX6_init 15 = .ok (.newarray .int, 2) := by decide +kernel
theorem dX6_init_17 : decode cX6_init 17 = .ok (.putfield 13, 3) := by decide +kernel
theorem dX6_init_20 : decode cX6_init 20 = .ok (.aload_n 0, 1) := by decide +kernel
theorem dX6_init_21 : decode cX6_init 21 = .ok (.bipush 47, 2) := by decide +kernel
theorem dX6_init_23 : decode cX6_init 23 = .ok (.newarray .int, 2) := by decide +kernel
theorem dX6_init_25 : decode cX6_init 25 = .ok (.putfield 16, 3) := by decide +kernel
theorem dX6_init_28 : decode cX6_init 28 = .ok (.aload_n 0, 1) := by decide +kernel
theorem dX6_init_29 : decode cX6_init 29 = .ok (.bipush 47, 2) := by decide +kernel
theorem dX6_init_31 : decode cX6_init 31 = .ok (.newarray .int, 2) := by decide +kernel
theorem dX6_init_33 : decode cX6_init 33 = .ok (.putfield 19, 3) := by decide +kernel
theorem dX6_init_36 : decode cX6_init 36 = .ok (.aload_n 0, 1) := by decide +kernel
theorem dX6_init_37 : decode cX6_init 37 = .ok (.bipush 6, 2) := by decide +kernel
theorem dX6_init_39 : decode cX6_init 39 = .ok (.newarray .int, 2) := by decide +kernel
theorem dX6_init_41 : decode cX6_init 41 = .ok (.putfield 22, 3) := by decide +kernel
theorem dX6_init_44 : decode cX6_init 44 = .ok (.aload_n 0, 1) := by decide +kernel
theorem dX6_init_45 : decode cX6_init 45 = .ok (.bipush 6, 2) := by decide +kernel
theorem dX6_init_47 : decode cX6_init 47 = .ok (.newarray .int, 2) := by decide +kernel
theorem dX6_init_49 : decode cX6_init 49 = .ok (.putfield 25, 3) := by decide +kernel
theorem dX6_init_52 : decode cX6_init 52 = .ok (.aload_n 0, 1) := by decide +kernel
theorem dX6_init_53 : decode cX6_init 53 = .ok (.bipush 96, 2) := by decide +kernel
theorem dX6_init_55 : decode cX6_init 55 = .ok (.newarray .int, 2) := by decide +kernel
theorem dX6_init_57 : decode cX6_init 57 = .ok (.putfield 28, 3) := by decide +kernel
theorem dX6_init_60 : decode cX6_init 60 = .ok (.aload_n 0, 1) := by decide +kernel
theorem dX6_init_61 : decode cX6_init 61 = .ok (.bipush 16, 2) := by decide +kernel
theorem dX6_init_63 : decode cX6_init 63 = .ok (.newarray .int, 2) := by decide +kernel
theorem dX6_init_65 : decode cX6_init 65 = .ok (.putfield 31, 3) := by decide +kernel
theorem dX6_init_68 : decode cX6_init 68 = .ok (.aload_n 0, 1) := by decide +kernel
theorem dX6_init_69 : decode cX6_init 69 = .ok (.bipush 7, 2) := by decide +kernel
theorem dX6_init_71 : decode cX6_init 71 = .ok (.newarray .int, 2) := by decide +kernel
theorem dX6_init_73 : decode cX6_init 73 = .ok (.putfield 34, 3) := by decide +kernel
theorem dX6_init_76 : decode cX6_init 76 = .ok (.aload_n 0, 1) := by decide +kernel
theorem dX6_init_77 : decode cX6_init 77 = .ok (.iconst 3, 1) := by decide +kernel
theorem dX6_init_78 : decode cX6_init 78 = .ok (.newarray .int, 2) := by decide +kernel
theorem dX6_init_80 : decode cX6_init 80 = .ok (.putfield 37, 3) := by decide +kernel
theorem dX6_init_83 : decode cX6_init 83 = .ok (.aload_n 0, 1) := by decide +kernel
theorem dX6_init_84 : decode cX6_init 84 = .ok (.bipush 6, 2) := by decide +kernel
theorem dX6_init_86 : decode cX6_init 86 = .ok (.newarray .int, 2) := by decide +kernel
theorem dX6_init_88 : decode cX6_init 88 = .ok (.putfield 40, 3) := by decide +kernel
theorem dX6_init_91 : decode cX6_init 91 = .ok (.aload_n 0, 1) := by decide +kernel
theorem dX6_init_92 : decode cX6_init 92 = .ok (.bipush 6, 2) := by decide +kernel
theorem dX6_init_94 : decode cX6_init 94 = .ok (.newarray .int, 2) := by decide +kernel
theorem dX6_init_96 : decode cX6_init 96 = .ok (.putfield 43, 3) := by decide +kernel
theorem dX6_init_99 : decode cX6_init 99 = .ok (.aload_n 0, 1) := by decide +kernel
theorem dX6_init_100 : decode cX6_init 100 = .ok (.getfield 9, 3) := by decide +kernel
theorem dX6_init_103 : decode cX6_init 103 = .ok (.iconst 2, 1) := by decide +kernel
theorem dX6_init_104 : decode cX6_init 104 = .ok (.iconst 1, 1) := by decide +kernel
theorem dX6_init_105 : decode cX6_init 105 = .ok (.iastore, 1) := by decide +kernel
theorem dX6_init_106 : decode cX6_init 106 = .ok (.return_, 1) := by decide +kernel
theorem dX6_isIn_0 : decode cX6_isIn 0 = .ok (.iload_n 0, 1) := by decide +kernel
theorem dX6_isIn_1 : decode cX6_isIn 1 = .ok (.iload_n 1, 1) := by decide +kernel
theorem dX6_isIn_2 : decode cX6_isIn 2 = .ok (.if_icmp .lt 12, 3) := by decide +kernel
theorem dX6_isIn_5 : decode cX6_isIn 5 = .ok (.iload_n 0, 1) := by decide +kernel
theorem dX6_isIn_6 : decode cX6_isIn 6 = .ok (.iload_n 2, 1) := by decide +kernel
theorem dX6_isIn_7 : decode cX6_isIn 7 = .ok (.if_icmp .gt 7, 3) := by decide +kernel
theorem dX6_isIn_10 : decode cX6_isIn 10 = .ok (.iconst 1, 1) := by decide +kernel
theorem dX6_isIn_11 : decode cX6_isIn 11 = .ok (.goto 4, 3) := by decide +kernel
theorem dX6_isIn_14 : decode cX6_isIn 14 = .ok (.iconst 0, 1) := by decide +kernel
theorem dX6_isIn_15 : decode cX6_isIn 15 = .ok (.ireturn, 1) := by decide +kernel
theorem dX6_held_0 : decode cX6_held 0 = .ok (.iload_n 0, 1) := by decide +kernel
theorem dX6_held_1 : decode cX6_held 1 = .ok (.ifCond .ge 7, 3) := by decide +kernel
theorem dX6_held_4 : decode cX6_held 4 = .ok (.iconst 0, 1) := by decide +kernel
theorem dX6_held_5 : decode cX6_held 5 = .ok (.goto 13, 3) := by decide +kernel
theorem dX6_held_8 : decode cX6_held 8 = .ok (.iload_n 0, 1) := by decide +kernel
theorem dX6_held_9 : decode cX6_held 9 = .ok (.iload_n 1, 1) := by decide +kernel
theorem dX6_held_10 : decode cX6_held 10 = .ok (.if_icmp .le 7, 3) := by decide +kernel
theorem dX6_held_13 : decode cX6_held 13 = .ok (.iload_n 1, 1) := by decide +kernel
theorem dX6_held_14 : decode cX6_held 14 = .ok (.goto 4, 3) := by decide +kernel
theorem dX6_held_17 : decode cX6_held 17 = .ok (.iload_n 0, 1) := by decide +kernel
theorem dX6_held_18 : decode cX6_held 18 = .ok (.ireturn, 1) := by decide +kernel
theorem dX6_copies_0 : decode cX6_copies 0 = .ok (.iconst 0, 1) := by decide +kernel
theorem dX6_copies_1 : decode cX6_copies 1 = .ok (.istore_n 2, 1) := by decide +kernel
theorem dX6_copies_2 : decode cX6_copies 2 = .ok (.iload_n 2, 1) := by decide +kernel
theorem dX6_copies_3 : decode cX6_copies 3 = .ok (.bipush 47, 2) := by decide +kernel
theorem dX6_copies_5 : decode cX6_copies 5 = .ok (.if_icmp .ge 15, 3) := by decide +kernel
theorem dX6_copies_8 : decode cX6_copies 8 = .ok (.aload_n 1, 1) := by decide +kernel
theorem dX6_copies_9 : decode cX6_copies 9 = .ok (.iload_n 2, 1) := by decide +kernel
theorem dX6_copies_10 : decode cX6_copies 10 = .ok (.aload_n 0, 1) := by decide +kernel
theorem dX6_copies_11 : decode cX6_copies 11 = .ok (.iload_n 2, 1) := by decide +kernel
theorem dX6_copies_12 : decode cX6_copies 12 = .ok (.iaload, 1) := by decide +kernel
theorem dX6_copies_13 : decode cX6_copies 13 = .ok (.iastore, 1) := by decide +kernel
theorem dX6_copies_14 : decode cX6_copies 14 = .ok (.iinc 2 1, 3) := by decide +kernel
theorem dX6_copies_17 : decode cX6_copies 17 = .ok (.goto (-15), 3) := by decide +kernel
theorem dX6_copies_20 : decode cX6_copies 20 = .ok (.return_, 1) := by decide +kernel
theorem dX6_no_0 : decode cX6_no 0 = .ok (.aload_n 0, 1) := by decide +kernel
theorem dX6_no_1 : decode cX6_no 1 = .ok (.getfield 34, 3) := by decide +kernel
theorem dX6_no_4 : decode cX6_no 4 = .ok (.iload_n 1, 1) := by decide +kernel
theorem dX6_no_5 : decode cX6_no 5 = .ok (.ineg, 1) := by decide +kernel
theorem dX6_no_6 : decode cX6_no 6 = .ok (.dup2, 1) := by decide +kernel
theorem dX6_no_7 : decode cX6_no 7 = .ok (.iaload, 1) := by decide +kernel
theorem dX6_no_8 : decode cX6_no 8 = .ok (.iconst 1, 1) := by decide +kernel
theorem dX6_no_9 : decode cX6_no 9 = .ok (.iadd, 1) := by decide +kernel
theorem dX6_no_10 : decode cX6_no 10 = .ok (.iastore, 1) := by decide +kernel
theorem dX6_no_11 : decode cX6_no 11 = .ok (.iload_n 1, 1) := by decide +kernel
theorem dX6_no_12 : decode cX6_no 12 = .ok (.ireturn, 1) := by decide +kernel
theorem dX6_noWide_0 : decode cX6_noWide 0 = .ok (.ldc2_w 46, 3) := by decide +kernel
theorem dX6_noWide_3 : decode cX6_noWide 3 = .ok (.aload_n 0, 1) := by decide +kernel
theorem dX6_noWide_4 : decode cX6_noWide 4 = .ok (.iload_n 1, 1) := by decide +kernel
theorem dX6_noWide_5 : decode cX6_noWide 5 = .ok (.invokevirtual 48, 3) := by decide +kernel
theorem dX6_noWide_8 : decode cX6_noWide 8 = .ok (.i2l, 1) := by decide +kernel
theorem dX6_noWide_9 : decode cX6_noWide 9 = .ok (.lsub, 1) := by decide +kernel
theorem dX6_noWide_10 : decode cX6_noWide 10 = .ok (.lreturn, 1) := by decide +kernel
theorem dX6_of_0 : decode cX6_of 0 = .ok (.bipush 23, 2) := by decide +kernel
theorem dX6_of_2 : decode cX6_of 2 = .ok (.iconst 4, 1) := by decide +kernel
theorem dX6_of_3 : decode cX6_of 3 = .ok (.iload_n 0, 1) := by decide +kernel
theorem dX6_of_4 : decode cX6_of 4 = .ok (.imul, 1) := by decide +kernel
theorem dX6_of_5 : decode cX6_of 5 = .ok (.iadd, 1) := by decide +kernel
theorem dX6_of_6 : decode cX6_of 6 = .ok (.iload_n 1, 1) := by decide +kernel
theorem dX6_of_7 : decode cX6_of 7 = .ok (.iadd, 1) := by decide +kernel
theorem dX6_of_8 : decode cX6_of 8 = .ok (.ireturn, 1) := by decide +kernel
theorem dX6_heart_0 : decode cX6_heart 0 = .ok (.iconst 5, 1) := by decide +kernel
theorem dX6_heart_1 : decode cX6_heart 1 = .ok (.iconst 3, 1) := by decide +kernel
theorem dX6_heart_2 : decode cX6_heart 2 = .ok (.iload_n 0, 1) := by decide +kernel
theorem dX6_heart_3 : decode cX6_heart 3 = .ok (.imul, 1) := by decide +kernel
theorem dX6_heart_4 : decode cX6_heart 4 = .ok (.iadd, 1) := by decide +kernel
theorem dX6_heart_5 : decode cX6_heart 5 = .ok (.iload_n 1, 1) := by decide +kernel
theorem dX6_heart_6 : decode cX6_heart 6 = .ok (.iadd, 1) := by decide +kernel
theorem dX6_heart_7 : decode cX6_heart 7 = .ok (.ireturn, 1) := by decide +kernel
theorem dX6_isFarm_0 : decode cX6_isFarm 0 = .ok (.iload_n 1, 1) := by decide +kernel
theorem dX6_isFarm_1 : decode cX6_isFarm 1 = .ok (.iconst 0, 1) := by decide +kernel
theorem dX6_isFarm_2 : decode cX6_isFarm 2 = .ok (.aload_n 0, 1) := by decide +kernel
theorem dX6_isFarm_3 : decode cX6_isFarm 3 = .ok (.getfield 9, 3) := by decide +kernel
theorem dX6_isFarm_6 : decode cX6_isFarm 6 = .ok (.iconst 0, 1) := by decide +kernel
theorem dX6_isFarm_7 : decode cX6_isFarm 7 = .ok (.iaload, 1) := by decide +kernel
theorem dX6_isFarm_8 : decode cX6_isFarm 8 = .ok (.iconst 1, 1) := by decide +kernel
theorem dX6_isFarm_9 : decode cX6_isFarm 9 = .ok (.isub, 1) := by decide +kernel
theorem dX6_isFarm_10 : decode cX6_isFarm 10 = .ok (.invokestatic 52, 3) := by decide +kernel
theorem dX6_isFarm_13 : decode cX6_isFarm 13 = .ok (.ireturn, 1) := by decide +kernel
theorem dX6_isFarmer_0 : decode cX6_isFarmer 0 = .ok (.iload_n 1, 1) := by decide +kernel
theorem dX6_isFarmer_1 : decode cX6_isFarmer 1 = .ok (.iconst 0, 1) := by decide +kernel
theorem dX6_isFarmer_2 : decode cX6_isFarmer 2 = .ok (.aload_n 0, 1) := by decide +kernel
theorem dX6_isFarmer_3 : decode cX6_isFarmer 3 = .ok (.getfield 9, 3) := by decide +kernel
theorem dX6_isFarmer_6 : decode cX6_isFarmer 6 = .ok (.iconst 1, 1) := by decide +kernel
theorem dX6_isFarmer_7 : decode cX6_isFarmer 7 = .ok (.iaload, 1) := by decide +kernel
theorem dX6_isFarmer_8 : decode cX6_isFarmer 8 = .ok (.iconst 1, 1) := by decide +kernel
theorem dX6_isFarmer_9 : decode cX6_isFarmer 9 = .ok (.isub, 1) := by decide +kernel
theorem dX6_isFarmer_10 : decode cX6_isFarmer 10 = .ok (.invokestatic 52, 3) := by decide +kernel
theorem dX6_isFarmer_13 : decode cX6_isFarmer 13 = .ok (.ireturn, 1) := by decide +kernel
theorem dX6_has_0 : decode cX6_has 0 = .ok (.iload_n 0, 1) := by decide +kernel
theorem dX6_has_1 : decode cX6_has 1 = .ok (.iload_n 1, 1) := by decide +kernel
theorem dX6_has_2 : decode cX6_has 2 = .ok (.ishr, 1) := by decide +kernel
theorem dX6_has_3 : decode cX6_has 3 = .ok (.iconst 1, 1) := by decide +kernel
theorem dX6_has_4 : decode cX6_has 4 = .ok (.iand, 1) := by decide +kernel
theorem dX6_has_5 : decode cX6_has 5 = .ok (.iconst 1, 1) := by decide +kernel
theorem dX6_has_6 : decode cX6_has 6 = .ok (.if_icmp .ne 7, 3) := by decide +kernel
theorem dX6_has_9 : decode cX6_has 9 = .ok (.iconst 1, 1) := by decide +kernel
theorem dX6_has_10 : decode cX6_has 10 = .ok (.goto 4, 3) := by decide +kernel
theorem dX6_has_13 : decode cX6_has 13 = .ok (.iconst 0, 1) := by decide +kernel
theorem dX6_has_14 : decode cX6_has 14 = .ok (.ireturn, 1) := by decide +kernel
theorem dX6_growsBy_0 : decode cX6_growsBy 0 = .ok (.iload_n 2, 1) := by decide +kernel
theorem dX6_growsBy_1 : decode cX6_growsBy 1 = .ok (.ifCond .lt 15, 3) := by decide +kernel
theorem dX6_growsBy_4 : decode cX6_growsBy 4 = .ok (.aload_n 0, 1) := by decide +kernel
theorem dX6_growsBy_5 : decode cX6_growsBy 5 = .ok (.iload_n 1, 1) := by decide +kernel
theorem dX6_growsBy_6 : decode cX6_growsBy 6 = .ok (.iconst 2, 1) := by decide +kernel
theorem dX6_growsBy_7 : decode cX6_growsBy 7 = .ok (.invokestatic 56, 3) := by decide +kernel
theorem dX6_growsBy_10 : decode cX6_growsBy 10 = .ok (.iaload, 1) := by decide +kernel
theorem dX6_growsBy_11 : decode cX6_growsBy 11 = .ok (.bipush 10, 2) := by decide +kernel
theorem dX6_growsBy_13 : decode cX6_growsBy 13 = .ok (.if_icmp .lt 5, 3) := by decide +kernel
theorem dX6_growsBy_16 : decode cX6_growsBy 16 = .ok (.iconst 0, 1) := by decide +kernel
theorem dX6_growsBy_17 : decode cX6_growsBy 17 = .ok (.ireturn, 1) := by decide +kernel
theorem dX6_growsBy_18 : decode cX6_growsBy 18 = .ok (.aload_n 0, 1) := by decide +kernel
theorem dX6_growsBy_19 : decode cX6_growsBy 19 = .ok (.iload_n 2, 1) := by decide +kernel
theorem dX6_growsBy_20 : decode cX6_growsBy 20 = .ok (.iconst 0, 1) := by decide +kernel
theorem dX6_growsBy_21 : decode cX6_growsBy 21 = .ok (.invokestatic 60, 3) := by decide +kernel
theorem dX6_growsBy_24 : decode cX6_growsBy 24 = .ok (.iaload, 1) := by decide +kernel
theorem dX6_growsBy_25 : decode cX6_growsBy 25 = .ok (.istore_n 3, 1) := by decide +kernel
theorem dX6_growsBy_26 : decode cX6_growsBy 26 = .ok (.aload_n 0, 1) := by decide +kernel
theorem dX6_growsBy_27 : decode cX6_growsBy 27 = .ok (.iload_n 2, 1) := by decide +kernel
theorem dX6_growsBy_28 : decode cX6_growsBy 28 = .ok (.iconst 1, 1) := by decide +kernel
theorem dX6_growsBy_29 : decode cX6_growsBy 29 = .ok (.invokestatic 60, 3) := by decide +kernel
theorem dX6_growsBy_32 : decode cX6_growsBy 32 = .ok (.iaload, 1) := by decide +kernel
theorem dX6_growsBy_33 : decode cX6_growsBy 33 = .ok (.istore 4, 2) := by decide +kernel
theorem dX6_growsBy_35 : decode cX6_growsBy 35 = .ok (.aload_n 0, 1) := by decide +kernel
theorem dX6_growsBy_36 : decode cX6_growsBy 36 = .ok (.iload_n 1, 1) := by decide +kernel
theorem dX6_growsBy_37 : decode cX6_growsBy 37 = .ok (.iconst 0, 1) := by decide +kernel
theorem dX6_growsBy_38 : decode cX6_growsBy 38 = .ok (.invokestatic 56, 3) := by decide +kernel
theorem dX6_growsBy_41 : decode cX6_growsBy 41 = .ok (.iaload, 1) := by decide +kernel
theorem dX6_growsBy_42 : decode cX6_growsBy 42 = .ok (.tableswitch 54 1 5 #[34, 39, 45, 52, 52], 34) := by decide +kernel
theorem dX6_growsBy_76 : decode cX6_growsBy 76 = .ok (.iload 4, 2) := by decide +kernel
theorem dX6_growsBy_78 : decode cX6_growsBy 78 = .ok (.iconst 2, 1) := by decide +kernel
theorem dX6_growsBy_79 : decode cX6_growsBy 79 = .ok (.idiv, 1) := by decide +kernel
theorem dX6_growsBy_80 : decode cX6_growsBy 80 = .ok (.ireturn, 1) := by decide +kernel
theorem dX6_growsBy_81 : decode cX6_growsBy 81 = .ok (.iload_n 3, 1) := by decide +kernel
theorem dX6_growsBy_82 : decode cX6_growsBy 82 = .ok (.iconst 2, 1) := by decide +kernel
theorem dX6_growsBy_83 : decode cX6_growsBy 83 = .ok (.idiv, 1) := by decide +kernel
theorem dX6_growsBy_84 : decode cX6_growsBy 84 = .ok (.iconst 3, 1) := by decide +kernel
theorem dX6_growsBy_85 : decode cX6_growsBy 85 = .ok (.iadd, 1) := by decide +kernel
theorem dX6_growsBy_86 : decode cX6_growsBy 86 = .ok (.ireturn, 1) := by decide +kernel
theorem dX6_growsBy_87 : decode cX6_growsBy 87 = .ok (.iload 4, 2) := by decide +kernel
theorem dX6_growsBy_89 : decode cX6_growsBy 89 = .ok (.iconst 2, 1) := by decide +kernel
theorem dX6_growsBy_90 : decode cX6_growsBy 90 = .ok (.idiv, 1) := by decide +kernel
theorem dX6_growsBy_91 : decode cX6_growsBy 91 = .ok (.iconst 2, 1) := by decide +kernel
theorem dX6_growsBy_92 : decode cX6_growsBy 92 = .ok (.idiv, 1) := by decide +kernel
theorem dX6_growsBy_93 : decode cX6_growsBy 93 = .ok (.ireturn, 1) := by decide +kernel
theorem dX6_growsBy_94 : decode cX6_growsBy 94 = .ok (.iconst 0, 1) := by decide +kernel
theorem dX6_growsBy_95 : decode cX6_growsBy 95 = .ok (.ireturn, 1) := by decide +kernel
theorem dX6_growsBy_96 : decode cX6_growsBy 96 = .ok (.iload_n 3, 1) := by decide +kernel
theorem dX6_growsBy_97 : decode cX6_growsBy 97 = .ok (.iconst 2, 1) := by decide +kernel
theorem dX6_growsBy_98 : decode cX6_growsBy 98 = .ok (.idiv, 1) := by decide +kernel
theorem dX6_growsBy_99 : decode cX6_growsBy 99 = .ok (.ireturn, 1) := by decide +kernel
theorem dX6_more_0 : decode cX6_more 0 = .ok (.aload_n 0, 1) := by decide +kernel
theorem dX6_more_1 : decode cX6_more 1 = .ok (.iload_n 1, 1) := by decide +kernel
theorem dX6_more_2 : decode cX6_more 2 = .ok (.iload_n 2, 1) := by decide +kernel
theorem dX6_more_3 : decode cX6_more 3 = .ok (.invokestatic 60, 3) := by decide +kernel
theorem dX6_more_6 : decode cX6_more 6 = .ok (.aload_n 0, 1) := by decide +kernel
theorem dX6_more_7 : decode cX6_more 7 = .ok (.iload_n 1, 1) := by decide +kernel
theorem dX6_more_8 : decode cX6_more 8 = .ok (.iload_n 2, 1) := by decide +kernel
theorem dX6_more_9 : decode cX6_more 9 = .ok (.invokestatic 60, 3) := by decide +kernel
theorem dX6_more_12 : decode cX6_more 12 = .ok (.iaload, 1) := by decide +kernel
theorem dX6_more_13 : decode cX6_more 13 = .ok (.iload_n 3, 1) := by decide +kernel
theorem dX6_more_14 : decode cX6_more 14 = .ok (.iadd, 1) := by decide +kernel
theorem dX6_more_15 : decode cX6_more 15 = .ok (.bipush 30, 2) := by decide +kernel
theorem dX6_more_17 : decode cX6_more 17 = .ok (.invokestatic 63, 3) := by decide +kernel
theorem dX6_more_20 : decode cX6_more 20 = .ok (.iastore, 1) := by decide +kernel
theorem dX6_more_21 : decode cX6_more 21 = .ok (.return_, 1) := by decide +kernel
theorem dX6_changes_0 : decode cX6_changes 0 = .ok (.iload_n 2, 1) := by decide +kernel
theorem dX6_changes_1 : decode cX6_changes 1 = .ok (.iconst 3, 1) := by decide +kernel
theorem dX6_changes_2 : decode cX6_changes 2 = .ok (.idiv, 1) := by decide +kernel
theorem dX6_changes_3 : decode cX6_changes 3 = .ok (.iconst 1, 1) := by decide +kernel
theorem dX6_changes_4 : decode cX6_changes 4 = .ok (.iadd, 1) := by decide +kernel
theorem dX6_changes_5 : decode cX6_changes 5 = .ok (.istore 4, 2) := by decide +kernel
theorem dX6_changes_7 : decode cX6_changes 7 = .ok (.iload_n 1, 1) := by decide +kernel
theorem dX6_changes_8 : decode cX6_changes 8 = .ok (.tableswitch 132 1 5 #[36, 54, 72, 89, 89], 36) := by decide +kernel
theorem dX6_changes_44 : decode cX6_changes 44 = .ok (.aload_n 0, 1) := by decide +kernel
theorem dX6_changes_45 : decode cX6_changes 45 = .ok (.iload_n 3, 1) := by decide +kernel
theorem dX6_changes_46 : decode cX6_changes 46 = .ok (.iconst 1, 1) := by decide +kernel
theorem dX6_changes_47 : decode cX6_changes 47 = .ok (.bipush (-3), 2) := by decide +kernel
theorem dX6_changes_49 : decode cX6_changes 49 = .ok (.invokestatic 66, 3) := by decide +kernel
theorem dX6_changes_52 : decode cX6_changes 52 = .ok (.aload_n 0, 1) := by decide +kernel
theorem dX6_changes_53 : decode cX6_changes 53 = .ok (.iload_n 3, 1) := by decide +kernel
theorem dX6_changes_54 : decode cX6_changes 54 = .ok (.iconst 2, 1) := by decide +kernel
theorem dX6_changes_55 : decode cX6_changes 55 = .ok (.iconst 1, 1) := by decide +kernel
theorem dX6_changes_56 : decode cX6_changes 56 = .ok (.invokestatic 66, 3) := by decide +kernel
theorem dX6_changes_59 : decode cX6_changes 59 = .ok (.goto 96, 3) := by decide +kernel
theorem dX6_changes_62 : decode cX6_changes 62 = .ok (.aload_n 0, 1) := by decide +kernel
theorem dX6_changes_63 : decode cX6_changes 63 = .ok (.iload_n 3, 1) := by decide +kernel
theorem dX6_changes_64 : decode cX6_changes 64 = .ok (.iconst 2, 1) := by decide +kernel
theorem dX6_changes_65 : decode cX6_changes 65 = .ok (.bipush (-4), 2) := by decide +kernel
theorem dX6_changes_67 : decode cX6_changes 67 = .ok (.invokestatic 66, 3) := by decide +kernel
theorem dX6_changes_70 : decode cX6_changes 70 = .ok (.aload_n 0, 1) := by decide +kernel
theorem dX6_changes_71 : decode cX6_changes 71 = .ok (.iload_n 3, 1) := by decide +kernel
theorem dX6_changes_72 : decode cX6_changes 72 = .ok (.iconst 0, 1) := by decide +kernel
theorem dX6_changes_73 : decode cX6_changes 73 = .ok (.iconst 1, 1) := by decide +kernel
theorem dX6_changes_74 : decode cX6_changes 74 = .ok (.invokestatic 66, 3) := by decide +kernel
theorem dX6_changes_77 : decode cX6_changes 77 = .ok (.goto 78, 3) := by decide +kernel
theorem dX6_changes_80 : decode cX6_changes 80 = .ok (.aload_n 0, 1) := by decide +kernel
theorem dX6_changes_81 : decode cX6_changes 81 = .ok (.iload_n 3, 1) := by decide +kernel
theorem dX6_changes_82 : decode cX6_changes 82 = .ok (.iconst 0, 1) := by decide +kernel
theorem dX6_changes_83 : decode cX6_changes 83 = .ok (.iconst 3, 1) := by decide +kernel
theorem dX6_changes_84 : decode cX6_changes 84 = .ok (.invokestatic 66, 3) := by decide +kernel
theorem dX6_changes_87 : decode cX6_changes 87 = .ok (.aload_n 0, 1) := by decide +kernel
theorem dX6_changes_88 : decode cX6_changes 88 = .ok (.iload_n 3, 1) := by decide +kernel
theorem dX6_changes_89 : decode cX6_changes 89 = .ok (.iconst 1, 1) := by decide +kernel
theorem dX6_changes_90 : decode cX6_changes 90 = .ok (.iconst (-1), 1) := by decide +kernel
theorem dX6_changes_91 : decode cX6_changes 91 = .ok (.invokestatic 66, 3) := by decide +kernel
theorem dX6_changes_94 : decode cX6_changes 94 = .ok (.goto 61, 3) := by decide +kernel
theorem dX6_changes_97 : decode cX6_changes 97 = .ok (.iconst 0, 1) := by decide +kernel
theorem dX6_changes_98 : decode cX6_changes 98 = .ok (.istore 5, 2) := by decide +kernel
theorem dX6_changes_100 : decode cX6_changes 100 = .ok (.iload 5, 2) := by decide +kernel
theorem dX6_changes_102 : decode cX6_changes 102 = .ok (.iconst 3, 1) := by decide +kernel
theorem dX6_changes_103 : decode cX6_changes 103 = .ok (.if_icmp .ge 34, 3) := by decide +kernel
theorem dX6_changes_106 : decode cX6_changes 106 = .ok (.aload_n 0, 1) := by decide +kernel
theorem dX6_changes_107 : decode cX6_changes 107 = .ok (.iload_n 3, 1) := by decide +kernel
theorem dX6_changes_108 : decode cX6_changes 108 = .ok (.iload 5, 2) := by decide +kernel
theorem dX6_changes_110 : decode cX6_changes 110 = .ok (.iload 4, 2) := by decide +kernel
theorem dX6_changes_112 : decode cX6_changes 112 = .ok (.iload_n 1, 1) := by decide +kernel
theorem dX6_changes_113 : decode cX6_changes 113 = .ok (.iconst 5, 1) := by decide +kernel
theorem dX6_changes_114 : decode cX6_changes 114 = .ok (.if_icmp .ne 12, 3) := by decide +kernel
theorem dX6_changes_117 : decode cX6_changes 117 = .ok (.iload 5, 2) := by decide +kernel
theorem dX6_changes_119 : decode cX6_changes 119 = .ok (.ifCond .ne 7, 3) := by decide +kernel
theorem dX6_changes_122 : decode cX6_changes 122 = .ok (.iconst 2, 1) := by decide +kernel
theorem dX6_changes_123 : decode cX6_changes 123 = .ok (.goto 4, 3) := by decide +kernel
theorem dX6_changes_126 : decode cX6_changes 126 = .ok (.iconst 0, 1) := by decide +kernel
theorem dX6_changes_127 : decode cX6_changes 127 = .ok (.iadd, 1) := by decide +kernel
theorem dX6_changes_128 : decode cX6_changes 128 = .ok (.invokestatic 66, 3) := by decide +kernel
theorem dX6_changes_131 : decode cX6_changes 131 = .ok (.iinc 5 1, 3) := by decide +kernel
theorem dX6_changes_134 : decode cX6_changes 134 = .ok (.goto (-34), 3) := by decide +kernel
theorem dX6_changes_137 : decode cX6_changes 137 = .ok (.goto 18, 3) := by decide +kernel
theorem dX6_changes_140 : decode cX6_changes 140 = .ok (.aload_n 0, 1) := by decide +kernel
theorem dX6_changes_141 : decode cX6_changes 141 = .ok (.iload_n 3, 1) := by decide +kernel
theorem dX6_changes_142 : decode cX6_changes 142 = .ok (.iconst 0, 1) := by decide +kernel
theorem dX6_changes_143 : decode cX6_changes 143 = .ok (.bipush (-3), 2) := by decide +kernel
theorem dX6_changes_145 : decode cX6_changes 145 = .ok (.invokestatic 66, 3) := by decide +kernel
theorem dX6_changes_148 : decode cX6_changes 148 = .ok (.aload_n 0, 1) := by decide +kernel
theorem dX6_changes_149 : decode cX6_changes 149 = .ok (.iload_n 3, 1) := by decide +kernel
theorem dX6_changes_150 : decode cX6_changes 150 = .ok (.iconst 1, 1) := by decide +kernel
theorem dX6_changes_151 : decode cX6_changes 151 = .ok (.iconst 1, 1) := by decide +kernel
theorem dX6_changes_152 : decode cX6_changes 152 = .ok (.invokestatic 66, 3) := by decide +kernel
theorem dX6_changes_155 : decode cX6_changes 155 = .ok (.return_, 1) := by decide +kernel
theorem dX6_tiresBy_0 : decode cX6_tiresBy 0 = .ok (.iload_n 0, 1) := by decide +kernel
theorem dX6_tiresBy_1 : decode cX6_tiresBy 1 = .ok (.tableswitch 41 1 5 #[35, 41, 35, 37, 39], 35) := by decide +kernel
theorem dX6_tiresBy_36 : decode cX6_tiresBy 36 = .ok (.iconst 1, 1) := by decide +kernel
theorem dX6_tiresBy_37 : decode cX6_tiresBy 37 = .ok (.ireturn, 1) := by decide +kernel
theorem dX6_tiresBy_38 : decode cX6_tiresBy 38 = .ok (.iconst 3, 1) := by decide +kernel
theorem dX6_tiresBy_39 : decode cX6_tiresBy 39 = .ok (.ireturn, 1) := by decide +kernel
theorem dX6_tiresBy_40 : decode cX6_tiresBy 40 = .ok (.iconst 4, 1) := by decide +kernel
theorem dX6_tiresBy_41 : decode cX6_tiresBy 41 = .ok (.ireturn, 1) := by decide +kernel
theorem dX6_tiresBy_42 : decode cX6_tiresBy 42 = .ok (.iconst 2, 1) := by decide +kernel
theorem dX6_tiresBy_43 : decode cX6_tiresBy 43 = .ok (.ireturn, 1) := by decide +kernel
theorem dX6_farmerAt_0 : decode cX6_farmerAt 0 = .ok (.iconst 0, 1) := by decide +kernel
theorem dX6_farmerAt_1 : decode cX6_farmerAt 1 = .ok (.istore_n 2, 1) := by decide +kernel
theorem dX6_farmerAt_2 : decode cX6_farmerAt 2 = .ok (.iload_n 2, 1) := by decide +kernel
theorem dX6_farmerAt_3 : decode cX6_farmerAt 3 = .ok (.aload_n 0, 1) := by decide +kernel
theorem dX6_farmerAt_4 : decode cX6_farmerAt 4 = .ok (.iconst 1, 1) := by decide +kernel
theorem dX6_farmerAt_5 : decode cX6_farmerAt 5 = .ok (.iaload, 1) := by decide +kernel
theorem dX6_farmerAt_6 : decode cX6_farmerAt 6 = .ok (.if_icmp .ge 22, 3) := by decide +kernel
theorem dX6_farmerAt_9 : decode cX6_farmerAt 9 = .ok (.aload_n 0, 1) := by decide +kernel
theorem dX6_farmerAt_10 : decode cX6_farmerAt 10 = .ok (.iload_n 2, 1) := by decide +kernel
theorem dX6_farmerAt_11 : decode cX6_farmerAt 11 = .ok (.iconst 3, 1) := by decide +kernel
theorem dX6_farmerAt_12 : decode cX6_farmerAt 12 = .ok (.invokestatic 56, 3) := by decide +kernel
theorem dX6_farmerAt_15 : decode cX6_farmerAt 15 = .ok (.iaload, 1) := by decide +kernel
theorem dX6_farmerAt_16 : decode cX6_farmerAt 16 = .ok (.iload_n 1, 1) := by decide +kernel
theorem dX6_farmerAt_17 : decode cX6_farmerAt 17 = .ok (.if_icmp .ne 5, 3) := by decide +kernel
theorem dX6_farmerAt_20 : decode cX6_farmerAt 20 = .ok (.iload_n 2, 1) := by decide +kernel
theorem dX6_farmerAt_21 : decode cX6_farmerAt 21 = .ok (.ireturn, 1) := by decide +kernel
theorem dX6_farmerAt_22 : decode cX6_farmerAt 22 = .ok (.iinc 2 1, 3) := by decide +kernel
theorem dX6_farmerAt_25 : decode cX6_farmerAt 25 = .ok (.goto (-23), 3) := by decide +kernel
theorem dX6_farmerAt_28 : decode cX6_farmerAt 28 = .ok (.bipush (-9), 2) := by decide +kernel
theorem dX6_farmerAt_30 : decode cX6_farmerAt 30 = .ok (.ireturn, 1) := by decide +kernel
theorem dX6_year_0 : decode cX6_year 0 = .ok (.iconst 0, 1) := by decide +kernel
theorem dX6_year_1 : decode cX6_year 1 = .ok (.istore_n 3, 1) := by decide +kernel
theorem dX6_year_2 : decode cX6_year 2 = .ok (.aload_n 1, 1) := by decide +kernel
theorem dX6_year_3 : decode cX6_year 3 = .ok (.iconst 4, 1) := by decide +kernel
theorem dX6_year_4 : decode cX6_year 4 = .ok (.dup2, 1) := by decide +kernel
theorem dX6_year_5 : decode cX6_year 5 = .ok (.iaload, 1) := by decide +kernel
theorem dX6_year_6 : decode cX6_year 6 = .ok (.iconst 1, 1) := by decide +kernel
theorem dX6_year_7 : decode cX6_year 7 = .ok (.iadd, 1) := by decide +kernel
theorem dX6_year_8 : decode cX6_year 8 = .ok (.iastore, 1) := by decide +kernel
theorem dX6_year_9 : decode cX6_year 9 = .ok (.iconst 0, 1) := by decide +kernel
theorem dX6_year_10 : decode cX6_year 10 = .ok (.istore 4, 2) := by decide +kernel
theorem dX6_year_12 : decode cX6_year 12 = .ok (.iload 4, 2) := by decide +kernel
theorem dX6_year_14 : decode cX6_year 14 = .ok (.aload_n 1, 1) := by decide +kernel
theorem dX6_year_15 : decode cX6_year 15 = .ok (.iconst 1, 1) := by decide +kernel
theorem dX6_year_16 : decode cX6_year 16 = .ok (.iaload, 1) := by decide +kernel
theorem dX6_year_17 : decode cX6_year 17 = .ok (.if_icmp .ge 165, 3) := by decide +kernel
theorem dX6_year_20 : decode cX6_year 20 = .ok (.aload_n 1, 1) := by decide +kernel
theorem dX6_year_21 : decode cX6_year 21 = .ok (.iload 4, 2) := by decide +kernel
theorem dX6_year_23 : decode cX6_year 23 = .ok (.iconst 3, 1) := by decide +kernel
theorem dX6_year_24 : decode cX6_year 24 = .ok (.invokestatic 56, 3) := by decide +kernel
theorem dX6_year_27 : decode cX6_year 27 = .ok (.iaload, 1) := by decide +kernel
theorem dX6_year_28 : decode cX6_year 28 = .ok (.istore 5, 2) := by decide +kernel
theorem dX6_year_30 : decode cX6_year 30 = .ok (.iload 5, 2) := by decide +kernel
theorem dX6_year_32 : decode cX6_year 32 = .ok (.ifCond .lt 16, 3) := by decide +kernel
theorem dX6_year_35 : decode cX6_year 35 = .ok (.aload_n 1, 1) := by decide +kernel
theorem dX6_year_36 : decode cX6_year 36 = .ok (.iload 4, 2) := by decide +kernel
theorem dX6_year_38 : decode cX6_year 38 = .ok (.iconst 2, 1) := by decide +kernel
theorem dX6_year_39 : decode cX6_year 39 = .ok (.invokestatic 56, 3) := by decide +kernel
theorem dX6_year_42 : decode cX6_year 42 = .ok (.iaload, 1) := by decide +kernel
theorem dX6_year_43 : decode cX6_year 43 = .ok (.bipush 10, 2) := by decide +kernel
theorem dX6_year_45 : decode cX6_year 45 = .ok (.if_icmp .lt 29, 3) := by decide +kernel
theorem dX6_year_48 : decode cX6_year 48 = .ok (.aload_n 1, 1) := by decide +kernel
theorem dX6_year_49 : decode cX6_year 49 = .ok (.iload 4, 2) := by decide +kernel
theorem dX6_year_51 : decode cX6_year 51 = .ok (.iconst 2, 1) := by decide +kernel
theorem dX6_year_52 : decode cX6_year 52 = .ok (.invokestatic 56, 3) := by decide +kernel
theorem dX6_year_55 : decode cX6_year 55 = .ok (.aload_n 1, 1) := by decide +kernel
theorem dX6_year_56 : decode cX6_year 56 = .ok (.iload 4, 2) := by decide +kernel
theorem dX6_year_58 : decode cX6_year 58 = .ok (.iconst 2, 1) := by decide +kernel
theorem dX6_year_59 : decode cX6_year 59 = .ok (.invokestatic 56, 3) := by decide +kernel
theorem dX6_year_62 : decode cX6_year 62 = .ok (.iaload, 1) := by decide +kernel
theorem dX6_year_63 : decode cX6_year 63 = .ok (.iconst 5, 1) := by decide +kernel
theorem dX6_year_64 : decode cX6_year 64 = .ok (.isub, 1) := by decide +kernel
theorem dX6_year_65 : decode cX6_year 65 = .ok (.bipush 20, 2) := by decide +kernel
theorem dX6_year_67 : decode cX6_year 67 = .ok (.invokestatic 63, 3) := by decide +kernel
theorem dX6_year_70 : decode cX6_year 70 = .ok (.iastore, 1) := by decide +kernel
theorem dX6_year_71 : decode cX6_year 71 = .ok (.goto 105, 3) := by decide +kernel
theorem dX6_year_74 : decode cX6_year 74 = .ok (.iload_n 2, 1) := by decide +kernel
theorem dX6_year_75 : decode cX6_year 75 = .ok (.ifCond .eq 7, 3) := by decide +kernel
theorem dX6_year_78 : decode cX6_year 78 = .ok (.iconst 0, 1) := by decide +kernel
theorem dX6_year_79 : decode cX6_year 79 = .ok (.goto 11, 3) := by decide +kernel
theorem dX6_year_82 : decode cX6_year 82 = .ok (.aload_n 1, 1) := by decide +kernel
theorem dX6_year_83 : decode cX6_year 83 = .ok (.iload 4, 2) := by decide +kernel
theorem dX6_year_85 : decode cX6_year 85 = .ok (.iload 5, 2) := by decide +kernel
theorem dX6_year_87 : decode cX6_year 87 = .ok (.invokestatic 70, 3) := by decide +kernel
theorem dX6_year_90 : decode cX6_year 90 = .ok (.istore 6, 2) := by decide +kernel
theorem dX6_year_92 : decode cX6_year 92 = .ok (.aload_n 0, 1) := by decide +kernel
theorem dX6_year_93 : decode cX6_year 93 = .ok (.getfield 22, 3) := by decide +kernel
theorem dX6_year_96 : decode cX6_year 96 = .ok (.iload 5, 2) := by decide +kernel
theorem dX6_year_98 : decode cX6_year 98 = .ok (.dup2, 1) := by decide +kernel
theorem dX6_year_99 : decode cX6_year 99 = .ok (.iaload, 1) := by decide +kernel
theorem dX6_year_100 : decode cX6_year 100 = .ok (.iload 6, 2) := by decide +kernel
theorem dX6_year_102 : decode cX6_year 102 = .ok (.iadd, 1) := by decide +kernel
theorem dX6_year_103 : decode cX6_year 103 = .ok (.iastore, 1) := by decide +kernel
theorem dX6_year_104 : decode cX6_year 104 = .ok (.aload_n 0, 1) := by decide +kernel
theorem dX6_year_105 : decode cX6_year 105 = .ok (.getfield 25, 3) := by decide +kernel
theorem dX6_year_108 : decode cX6_year 108 = .ok (.iload 4, 2) := by decide +kernel
theorem dX6_year_110 : decode cX6_year 110 = .ok (.dup2, 1) := by decide +kernel
theorem dX6_year_111 : decode cX6_year 111 = .ok (.iaload, 1) := by decide +kernel
theorem dX6_year_112 : decode cX6_year 112 = .ok (.iload 6, 2) := by decide +kernel
theorem dX6_year_114 : decode cX6_year 114 = .ok (.iadd, 1) := by decide +kernel
theorem dX6_year_115 : decode cX6_year 115 = .ok (.iastore, 1) := by decide +kernel
theorem dX6_year_116 : decode cX6_year 116 = .ok (.iload_n 3, 1) := by decide +kernel
theorem dX6_year_117 : decode cX6_year 117 = .ok (.iload 6, 2) := by decide +kernel
theorem dX6_year_119 : decode cX6_year 119 = .ok (.iadd, 1) := by decide +kernel
theorem dX6_year_120 : decode cX6_year 120 = .ok (.istore_n 3, 1) := by decide +kernel
theorem dX6_year_121 : decode cX6_year 121 = .ok (.aload_n 1, 1) := by decide +kernel
theorem dX6_year_122 : decode cX6_year 122 = .ok (.aload_n 1, 1) := by decide +kernel
theorem dX6_year_123 : decode cX6_year 123 = .ok (.iload 4, 2) := by decide +kernel
theorem dX6_year_125 : decode cX6_year 125 = .ok (.iconst 0, 1) := by decide +kernel
theorem dX6_year_126 : decode cX6_year 126 = .ok (.invokestatic 56, 3) := by decide +kernel
theorem dX6_year_129 : decode cX6_year 129 = .ok (.iaload, 1) := by decide +kernel
theorem dX6_year_130 : decode cX6_year 130 = .ok (.aload_n 1, 1) := by decide +kernel
theorem dX6_year_131 : decode cX6_year 131 = .ok (.iload 4, 2) := by decide +kernel
theorem dX6_year_133 : decode cX6_year 133 = .ok (.iconst 1, 1) := by decide +kernel
theorem dX6_year_134 : decode cX6_year 134 = .ok (.invokestatic 56, 3) := by decide +kernel
theorem dX6_year_137 : decode cX6_year 137 = .ok (.iaload, 1) := by decide +kernel
theorem dX6_year_138 : decode cX6_year 138 = .ok (.iload 5, 2) := by decide +kernel
theorem dX6_year_140 : decode cX6_year 140 = .ok (.invokestatic 74, 3) := by decide +kernel
theorem dX6_year_143 : decode cX6_year 143 = .ok (.aload_n 1, 1) := by decide +kernel
theorem dX6_year_144 : decode cX6_year 144 = .ok (.iload 4, 2) := by decide +kernel
theorem dX6_year_146 : decode cX6_year 146 = .ok (.iconst 2, 1) := by decide +kernel
theorem dX6_year_147 : decode cX6_year 147 = .ok (.invokestatic 56, 3) := by decide +kernel
theorem dX6_year_150 : decode cX6_year 150 = .ok (.aload_n 1, 1) := by decide +kernel
theorem dX6_year_151 : decode cX6_year 151 = .ok (.iload 4, 2) := by decide +kernel
theorem dX6_year_153 : decode cX6_year 153 = .ok (.iconst 2, 1) := by decide +kernel
theorem dX6_year_154 : decode cX6_year 154 = .ok (.invokestatic 56, 3) := by decide +kernel
theorem dX6_year_157 : decode cX6_year 157 = .ok (.iaload, 1) := by decide +kernel
theorem dX6_year_158 : decode cX6_year 158 = .ok (.aload_n 1, 1) := by decide +kernel
theorem dX6_year_159 : decode cX6_year 159 = .ok (.iload 4, 2) := by decide +kernel
theorem dX6_year_161 : decode cX6_year 161 = .ok (.iconst 0, 1) := by decide +kernel
theorem dX6_year_162 : decode cX6_year 162 = .ok (.invokestatic 56, 3) := by decide +kernel
theorem dX6_year_165 : decode cX6_year 165 = .ok (.iaload, 1) := by decide +kernel
theorem dX6_year_166 : decode cX6_year 166 = .ok (.invokestatic 77, 3) := by decide +kernel
theorem dX6_year_169 : decode cX6_year 169 = .ok (.iadd, 1) := by decide +kernel
theorem dX6_year_170 : decode cX6_year 170 = .ok (.bipush 20, 2) := by decide +kernel
theorem dX6_year_172 : decode cX6_year 172 = .ok (.invokestatic 63, 3) := by decide +kernel
theorem dX6_year_175 : decode cX6_year 175 = .ok (.iastore, 1) := by decide +kernel
theorem dX6_year_176 : decode cX6_year 176 = .ok (.iinc 4 1, 3) := by decide +kernel
theorem dX6_year_179 : decode cX6_year 179 = .ok (.goto (-167), 3) := by decide +kernel
theorem dX6_year_182 : decode cX6_year 182 = .ok (.aload_n 1, 1) := by decide +kernel
theorem dX6_year_183 : decode cX6_year 183 = .ok (.iconst 3, 1) := by decide +kernel
theorem dX6_year_184 : decode cX6_year 184 = .ok (.aload_n 1, 1) := by decide +kernel
theorem dX6_year_185 : decode cX6_year 185 = .ok (.iconst 3, 1) := by decide +kernel
theorem dX6_year_186 : decode cX6_year 186 = .ok (.iaload, 1) := by decide +kernel
theorem dX6_year_187 : decode cX6_year 187 = .ok (.iload_n 3, 1) := by decide +kernel
theorem dX6_year_188 : decode cX6_year 188 = .ok (.iadd, 1) := by decide +kernel
theorem dX6_year_189 : decode cX6_year 189 = .ok (.sipush 9999, 3) := by decide +kernel
theorem dX6_year_192 : decode cX6_year 192 = .ok (.invokestatic 63, 3) := by decide +kernel
theorem dX6_year_195 : decode cX6_year 195 = .ok (.iastore, 1) := by decide +kernel
theorem dX6_year_196 : decode cX6_year 196 = .ok (.iconst 0, 1) := by decide +kernel
theorem dX6_year_197 : decode cX6_year 197 = .ok (.istore 4, 2) := by decide +kernel
theorem dX6_year_199 : decode cX6_year 199 = .ok (.iload 4, 2) := by decide +kernel
theorem dX6_year_201 : decode cX6_year 201 = .ok (.aload_n 1, 1) := by decide +kernel
theorem dX6_year_202 : decode cX6_year 202 = .ok (.iconst 0, 1) := by decide +kernel
theorem dX6_year_203 : decode cX6_year 203 = .ok (.iaload, 1) := by decide +kernel
theorem dX6_year_204 : decode cX6_year 204 = .ok (.if_icmp .ge 42, 3) := by decide +kernel
theorem dX6_year_207 : decode cX6_year 207 = .ok (.iconst 0, 1) := by decide +kernel
theorem dX6_year_208 : decode cX6_year 208 = .ok (.istore 5, 2) := by decide +kernel
theorem dX6_year_210 : decode cX6_year 210 = .ok (.iload 5, 2) := by decide +kernel
theorem dX6_year_212 : decode cX6_year 212 = .ok (.iconst 3, 1) := by decide +kernel
theorem dX6_year_213 : decode cX6_year 213 = .ok (.if_icmp .ge 27, 3) := by decide +kernel
theorem dX6_year_216 : decode cX6_year 216 = .ok (.aload_n 1, 1) := by decide +kernel
theorem dX6_year_217 : decode cX6_year 217 = .ok (.iload 4, 2) := by decide +kernel
theorem dX6_year_219 : decode cX6_year 219 = .ok (.invokestatic 80, 3) := by decide +kernel
theorem dX6_year_222 : decode cX6_year 222 = .ok (.ifCond .ge 18, 3) := by decide +kernel
theorem dX6_year_225 : decode cX6_year 225 = .ok (.aload_n 1, 1) := by decide +kernel
theorem dX6_year_226 : decode cX6_year 226 = .ok (.iload 4, 2) := by decide +kernel
theorem dX6_year_228 : decode cX6_year 228 = .ok (.iload 5, 2) := by decide +kernel
theorem dX6_year_230 : decode cX6_year 230 = .ok (.iconst 1, 1) := by decide +kernel
theorem dX6_year_231 : decode cX6_year 231 = .ok (.invokestatic 66, 3) := by decide +kernel
theorem dX6_year_234 : decode cX6_year 234 = .ok (.iinc 5 1, 3) := by decide +kernel
theorem dX6_year_237 : decode cX6_year 237 = .ok (.goto (-27), 3) := by decide +kernel
theorem dX6_year_240 : decode cX6_year 240 = .ok (.iinc 4 1, 3) := by decide +kernel
theorem dX6_year_243 : decode cX6_year 243 = .ok (.goto (-44), 3) := by decide +kernel
theorem dX6_year_246 : decode cX6_year 246 = .ok (.iconst 0, 1) := by decide +kernel
theorem dX6_year_247 : decode cX6_year 247 = .ok (.istore 4, 2) := by decide +kernel
theorem dX6_year_249 : decode cX6_year 249 = .ok (.iload 4, 2) := by decide +kernel
theorem dX6_year_251 : decode cX6_year 251 = .ok (.aload_n 1, 1) := by decide +kernel
theorem dX6_year_252 : decode cX6_year 252 = .ok (.iconst 1, 1) := by decide +kernel
theorem dX6_year_253 : decode cX6_year 253 = .ok (.iaload, 1) := by decide +kernel
theorem dX6_year_254 : decode cX6_year 254 = .ok (.if_icmp .ge 44, 3) := by decide +kernel
theorem dX6_year_257 : decode cX6_year 257 = .ok (.aload_n 1, 1) := by decide +kernel
theorem dX6_year_258 : decode cX6_year 258 = .ok (.iload 4, 2) := by decide +kernel
theorem dX6_year_260 : decode cX6_year 260 = .ok (.iconst 3, 1) := by decide +kernel
theorem dX6_year_261 : decode cX6_year 261 = .ok (.invokestatic 56, 3) := by decide +kernel
theorem dX6_year_264 : decode cX6_year 264 = .ok (.iaload, 1) := by decide +kernel
theorem dX6_year_265 : decode cX6_year 265 = .ok (.ifCond .lt 27, 3) := by decide +kernel
theorem dX6_year_268 : decode cX6_year 268 = .ok (.aload_n 1, 1) := by decide +kernel
theorem dX6_year_269 : decode cX6_year 269 = .ok (.iload 4, 2) := by decide +kernel
theorem dX6_year_271 : decode cX6_year 271 = .ok (.iconst 3, 1) := by decide +kernel
theorem dX6_year_272 : decode cX6_year 272 = .ok (.invokestatic 56, 3) := by decide +kernel
theorem dX6_year_275 : decode cX6_year 275 = .ok (.aload_n 1, 1) := by decide +kernel
theorem dX6_year_276 : decode cX6_year 276 = .ok (.iload 4, 2) := by decide +kernel
theorem dX6_year_278 : decode cX6_year 278 = .ok (.iconst 3, 1) := by decide +kernel
theorem dX6_year_279 : decode cX6_year 279 = .ok (.invokestatic 56, 3) := by decide +kernel
theorem dX6_year_282 : decode cX6_year 282 = .ok (.iaload, 1) := by decide +kernel
theorem dX6_year_283 : decode cX6_year 283 = .ok (.aload_n 1, 1) := by decide +kernel
theorem dX6_year_284 : decode cX6_year 284 = .ok (.iconst 2, 1) := by decide +kernel
theorem dX6_year_285 : decode cX6_year 285 = .ok (.iaload, 1) := by decide +kernel
theorem dX6_year_286 : decode cX6_year 286 = .ok (.iadd, 1) := by decide +kernel
theorem dX6_year_287 : decode cX6_year 287 = .ok (.aload_n 1, 1) := by decide +kernel
theorem dX6_year_288 : decode cX6_year 288 = .ok (.iconst 0, 1) := by decide +kernel
theorem dX6_year_289 : decode cX6_year 289 = .ok (.iaload, 1) := by decide +kernel
theorem dX6_year_290 : decode cX6_year 290 = .ok (.irem, 1) := by decide +kernel
theorem dX6_year_291 : decode cX6_year 291 = .ok (.iastore, 1) := by decide +kernel
theorem dX6_year_292 : decode cX6_year 292 = .ok (.iinc 4 1, 3) := by decide +kernel
theorem dX6_year_295 : decode cX6_year 295 = .ok (.goto (-46), 3) := by decide +kernel
theorem dX6_year_298 : decode cX6_year 298 = .ok (.iload_n 3, 1) := by decide +kernel
theorem dX6_year_299 : decode cX6_year 299 = .ok (.ireturn, 1) := by decide +kernel
theorem dX6_yearsOn_0 : decode cX6_yearsOn 0 = .ok (.iconst 0, 1) := by decide +kernel
theorem dX6_yearsOn_1 : decode cX6_yearsOn 1 = .ok (.istore_n 3, 1) := by decide +kernel
theorem dX6_yearsOn_2 : decode cX6_yearsOn 2 = .ok (.iload_n 3, 1) := by decide +kernel
theorem dX6_yearsOn_3 : decode cX6_yearsOn 3 = .ok (.bipush 6, 2) := by decide +kernel
theorem dX6_yearsOn_5 : decode cX6_yearsOn 5 = .ok (.if_icmp .ge 16, 3) := by decide +kernel
theorem dX6_yearsOn_8 : decode cX6_yearsOn 8 = .ok (.aload_n 0, 1) := by decide +kernel
theorem dX6_yearsOn_9 : decode cX6_yearsOn 9 = .ok (.getfield 22, 3) := by decide +kernel
theorem dX6_yearsOn_12 : decode cX6_yearsOn 12 = .ok (.iload_n 3, 1) := by decide +kernel
theorem dX6_yearsOn_13 : decode cX6_yearsOn 13 = .ok (.iconst 0, 1) := by decide +kernel
theorem dX6_yearsOn_14 : decode cX6_yearsOn 14 = .ok (.iastore, 1) := by decide +kernel
theorem dX6_yearsOn_15 : decode cX6_yearsOn 15 = .ok (.iinc 3 1, 3) := by decide +kernel
theorem dX6_yearsOn_18 : decode cX6_yearsOn 18 = .ok (.goto (-16), 3) := by decide +kernel
theorem dX6_yearsOn_21 : decode cX6_yearsOn 21 = .ok (.iconst 0, 1) := by decide +kernel
theorem dX6_yearsOn_22 : decode cX6_yearsOn 22 = .ok (.istore_n 3, 1) := by decide +kernel
theorem dX6_yearsOn_23 : decode cX6_yearsOn 23 = .ok (.iload_n 3, 1) := by decide +kernel
theorem dX6_yearsOn_24 : decode cX6_yearsOn 24 = .ok (.bipush 6, 2) := by decide +kernel
theorem dX6_yearsOn_26 : decode cX6_yearsOn 26 = .ok (.if_icmp .ge 16, 3) := by decide +kernel
theorem dX6_yearsOn_29 : decode cX6_yearsOn 29 = .ok (.aload_n 0, 1) := by decide +kernel
theorem dX6_yearsOn_30 : decode cX6_yearsOn 30 = .ok (.getfield 25, 3) := by decide +kernel
theorem dX6_yearsOn_33 : decode cX6_yearsOn 33 = .ok (.iload_n 3, 1) := by decide +kernel
theorem dX6_yearsOn_34 : decode cX6_yearsOn 34 = .ok (.iconst 0, 1) := by decide +kernel
theorem dX6_yearsOn_35 : decode cX6_yearsOn 35 = .ok (.iastore, 1) := by decide +kernel
theorem dX6_yearsOn_36 : decode cX6_yearsOn 36 = .ok (.iinc 3 1, 3) := by decide +kernel
theorem dX6_yearsOn_39 : decode cX6_yearsOn 39 = .ok (.goto (-16), 3) := by decide +kernel
theorem dX6_yearsOn_42 : decode cX6_yearsOn 42 = .ok (.iconst 0, 1) := by decide +kernel
theorem dX6_yearsOn_43 : decode cX6_yearsOn 43 = .ok (.istore_n 3, 1) := by decide +kernel
theorem dX6_yearsOn_44 : decode cX6_yearsOn 44 = .ok (.iconst 0, 1) := by decide +kernel
theorem dX6_yearsOn_45 : decode cX6_yearsOn 45 = .ok (.istore 4, 2) := by decide +kernel
theorem dX6_yearsOn_47 : decode cX6_yearsOn 47 = .ok (.iload 4, 2) := by decide +kernel
theorem dX6_yearsOn_49 : decode cX6_yearsOn 49 = .ok (.iload_n 2, 1) := by decide +kernel
theorem dX6_yearsOn_50 : decode cX6_yearsOn 50 = .ok (.if_icmp .ge 18, 3) := by decide +kernel
theorem dX6_yearsOn_53 : decode cX6_yearsOn 53 = .ok (.iload_n 3, 1) := by decide +kernel
theorem dX6_yearsOn_54 : decode cX6_yearsOn 54 = .ok (.aload_n 0, 1) := by decide +kernel
theorem dX6_yearsOn_55 : decode cX6_yearsOn 55 = .ok (.aload_n 1, 1) := by decide +kernel
theorem dX6_yearsOn_56 : decode cX6_yearsOn 56 = .ok (.iconst 0, 1) := by decide +kernel
theorem dX6_yearsOn_57 : decode cX6_yearsOn 57 = .ok (.invokevirtual 84, 3) := by decide +kernel
theorem dX6_yearsOn_60 : decode cX6_yearsOn 60 = .ok (.iadd, 1) := by decide +kernel
theorem dX6_yearsOn_61 : decode cX6_yearsOn 61 = .ok (.istore_n 3, 1) := by decide +kernel
theorem dX6_yearsOn_62 : decode cX6_yearsOn 62 = .ok (.iinc 4 1, 3) := by decide +kernel
theorem dX6_yearsOn_65 : decode cX6_yearsOn 65 = .ok (.goto (-18), 3) := by decide +kernel
theorem dX6_yearsOn_68 : decode cX6_yearsOn 68 = .ok (.iload_n 3, 1) := by decide +kernel
theorem dX6_yearsOn_69 : decode cX6_yearsOn 69 = .ok (.ireturn, 1) := by decide +kernel
theorem dX6_green_0 : decode cX6_green 0 = .ok (.aload_n 0, 1) := by decide +kernel
theorem dX6_green_1 : decode cX6_green 1 = .ok (.iload_n 1, 1) := by decide +kernel
theorem dX6_green_2 : decode cX6_green 2 = .ok (.iconst 0, 1) := by decide +kernel
theorem dX6_green_3 : decode cX6_green 3 = .ok (.invokestatic 60, 3) := by decide +kernel
theorem dX6_green_6 : decode cX6_green 6 = .ok (.iaload, 1) := by decide +kernel
theorem dX6_green_7 : decode cX6_green 7 = .ok (.aload_n 0, 1) := by decide +kernel
theorem dX6_green_8 : decode cX6_green 8 = .ok (.iload_n 1, 1) := by decide +kernel
theorem dX6_green_9 : decode cX6_green 9 = .ok (.iconst 1, 1) := by decide +kernel
theorem dX6_green_10 : decode cX6_green 10 = .ok (.invokestatic 60, 3) := by decide +kernel
theorem dX6_green_13 : decode cX6_green 13 = .ok (.iaload, 1) := by decide +kernel
theorem dX6_green_14 : decode cX6_green 14 = .ok (.iadd, 1) := by decide +kernel
theorem dX6_green_15 : decode cX6_green 15 = .ok (.aload_n 0, 1) := by decide +kernel
theorem dX6_green_16 : decode cX6_green 16 = .ok (.iload_n 1, 1) := by decide +kernel
theorem dX6_green_17 : decode cX6_green 17 = .ok (.iconst 2, 1) := by decide +kernel
theorem dX6_green_18 : decode cX6_green 18 = .ok (.invokestatic 60, 3) := by decide +kernel
theorem dX6_green_21 : decode cX6_green 21 = .ok (.iaload, 1) := by decide +kernel
theorem dX6_green_22 : decode cX6_green 22 = .ok (.iadd, 1) := by decide +kernel
theorem dX6_green_23 : decode cX6_green 23 = .ok (.ireturn, 1) := by decide +kernel
theorem dX6_greenAll_0 : decode cX6_greenAll 0 = .ok (.iconst 0, 1) := by decide +kernel
theorem dX6_greenAll_1 : decode cX6_greenAll 1 = .ok (.istore_n 1, 1) := by decide +kernel
theorem dX6_greenAll_2 : decode cX6_greenAll 2 = .ok (.iconst 0, 1) := by decide +kernel
theorem dX6_greenAll_3 : decode cX6_greenAll 3 = .ok (.istore_n 2, 1) := by decide +kernel
theorem dX6_greenAll_4 : decode cX6_greenAll 4 = .ok (.iload_n 2, 1) := by decide +kernel
theorem dX6_greenAll_5 : decode cX6_greenAll 5 = .ok (.aload_n 0, 1) := by decide +kernel
theorem dX6_greenAll_6 : decode cX6_greenAll 6 = .ok (.iconst 0, 1) := by decide +kernel
theorem dX6_greenAll_7 : decode cX6_greenAll 7 = .ok (.iaload, 1) := by decide +kernel
theorem dX6_greenAll_8 : decode cX6_greenAll 8 = .ok (.if_icmp .ge 17, 3) := by decide +kernel
theorem dX6_greenAll_11 : decode cX6_greenAll 11 = .ok (.iload_n 1, 1) := by decide +kernel
theorem dX6_greenAll_12 : decode cX6_greenAll 12 = .ok (.aload_n 0, 1) := by decide +kernel
theorem dX6_greenAll_13 : decode cX6_greenAll 13 = .ok (.iload_n 2, 1) := by decide +kernel
theorem dX6_greenAll_14 : decode cX6_greenAll 14 = .ok (.invokestatic 88, 3) := by decide +kernel
theorem dX6_greenAll_17 : decode cX6_greenAll 17 = .ok (.iadd, 1) := by decide +kernel
theorem dX6_greenAll_18 : decode cX6_greenAll 18 = .ok (.istore_n 1, 1) := by decide +kernel
theorem dX6_greenAll_19 : decode cX6_greenAll 19 = .ok (.iinc 2 1, 3) := by decide +kernel
theorem dX6_greenAll_22 : decode cX6_greenAll 22 = .ok (.goto (-18), 3) := by decide +kernel
theorem dX6_greenAll_25 : decode cX6_greenAll 25 = .ok (.iload_n 1, 1) := by decide +kernel
theorem dX6_greenAll_26 : decode cX6_greenAll 26 = .ok (.ireturn, 1) := by decide +kernel
theorem dX6_sitsIn_0 : decode cX6_sitsIn 0 = .ok (.aload_n 0, 1) := by decide +kernel
theorem dX6_sitsIn_1 : decode cX6_sitsIn 1 = .ok (.iload_n 2, 1) := by decide +kernel
theorem dX6_sitsIn_2 : decode cX6_sitsIn 2 = .ok (.invokestatic 80, 3) := by decide +kernel
theorem dX6_sitsIn_5 : decode cX6_sitsIn 5 = .ok (.istore_n 3, 1) := by decide +kernel
theorem dX6_sitsIn_6 : decode cX6_sitsIn 6 = .ok (.iload_n 3, 1) := by decide +kernel
theorem dX6_sitsIn_7 : decode cX6_sitsIn 7 = .ok (.ifCond .lt 12, 3) := by decide +kernel
theorem dX6_sitsIn_10 : decode cX6_sitsIn 10 = .ok (.aload_n 0, 1) := by decide +kernel
theorem dX6_sitsIn_11 : decode cX6_sitsIn 11 = .ok (.iload_n 3, 1) := by decide +kernel
theorem dX6_sitsIn_12 : decode cX6_sitsIn 12 = .ok (.iconst 3, 1) := by decide +kernel
theorem dX6_sitsIn_13 : decode cX6_sitsIn 13 = .ok (.invokestatic 56, 3) := by decide +kernel
theorem dX6_sitsIn_16 : decode cX6_sitsIn 16 = .ok (.bipush (-9), 2) := by decide +kernel
theorem dX6_sitsIn_18 : decode cX6_sitsIn 18 = .ok (.iastore, 1) := by decide +kernel
theorem dX6_sitsIn_19 : decode cX6_sitsIn 19 = .ok (.aload_n 0, 1) := by decide +kernel
theorem dX6_sitsIn_20 : decode cX6_sitsIn 20 = .ok (.iload_n 1, 1) := by decide +kernel
theorem dX6_sitsIn_21 : decode cX6_sitsIn 21 = .ok (.iconst 3, 1) := by decide +kernel
theorem dX6_sitsIn_22 : decode cX6_sitsIn 22 = .ok (.invokestatic 56, 3) := by decide +kernel
theorem dX6_sitsIn_25 : decode cX6_sitsIn 25 = .ok (.iload_n 2, 1) := by decide +kernel
theorem dX6_sitsIn_26 : decode cX6_sitsIn 26 = .ok (.iastore, 1) := by decide +kernel
theorem dX6_sitsIn_27 : decode cX6_sitsIn 27 = .ok (.return_, 1) := by decide +kernel
theorem dX6_letter_0 : decode cX6_letter 0 = .ok (.iload_n 1, 1) := by decide +kernel
theorem dX6_letter_1 : decode cX6_letter 1 = .ok (.ifCond .ge 10, 3) := by decide +kernel
theorem dX6_letter_4 : decode cX6_letter 4 = .ok (.aload_n 0, 1) := by decide +kernel
theorem dX6_letter_5 : decode cX6_letter 5 = .ok (.bipush (-4), 2) := by decide +kernel
theorem dX6_letter_7 : decode cX6_letter 7 = .ok (.invokevirtual 48, 3) := by decide +kernel
theorem dX6_letter_10 : decode cX6_letter 10 = .ok (.ireturn, 1) := by decide +kernel
theorem dX6_letter_11 : decode cX6_letter 11 = .ok (.iload_n 1, 1) := by decide +kernel
theorem dX6_letter_12 : decode cX6_letter 12 = .ok (.sipush 255, 3) := by decide +kernel
theorem dX6_letter_15 : decode cX6_letter 15 = .ok (.if_icmp .gt 12, 3) := by decide +kernel
theorem dX6_letter_18 : decode cX6_letter 18 = .ok (.aload_n 0, 1) := by decide +kernel
theorem dX6_letter_19 : decode cX6_letter 19 = .ok (.getfield 91, 3) := by decide +kernel
theorem dX6_letter_22 : decode cX6_letter 22 = .ok (.bipush 96, 2) := by decide +kernel
theorem dX6_letter_24 : decode cX6_letter 24 = .ok (.if_icmp .ne 10, 3) := by decide +kernel
theorem dX6_letter_27 : decode cX6_letter 27 = .ok (.aload_n 0, 1) := by decide +kernel
theorem dX6_letter_28 : decode cX6_letter 28 = .ok (.bipush (-6), 2) := by decide +kernel
theorem dX6_letter_30 : decode cX6_letter 30 = .ok (.invokevirtual 48, 3) := by decide +kernel
theorem dX6_letter_33 : decode cX6_letter 33 = .ok (.ireturn, 1) := by decide +kernel
theorem dX6_letter_34 : decode cX6_letter 34 = .ok (.aload_n 0, 1) := by decide +kernel
theorem dX6_letter_35 : decode cX6_letter 35 = .ok (.getfield 28, 3) := by decide +kernel
theorem dX6_letter_38 : decode cX6_letter 38 = .ok (.aload_n 0, 1) := by decide +kernel
theorem dX6_letter_39 : decode cX6_letter 39 = .ok (.getfield 91, 3) := by decide +kernel
theorem dX6_letter_42 : decode cX6_letter 42 = .ok (.iload_n 1, 1) := by decide +kernel
theorem dX6_letter_43 : decode cX6_letter 43 = .ok (.iastore, 1) := by decide +kernel
theorem dX6_letter_44 : decode cX6_letter 44 = .ok (.aload_n 0, 1) := by decide +kernel
theorem dX6_letter_45 : decode cX6_letter 45 = .ok (.dup, 1) := by decide +kernel
theorem dX6_letter_46 : decode cX6_letter 46 = .ok (.getfield 91, 3) := by decide +kernel
theorem dX6_letter_49 : decode cX6_letter 49 = .ok (.iconst 1, 1) := by decide +kernel
theorem dX6_letter_50 : decode cX6_letter 50 = .ok (.iadd, 1) := by decide +kernel
theorem dX6_letter_51 : decode cX6_letter 51 = .ok (.putfield 91, 3) := by decide +kernel
theorem dX6_letter_54 : decode cX6_letter 54 = .ok (.aload_n 0, 1) := by decide +kernel
theorem dX6_letter_55 : decode cX6_letter 55 = .ok (.getfield 91, 3) := by decide +kernel
theorem dX6_letter_58 : decode cX6_letter 58 = .ok (.ireturn, 1) := by decide +kernel
theorem dX6_here_0 : decode cX6_here 0 = .ok (.aload_n 0, 1) := by decide +kernel
theorem dX6_here_1 : decode cX6_here 1 = .ok (.getfield 95, 3) := by decide +kernel
theorem dX6_here_4 : decode cX6_here 4 = .ok (.aload_n 0, 1) := by decide +kernel
theorem dX6_here_5 : decode cX6_here 5 = .ok (.getfield 91, 3) := by decide +kernel
theorem dX6_here_8 : decode cX6_here 8 = .ok (.if_icmp .ge 15, 3) := by decide +kernel
theorem dX6_here_11 : decode cX6_here 11 = .ok (.aload_n 0, 1) := by decide +kernel
theorem dX6_here_12 : decode cX6_here 12 = .ok (.getfield 28, 3) := by decide +kernel
theorem dX6_here_15 : decode cX6_here 15 = .ok (.aload_n 0, 1) := by decide +kernel
theorem dX6_here_16 : decode cX6_here 16 = .ok (.getfield 95, 3) := by decide +kernel
theorem dX6_here_19 : decode cX6_here 19 = .ok (.iaload, 1) := by decide +kernel
theorem dX6_here_20 : decode cX6_here 20 = .ok (.goto 4, 3) := by decide +kernel
theorem dX6_here_23 : decode cX6_here 23 = .ok (.iconst (-1), 1) := by decide +kernel
theorem dX6_here_24 : decode cX6_here 24 = .ok (.ireturn, 1) := by decide +kernel
theorem dX6_readsNumber_0 : decode cX6_readsNumber 0 = .ok (.aload_n 0, 1) := by decide +kernel
theorem dX6_readsNumber_1 : decode cX6_readsNumber 1 = .ok (.getfield 37, 3) := by decide +kernel
theorem dX6_readsNumber_4 : decode cX6_readsNumber 4 = .ok (.iload_n 1, 1) := by decide +kernel
theorem dX6_readsNumber_5 : decode cX6_readsNumber 5 = .ok (.iconst 0, 1) := by decide +kernel
theorem dX6_readsNumber_6 : decode cX6_readsNumber 6 = .ok (.iastore, 1) := by decide +kernel
theorem dX6_readsNumber_7 : decode cX6_readsNumber 7 = .ok (.iconst 0, 1) := by decide +kernel
theorem dX6_readsNumber_8 : decode cX6_readsNumber 8 = .ok (.istore_n 3, 1) := by decide +kernel
theorem dX6_readsNumber_9 : decode cX6_readsNumber 9 = .ok (.iload_n 3, 1) := by decide +kernel
theorem dX6_readsNumber_10 : decode cX6_readsNumber 10 = .ok (.iload_n 2, 1) := by decide +kernel
theorem dX6_readsNumber_11 : decode cX6_readsNumber 11 = .ok (.if_icmp .ge 58, 3) := by decide +kernel
theorem dX6_readsNumber_14 : decode cX6_readsNumber 14 = .ok (.aload_n 0, 1) := by decide +kernel
theorem dX6_readsNumber_15 : decode cX6_readsNumber 15 = .ok (.invokevirtual 98, 3) := by decide +kernel
theorem dX6_readsNumber_18 : decode cX6_readsNumber 18 = .ok (.bipush 48, 2) := by decide +kernel
theorem dX6_readsNumber_20 : decode cX6_readsNumber 20 = .ok (.bipush 57, 2) := by decide +kernel
theorem dX6_readsNumber_22 : decode cX6_readsNumber 22 = .ok (.invokestatic 52, 3) := by decide +kernel
theorem dX6_readsNumber_25 : decode cX6_readsNumber 25 = .ok (.ifCond .ne 5, 3) := by decide +kernel
theorem dX6_readsNumber_28 : decode cX6_readsNumber 28 = .ok (.iconst 0, 1) := by decide +kernel
theorem dX6_readsNumber_29 : decode cX6_readsNumber 29 = .ok (.ireturn, 1) := by decide +kernel
theorem dX6_readsNumber_30 : decode cX6_readsNumber 30 = .ok (.aload_n 0, 1) := by decide +kernel
theorem dX6_readsNumber_31 : decode cX6_readsNumber 31 = .ok (.getfield 37, 3) := by decide +kernel
theorem dX6_readsNumber_34 : decode cX6_readsNumber 34 = .ok (.iload_n 1, 1) := by decide +kernel
theorem dX6_readsNumber_35 : decode cX6_readsNumber 35 = .ok (.bipush 10, 2) := by decide +kernel
theorem dX6_readsNumber_37 : decode cX6_readsNumber 37 = .ok (.aload_n 0, 1) := by decide +kernel
theorem dX6_readsNumber_38 : decode cX6_readsNumber 38 = .ok (.getfield 37, 3) := by decide +kernel
theorem dX6_readsNumber_41 : decode cX6_readsNumber 41 = .ok (.iload_n 1, 1) := by decide +kernel
theorem dX6_readsNumber_42 : decode cX6_readsNumber 42 = .ok (.iaload, 1) := by decide +kernel
theorem dX6_readsNumber_43 : decode cX6_readsNumber 43 = .ok (.imul, 1) := by decide +kernel
theorem dX6_readsNumber_44 : decode cX6_readsNumber 44 = .ok (.aload_n 0, 1) := by decide +kernel
theorem dX6_readsNumber_45 : decode cX6_readsNumber 45 = .ok (.invokevirtual 98, 3) := by decide +kernel
theorem dX6_readsNumber_48 : decode cX6_readsNumber 48 = .ok (.iadd, 1) := by decide +kernel
theorem dX6_readsNumber_49 : decode cX6_readsNumber 49 = .ok (.bipush 48, 2) := by decide +kernel
theorem dX6_readsNumber_51 : decode cX6_readsNumber 51 = .ok (.isub, 1) := by decide +kernel
theorem dX6_readsNumber_52 : decode cX6_readsNumber 52 = .ok (.iastore, 1) := by decide +kernel
theorem dX6_readsNumber_53 : decode cX6_readsNumber 53 = .ok (.aload_n 0, 1) := by decide +kernel
theorem dX6_readsNumber_54 : decode cX6_readsNumber 54 = .ok (.dup, 1) := by decide +kernel
theorem dX6_readsNumber_55 : decode cX6_readsNumber 55 = .ok (.getfield 95, 3) := by decide +kernel
theorem dX6_readsNumber_58 : decode cX6_readsNumber 58 = .ok (.iconst 1, 1) := by decide +kernel
theorem dX6_readsNumber_59 : decode cX6_readsNumber 59 = .ok (.iadd, 1) := by decide +kernel
theorem dX6_readsNumber_60 : decode cX6_readsNumber 60 = .ok (.putfield 95, 3) := by decide +kernel
theorem dX6_readsNumber_63 : decode cX6_readsNumber 63 = .ok (.iinc 3 1, 3) := by decide +kernel
theorem dX6_readsNumber_66 : decode cX6_readsNumber 66 = .ok (.goto (-57), 3) := by decide +kernel
theorem dX6_readsNumber_69 : decode cX6_readsNumber 69 = .ok (.iconst 1, 1) := by decide +kernel
theorem dX6_readsNumber_70 : decode cX6_readsNumber 70 = .ok (.ireturn, 1) := by decide +kernel
theorem dX6_kindBy_0 : decode cX6_kindBy 0 = .ok (.iload_n 0, 1) := by decide +kernel
theorem dX6_kindBy_1 : decode cX6_kindBy 1 = .ok (.lookupswitch 71 #[(99, 65), (102, 67), (109, 69), (114, 63), (116, 61), (119, 59)], 59) := by decide +kernel
theorem dX6_kindBy_60 : decode cX6_kindBy 60 = .ok (.iconst 0, 1) := by decide +kernel
theorem dX6_kindBy_61 : decode cX6_kindBy 61 = .ok (.ireturn, 1) := by decide +kernel
theorem dX6_kindBy_62 : decode cX6_kindBy 62 = .ok (.iconst 1, 1) := by decide +kernel
theorem dX6_kindBy_63 : decode cX6_kindBy 63 = .ok (.ireturn, 1) := by decide +kernel
theorem dX6_kindBy_64 : decode cX6_kindBy 64 = .ok (.iconst 2, 1) := by decide +kernel
theorem dX6_kindBy_65 : decode cX6_kindBy 65 = .ok (.ireturn, 1) := by decide +kernel
theorem dX6_kindBy_66 : decode cX6_kindBy 66 = .ok (.iconst 3, 1) := by decide +kernel
theorem dX6_kindBy_67 : decode cX6_kindBy 67 = .ok (.ireturn, 1) := by decide +kernel
theorem dX6_kindBy_68 : decode cX6_kindBy 68 = .ok (.iconst 4, 1) := by decide +kernel
theorem dX6_kindBy_69 : decode cX6_kindBy 69 = .ok (.ireturn, 1) := by decide +kernel
theorem dX6_kindBy_70 : decode cX6_kindBy 70 = .ok (.iconst 5, 1) := by decide +kernel
theorem dX6_kindBy_71 : decode cX6_kindBy 71 = .ok (.ireturn, 1) := by decide +kernel
theorem dX6_kindBy_72 : decode cX6_kindBy 72 = .ok (.bipush (-9), 2) := by decide +kernel
theorem dX6_kindBy_74 : decode cX6_kindBy 74 = .ok (.ireturn, 1) := by decide +kernel
theorem dX6_readsKind_0 : decode cX6_readsKind 0 = .ok (.aload_n 0, 1) := by decide +kernel
theorem dX6_readsKind_1 : decode cX6_readsKind 1 = .ok (.getfield 37, 3) := by decide +kernel
theorem dX6_readsKind_4 : decode cX6_readsKind 4 = .ok (.iconst 0, 1) := by decide +kernel
theorem dX6_readsKind_5 : decode cX6_readsKind 5 = .ok (.aload_n 0, 1) := by decide +kernel
theorem dX6_readsKind_6 : decode cX6_readsKind 6 = .ok (.invokevirtual 98, 3) := by decide +kernel
theorem dX6_readsKind_9 : decode cX6_readsKind 9 = .ok (.invokestatic 102, 3) := by decide +kernel
theorem dX6_readsKind_12 : decode cX6_readsKind 12 = .ok (.iastore, 1) := by decide +kernel
theorem dX6_readsKind_13 : decode cX6_readsKind 13 = .ok (.aload_n 0, 1) := by decide +kernel
theorem dX6_readsKind_14 : decode cX6_readsKind 14 = .ok (.dup, 1) := by decide +kernel
theorem dX6_readsKind_15 : decode cX6_readsKind 15 = .ok (.getfield 95, 3) := by decide +kernel
theorem dX6_readsKind_18 : decode cX6_readsKind 18 = .ok (.aload_n 0, 1) := by decide +kernel
theorem dX6_readsKind_19 : decode cX6_readsKind 19 = .ok (.getfield 37, 3) := by decide +kernel
theorem dX6_readsKind_22 : decode cX6_readsKind 22 = .ok (.iconst 0, 1) := by decide +kernel
theorem dX6_readsKind_23 : decode cX6_readsKind 23 = .ok (.iaload, 1) := by decide +kernel
theorem dX6_readsKind_24 : decode cX6_readsKind 24 = .ok (.ifCond .ge 7, 3) := by decide +kernel
theorem dX6_readsKind_27 : decode cX6_readsKind 27 = .ok (.iconst 0, 1) := by decide +kernel
theorem dX6_readsKind_28 : decode cX6_readsKind 28 = .ok (.goto 4, 3) := by decide +kernel
theorem dX6_readsKind_31 : decode cX6_readsKind 31 = .ok (.iconst 1, 1) := by decide +kernel
theorem dX6_readsKind_32 : decode cX6_readsKind 32 = .ok (.iadd, 1) := by decide +kernel
theorem dX6_readsKind_33 : decode cX6_readsKind 33 = .ok (.putfield 95, 3) := by decide +kernel
theorem dX6_readsKind_36 : decode cX6_readsKind 36 = .ok (.aload_n 0, 1) := by decide +kernel
theorem dX6_readsKind_37 : decode cX6_readsKind 37 = .ok (.getfield 37, 3) := by decide +kernel
theorem dX6_readsKind_40 : decode cX6_readsKind 40 = .ok (.iconst 0, 1) := by decide +kernel
theorem dX6_readsKind_41 : decode cX6_readsKind 41 = .ok (.iaload, 1) := by decide +kernel
theorem dX6_readsKind_42 : decode cX6_readsKind 42 = .ok (.ifCond .lt 7, 3) := by decide +kernel
theorem dX6_readsKind_45 : decode cX6_readsKind 45 = .ok (.iconst 1, 1) := by decide +kernel
theorem dX6_readsKind_46 : decode cX6_readsKind 46 = .ok (.goto 4, 3) := by decide +kernel
theorem dX6_readsKind_49 : decode cX6_readsKind 49 = .ok (.iconst 0, 1) := by decide +kernel
theorem dX6_readsKind_50 : decode cX6_readsKind 50 = .ok (.ireturn, 1) := by decide +kernel
theorem dX6_readsStatement_0 : decode cX6_readsStatement 0 = .ok (.aload_n 0, 1) := by decide +kernel
theorem dX6_readsStatement_1 : decode cX6_readsStatement 1 = .ok (.invokevirtual 98, 3) := by decide +kernel
theorem dX6_readsStatement_4 : decode cX6_readsStatement 4 = .ok (.istore_n 1, 1) := by decide +kernel
theorem dX6_readsStatement_5 : decode cX6_readsStatement 5 = .ok (.aload_n 0, 1) := by decide +kernel
theorem dX6_readsStatement_6 : decode cX6_readsStatement 6 = .ok (.dup, 1) := by decide +kernel
theorem dX6_readsStatement_7 : decode cX6_readsStatement 7 = .ok (.getfield 95, 3) := by decide +kernel
theorem dX6_readsStatement_10 : decode cX6_readsStatement 10 = .ok (.iconst 1, 1) := by decide +kernel
theorem dX6_readsStatement_11 : decode cX6_readsStatement 11 = .ok (.iadd, 1) := by decide +kernel
theorem dX6_readsStatement_12 : decode cX6_readsStatement 12 = .ok (.putfield 95, 3) := by decide +kernel
theorem dX6_readsStatement_15 : decode cX6_readsStatement 15 = .ok (.iload_n 1, 1) := by decide +kernel
theorem dX6_readsStatement_16 : decode cX6_readsStatement 16 = .ok (.tableswitch 260 97 121 #[177, 260, 260, 260, 260, 116, 260, 214, 260, 260, 260, 260, 260, 260, 204, 152, 260, 260, 204, 260, 260, 260, 260, 260, 250], 116) := by decide +kernel
theorem dX6_readsStatement_132 : decode cX6_readsStatement 132 = .ok (.aload_n 0, 1) := by decide +kernel
theorem dX6_readsStatement_133 : decode cX6_readsStatement 133 = .ok (.iconst 0, 1) := by decide +kernel
theorem dX6_readsStatement_134 : decode cX6_readsStatement 134 = .ok (.iconst 2, 1) := by decide +kernel
theorem dX6_readsStatement_135 : decode cX6_readsStatement 135 = .ok (.invokevirtual 105, 3) := by decide +kernel
theorem dX6_readsStatement_138 : decode cX6_readsStatement 138 = .ok (.ifCond .eq 25, 3) := by decide +kernel
theorem dX6_readsStatement_141 : decode cX6_readsStatement 141 = .ok (.aload_n 0, 1) := by decide +kernel
theorem dX6_readsStatement_142 : decode cX6_readsStatement 142 = .ok (.iconst 1, 1) := by decide +kernel
theorem dX6_readsStatement_143 : decode cX6_readsStatement 143 = .ok (.iconst 2, 1) := by decide +kernel
theorem dX6_readsStatement_144 : decode cX6_readsStatement 144 = .ok (.invokevirtual 105, 3) := by decide +kernel
theorem dX6_readsStatement_147 : decode cX6_readsStatement 147 = .ok (.ifCond .eq 16, 3) := by decide +kernel
theorem dX6_readsStatement_150 : decode cX6_readsStatement 150 = .ok (.aload_n 0, 1) := by decide +kernel
theorem dX6_readsStatement_151 : decode cX6_readsStatement 151 = .ok (.iconst 2, 1) := by decide +kernel
theorem dX6_readsStatement_152 : decode cX6_readsStatement 152 = .ok (.iconst 2, 1) := by decide +kernel
theorem dX6_readsStatement_153 : decode cX6_readsStatement 153 = .ok (.invokevirtual 105, 3) := by decide +kernel
theorem dX6_readsStatement_156 : decode cX6_readsStatement 156 = .ok (.ifCond .eq 7, 3) := by decide +kernel
theorem dX6_readsStatement_159 : decode cX6_readsStatement 159 = .ok (.iconst 1, 1) := by decide +kernel
theorem dX6_readsStatement_160 : decode cX6_readsStatement 160 = .ok (.goto 4, 3) := by decide +kernel
theorem dX6_readsStatement_163 : decode cX6_readsStatement 163 = .ok (.iconst 0, 1) := by decide +kernel
theorem dX6_readsStatement_164 : decode cX6_readsStatement 164 = .ok (.istore_n 2, 1) := by decide +kernel
theorem dX6_readsStatement_165 : decode cX6_readsStatement 165 = .ok (.goto 123, 3) := by decide +kernel
theorem dX6_readsStatement_168 : decode cX6_readsStatement 168 = .ok (.aload_n 0, 1) := by decide +kernel
theorem dX6_readsStatement_169 : decode cX6_readsStatement 169 = .ok (.invokevirtual 109, 3) := by decide +kernel
theorem dX6_readsStatement_172 : decode cX6_readsStatement 172 = .ok (.ifCond .eq 16, 3) := by decide +kernel
theorem dX6_readsStatement_175 : decode cX6_readsStatement 175 = .ok (.aload_n 0, 1) := by decide +kernel
theorem dX6_readsStatement_176 : decode cX6_readsStatement 176 = .ok (.iconst 1, 1) := by decide +kernel
theorem dX6_readsStatement_177 : decode cX6_readsStatement 177 = .ok (.iconst 1, 1) := by decide +kernel
theorem dX6_readsStatement_178 : decode cX6_readsStatement 178 = .ok (.invokevirtual 105, 3) := by decide +kernel
theorem dX6_readsStatement_181 : decode cX6_readsStatement 181 = .ok (.ifCond .eq 7, 3) := by decide +kernel
theorem dX6_readsStatement_184 : decode cX6_readsStatement 184 = .ok (.iconst 1, 1) := by decide +kernel
theorem dX6_readsStatement_185 : decode cX6_readsStatement 185 = .ok (.goto 4, 3) := by decide +kernel
theorem dX6_readsStatement_188 : decode cX6_readsStatement 188 = .ok (.iconst 0, 1) := by decide +kernel
theorem dX6_readsStatement_189 : decode cX6_readsStatement 189 = .ok (.istore_n 2, 1) := by decide +kernel
theorem dX6_readsStatement_190 : decode cX6_readsStatement 190 = .ok (.goto 98, 3) := by decide +kernel
theorem dX6_readsStatement_193 : decode cX6_readsStatement 193 = .ok (.aload_n 0, 1) := by decide +kernel
theorem dX6_readsStatement_194 : decode cX6_readsStatement 194 = .ok (.iconst 0, 1) := by decide +kernel
theorem dX6_readsStatement_195 : decode cX6_readsStatement 195 = .ok (.iconst 1, 1) := by decide +kernel
theorem dX6_readsStatement_196 : decode cX6_readsStatement 196 = .ok (.invokevirtual 105, 3) := by decide +kernel
theorem dX6_readsStatement_199 : decode cX6_readsStatement 199 = .ok (.ifCond .eq 16, 3) := by decide +kernel
theorem dX6_readsStatement_202 : decode cX6_readsStatement 202 = .ok (.aload_n 0, 1) := by decide +kernel
theorem dX6_readsStatement_203 : decode cX6_readsStatement 203 = .ok (.iconst 1, 1) := by decide +kernel
theorem dX6_readsStatement_204 : decode cX6_readsStatement 204 = .ok (.iconst 1, 1) := by decide +kernel
theorem dX6_readsStatement_205 : decode cX6_readsStatement 205 = .ok (.invokevirtual 105, 3) := by decide +kernel
theorem dX6_readsStatement_208 : decode cX6_readsStatement 208 = .ok (.ifCond .eq 7, 3) := by decide +kernel
theorem dX6_readsStatement_211 : decode cX6_readsStatement 211 = .ok (.iconst 1, 1) := by decide +kernel
theorem dX6_readsStatement_212 : decode cX6_readsStatement 212 = .ok (.goto 4, 3) := by decide +kernel
theorem dX6_readsStatement_215 : decode cX6_readsStatement 215 = .ok (.iconst 0, 1) := by decide +kernel
theorem dX6_readsStatement_216 : decode cX6_readsStatement 216 = .ok (.istore_n 2, 1) := by decide +kernel
theorem dX6_readsStatement_217 : decode cX6_readsStatement 217 = .ok (.goto 71, 3) := by decide +kernel
theorem dX6_readsStatement_220 : decode cX6_readsStatement 220 = .ok (.aload_n 0, 1) := by decide +kernel
theorem dX6_readsStatement_221 : decode cX6_readsStatement 221 = .ok (.iconst 0, 1) := by decide +kernel
theorem dX6_readsStatement_222 : decode cX6_readsStatement 222 = .ok (.iconst 1, 1) := by decide +kernel
theorem dX6_readsStatement_223 : decode cX6_readsStatement 223 = .ok (.invokevirtual 105, 3) := by decide +kernel
theorem dX6_readsStatement_226 : decode cX6_readsStatement 226 = .ok (.istore_n 2, 1) := by decide +kernel
theorem dX6_readsStatement_227 : decode cX6_readsStatement 227 = .ok (.goto 61, 3) := by decide +kernel
theorem dX6_readsStatement_230 : decode cX6_readsStatement 230 = .ok (.aload_n 0, 1) := by decide +kernel
theorem dX6_readsStatement_231 : decode cX6_readsStatement 231 = .ok (.iconst 0, 1) := by decide +kernel
theorem dX6_readsStatement_232 : decode cX6_readsStatement 232 = .ok (.iconst 1, 1) := by decide +kernel
theorem dX6_readsStatement_233 : decode cX6_readsStatement 233 = .ok (.invokevirtual 105, 3) := by decide +kernel
theorem dX6_readsStatement_236 : decode cX6_readsStatement 236 = .ok (.ifCond .eq 25, 3) := by decide +kernel
theorem dX6_readsStatement_239 : decode cX6_readsStatement 239 = .ok (.aload_n 0, 1) := by decide +kernel
theorem dX6_readsStatement_240 : decode cX6_readsStatement 240 = .ok (.iconst 1, 1) := by decide +kernel
theorem dX6_readsStatement_241 : decode cX6_readsStatement 241 = .ok (.iconst 1, 1) := by decide +kernel
theorem dX6_readsStatement_242 : decode cX6_readsStatement 242 = .ok (.invokevirtual 105, 3) := by decide +kernel
theorem dX6_readsStatement_245 : decode cX6_readsStatement 245 = .ok (.ifCond .eq 16, 3) := by decide +kernel
theorem dX6_readsStatement_248 : decode cX6_readsStatement 248 = .ok (.aload_n 0, 1) := by decide +kernel
theorem dX6_readsStatement_249 : decode cX6_readsStatement 249 = .ok (.iconst 2, 1) := by decide +kernel
theorem dX6_readsStatement_250 : decode cX6_readsStatement 250 = .ok (.iconst 2, 1) := by decide +kernel
theorem dX6_readsStatement_251 : decode cX6_readsStatement 251 = .ok (.invokevirtual 105, 3) := by decide +kernel
theorem dX6_readsStatement_254 : decode cX6_readsStatement 254 = .ok (.ifCond .eq 7, 3) := by decide +kernel
theorem dX6_readsStatement_257 : decode cX6_readsStatement 257 = .ok (.iconst 1, 1) := by decide +kernel
theorem dX6_readsStatement_258 : decode cX6_readsStatement 258 = .ok (.goto 4, 3) := by decide +kernel
theorem dX6_readsStatement_261 : decode cX6_readsStatement 261 = .ok (.iconst 0, 1) := by decide +kernel
theorem dX6_readsStatement_262 : decode cX6_readsStatement 262 = .ok (.istore_n 2, 1) := by decide +kernel
theorem dX6_readsStatement_263 : decode cX6_readsStatement 263 = .ok (.goto 25, 3) := by decide +kernel
theorem dX6_readsStatement_266 : decode cX6_readsStatement 266 = .ok (.aload_n 0, 1) := by decide +kernel
theorem dX6_readsStatement_267 : decode cX6_readsStatement 267 = .ok (.iconst 0, 1) := by decide +kernel
theorem dX6_readsStatement_268 : decode cX6_readsStatement 268 = .ok (.iconst 2, 1) := by decide +kernel
theorem dX6_readsStatement_269 : decode cX6_readsStatement 269 = .ok (.invokevirtual 105, 3) := by decide +kernel
theorem dX6_readsStatement_272 : decode cX6_readsStatement 272 = .ok (.istore_n 2, 1) := by decide +kernel
theorem dX6_readsStatement_273 : decode cX6_readsStatement 273 = .ok (.goto 15, 3) := by decide +kernel
theorem dX6_readsStatement_276 : decode cX6_readsStatement 276 = .ok (.aload_n 0, 1) := by decide +kernel
theorem dX6_readsStatement_277 : decode cX6_readsStatement 277 = .ok (.dup, 1) := by decide +kernel
theorem dX6_readsStatement_278 : decode cX6_readsStatement 278 = .ok (.getfield 95, 3) := by decide +kernel
theorem dX6_readsStatement_281 : decode cX6_readsStatement 281 = .ok (.iconst 1, 1) := by decide +kernel
theorem dX6_readsStatement_282 : decode cX6_readsStatement 282 = .ok (.isub, 1) := by decide +kernel
theorem dX6_readsStatement_283 : decode cX6_readsStatement 283 = .ok (.putfield 95, 3) := by decide +kernel
theorem dX6_readsStatement_286 : decode cX6_readsStatement 286 = .ok (.iconst 0, 1) := by decide +kernel
theorem dX6_readsStatement_287 : decode cX6_readsStatement 287 = .ok (.ireturn, 1) := by decide +kernel
theorem dX6_readsStatement_288 : decode cX6_readsStatement 288 = .ok (.iload_n 2, 1) := by decide +kernel
theorem dX6_readsStatement_289 : decode cX6_readsStatement 289 = .ok (.ifCond .eq 12, 3) := by decide +kernel
theorem dX6_readsStatement_292 : decode cX6_readsStatement 292 = .ok (.aload_n 0, 1) := by decide +kernel
theorem dX6_readsStatement_293 : decode cX6_readsStatement 293 = .ok (.invokevirtual 98, 3) := by decide +kernel
theorem dX6_readsStatement_296 : decode cX6_readsStatement 296 = .ok (.bipush 59, 2) := by decide +kernel
theorem dX6_readsStatement_298 : decode cX6_readsStatement 298 = .ok (.if_icmp .eq 5, 3) := by decide +kernel
theorem dX6_readsStatement_301 : decode cX6_readsStatement 301 = .ok (.iconst 0, 1) := by decide +kernel
theorem dX6_readsStatement_302 : decode cX6_readsStatement 302 = .ok (.ireturn, 1) := by decide +kernel
theorem dX6_readsStatement_303 : decode cX6_readsStatement 303 = .ok (.aload_n 0, 1) := by decide +kernel
theorem dX6_readsStatement_304 : decode cX6_readsStatement 304 = .ok (.dup, 1) := by decide +kernel
theorem dX6_readsStatement_305 : decode cX6_readsStatement 305 = .ok (.getfield 95, 3) := by decide +kernel
theorem dX6_readsStatement_308 : decode cX6_readsStatement 308 = .ok (.iconst 1, 1) := by decide +kernel
theorem dX6_readsStatement_309 : decode cX6_readsStatement 309 = .ok (.iadd, 1) := by decide +kernel
theorem dX6_readsStatement_310 : decode cX6_readsStatement 310 = .ok (.putfield 95, 3) := by decide +kernel
theorem dX6_readsStatement_313 : decode cX6_readsStatement 313 = .ok (.iconst 1, 1) := by decide +kernel
theorem dX6_readsStatement_314 : decode cX6_readsStatement 314 = .ok (.ireturn, 1) := by decide +kernel
theorem dX6_isDone_0 : decode cX6_isDone 0 = .ok (.aload_n 0, 1) := by decide +kernel
theorem dX6_isDone_1 : decode cX6_isDone 1 = .ok (.getfield 37, 3) := by decide +kernel
theorem dX6_isDone_4 : decode cX6_isDone 4 = .ok (.iconst 0, 1) := by decide +kernel
theorem dX6_isDone_5 : decode cX6_isDone 5 = .ok (.iaload, 1) := by decide +kernel
theorem dX6_isDone_6 : decode cX6_isDone 6 = .ok (.istore_n 2, 1) := by decide +kernel
theorem dX6_isDone_7 : decode cX6_isDone 7 = .ok (.aload_n 0, 1) := by decide +kernel
theorem dX6_isDone_8 : decode cX6_isDone 8 = .ok (.getfield 37, 3) := by decide +kernel
theorem dX6_isDone_11 : decode cX6_isDone 11 = .ok (.iconst 1, 1) := by decide +kernel
theorem dX6_isDone_12 : decode cX6_isDone 12 = .ok (.iaload, 1) := by decide +kernel
theorem dX6_isDone_13 : decode cX6_isDone 13 = .ok (.istore_n 3, 1) := by decide +kernel
theorem dX6_isDone_14 : decode cX6_isDone 14 = .ok (.aload_n 0, 1) := by decide +kernel
theorem dX6_isDone_15 : decode cX6_isDone 15 = .ok (.getfield 37, 3) := by decide +kernel
theorem dX6_isDone_18 : decode cX6_isDone 18 = .ok (.iconst 2, 1) := by decide +kernel
theorem dX6_isDone_19 : decode cX6_isDone 19 = .ok (.iaload, 1) := by decide +kernel
theorem dX6_isDone_20 : decode cX6_isDone 20 = .ok (.istore 4, 2) := by decide +kernel
theorem dX6_isDone_22 : decode cX6_isDone 22 = .ok (.iconst 0, 1) := by decide +kernel
theorem dX6_isDone_23 : decode cX6_isDone 23 = .ok (.istore 5, 2) := by decide +kernel
theorem dX6_isDone_25 : decode cX6_isDone 25 = .ok (.iload_n 1, 1) := by decide +kernel
theorem dX6_isDone_26 : decode cX6_isDone 26 = .ok (.tableswitch 369 97 115 #[262, 369, 369, 369, 369, 90, 369, 315, 369, 369, 369, 369, 369, 369, 291, 172, 369, 369, 351], 90) := by decide +kernel
theorem dX6_isDone_116 : decode cX6_isDone 116 = .ok (.iload_n 2, 1) := by decide +kernel
theorem dX6_isDone_117 : decode cX6_isDone 117 = .ok (.bipush 30, 2) := by decide +kernel
theorem dX6_isDone_119 : decode cX6_isDone 119 = .ok (.if_icmp .gt 27, 3) := by decide +kernel
theorem dX6_isDone_122 : decode cX6_isDone 122 = .ok (.iload_n 3, 1) := by decide +kernel
theorem dX6_isDone_123 : decode cX6_isDone 123 = .ok (.bipush 30, 2) := by decide +kernel
theorem dX6_isDone_125 : decode cX6_isDone 125 = .ok (.if_icmp .gt 21, 3) := by decide +kernel
theorem dX6_isDone_128 : decode cX6_isDone 128 = .ok (.iload 4, 2) := by decide +kernel
theorem dX6_isDone_130 : decode cX6_isDone 130 = .ok (.bipush 30, 2) := by decide +kernel
theorem dX6_isDone_132 : decode cX6_isDone 132 = .ok (.if_icmp .gt 14, 3) := by decide +kernel
theorem dX6_isDone_135 : decode cX6_isDone 135 = .ok (.aload_n 0, 1) := by decide +kernel
theorem dX6_isDone_136 : decode cX6_isDone 136 = .ok (.getfield 9, 3) := by decide +kernel
theorem dX6_isDone_139 : decode cX6_isDone 139 = .ok (.iconst 0, 1) := by decide +kernel
theorem dX6_isDone_140 : decode cX6_isDone 140 = .ok (.iaload, 1) := by decide +kernel
theorem dX6_isDone_141 : decode cX6_isDone 141 = .ok (.bipush 6, 2) := by decide +kernel
theorem dX6_isDone_143 : decode cX6_isDone 143 = .ok (.if_icmp .ne 5, 3) := by decide +kernel
theorem dX6_isDone_146 : decode cX6_isDone 146 = .ok (.iconst 0, 1) := by decide +kernel
theorem dX6_isDone_147 : decode cX6_isDone 147 = .ok (.ireturn, 1) := by decide +kernel
theorem dX6_isDone_148 : decode cX6_isDone 148 = .ok (.iconst 0, 1) := by decide +kernel
theorem dX6_isDone_149 : decode cX6_isDone 149 = .ok (.istore 6, 2) := by decide +kernel
theorem dX6_isDone_151 : decode cX6_isDone 151 = .ok (.iload 6, 2) := by decide +kernel
theorem dX6_isDone_153 : decode cX6_isDone 153 = .ok (.iconst 3, 1) := by decide +kernel
theorem dX6_isDone_154 : decode cX6_isDone 154 = .ok (.if_icmp .ge 32, 3) := by decide +kernel
theorem dX6_isDone_157 : decode cX6_isDone 157 = .ok (.aload_n 0, 1) := by decide +kernel
theorem dX6_isDone_158 : decode cX6_isDone 158 = .ok (.getfield 9, 3) := by decide +kernel
theorem dX6_isDone_161 : decode cX6_isDone 161 = .ok (.aload_n 0, 1) := by decide +kernel
theorem dX6_isDone_162 : decode cX6_isDone 162 = .ok (.getfield 9, 3) := by decide +kernel
theorem dX6_isDone_165 : decode cX6_isDone 165 = .ok (.iconst 0, 1) := by decide +kernel
theorem dX6_isDone_166 : decode cX6_isDone 166 = .ok (.iaload, 1) := by decide +kernel
theorem dX6_isDone_167 : decode cX6_isDone 167 = .ok (.iload 6, 2) := by decide +kernel
theorem dX6_isDone_169 : decode cX6_isDone 169 = .ok (.invokestatic 60, 3) := by decide +kernel
theorem dX6_isDone_172 : decode cX6_isDone 172 = .ok (.aload_n 0, 1) := by decide +kernel
theorem dX6_isDone_173 : decode cX6_isDone 173 = .ok (.getfield 37, 3) := by decide +kernel
theorem dX6_isDone_176 : decode cX6_isDone 176 = .ok (.iload 6, 2) := by decide +kernel
theorem dX6_isDone_178 : decode cX6_isDone 178 = .ok (.iaload, 1) := by decide +kernel
theorem dX6_isDone_179 : decode cX6_isDone 179 = .ok (.iastore, 1) := by decide +kernel
theorem dX6_isDone_180 : decode cX6_isDone 180 = .ok (.iinc 6 1, 3) := by decide +kernel
theorem dX6_isDone_183 : decode cX6_isDone 183 = .ok (.goto (-32), 3) := by decide +kernel
theorem dX6_isDone_186 : decode cX6_isDone 186 = .ok (.aload_n 0, 1) := by decide +kernel
theorem dX6_isDone_187 : decode cX6_isDone 187 = .ok (.getfield 9, 3) := by decide +kernel
theorem dX6_isDone_190 : decode cX6_isDone 190 = .ok (.iconst 0, 1) := by decide +kernel
theorem dX6_isDone_191 : decode cX6_isDone 191 = .ok (.dup2, 1) := by decide +kernel
theorem dX6_isDone_192 : decode cX6_isDone 192 = .ok (.iaload, 1) := by decide +kernel
theorem dX6_isDone_193 : decode cX6_isDone 193 = .ok (.iconst 1, 1) := by decide +kernel
theorem dX6_isDone_194 : decode cX6_isDone 194 = .ok (.iadd, 1) := by decide +kernel
theorem dX6_isDone_195 : decode cX6_isDone 195 = .ok (.iastore, 1) := by decide +kernel
theorem dX6_isDone_196 : decode cX6_isDone 196 = .ok (.iconst 1, 1) := by decide +kernel
theorem dX6_isDone_197 : decode cX6_isDone 197 = .ok (.ireturn, 1) := by decide +kernel
theorem dX6_isDone_198 : decode cX6_isDone 198 = .ok (.aload_n 0, 1) := by decide +kernel
theorem dX6_isDone_199 : decode cX6_isDone 199 = .ok (.getfield 9, 3) := by decide +kernel
theorem dX6_isDone_202 : decode cX6_isDone 202 = .ok (.iconst 1, 1) := by decide +kernel
theorem dX6_isDone_203 : decode cX6_isDone 203 = .ok (.iaload, 1) := by decide +kernel
theorem dX6_isDone_204 : decode cX6_isDone 204 = .ok (.bipush 6, 2) := by decide +kernel
theorem dX6_isDone_206 : decode cX6_isDone 206 = .ok (.if_icmp .ne 5, 3) := by decide +kernel
theorem dX6_isDone_209 : decode cX6_isDone 209 = .ok (.iconst 0, 1) := by decide +kernel
theorem dX6_isDone_210 : decode cX6_isDone 210 = .ok (.ireturn, 1) := by decide +kernel
theorem dX6_isDone_211 : decode cX6_isDone 211 = .ok (.aload_n 0, 1) := by decide +kernel
theorem dX6_isDone_212 : decode cX6_isDone 212 = .ok (.getfield 9, 3) := by decide +kernel
theorem dX6_isDone_215 : decode cX6_isDone 215 = .ok (.aload_n 0, 1) := by decide +kernel
theorem dX6_isDone_216 : decode cX6_isDone 216 = .ok (.getfield 9, 3) := by decide +kernel
theorem dX6_isDone_219 : decode cX6_isDone 219 = .ok (.iconst 1, 1) := by decide +kernel
theorem dX6_isDone_220 : decode cX6_isDone 220 = .ok (.iaload, 1) := by decide +kernel
theorem dX6_isDone_221 : decode cX6_isDone 221 = .ok (.iconst 0, 1) := by decide +kernel
theorem dX6_isDone_222 : decode cX6_isDone 222 = .ok (.invokestatic 56, 3) := by decide +kernel
theorem dX6_isDone_225 : decode cX6_isDone 225 = .ok (.iload_n 2, 1) := by decide +kernel
theorem dX6_isDone_226 : decode cX6_isDone 226 = .ok (.iastore, 1) := by decide +kernel
theorem dX6_isDone_227 : decode cX6_isDone 227 = .ok (.aload_n 0, 1) := by decide +kernel
theorem dX6_isDone_228 : decode cX6_isDone 228 = .ok (.getfield 9, 3) := by decide +kernel
theorem dX6_isDone_231 : decode cX6_isDone 231 = .ok (.aload_n 0, 1) := by decide +kernel
theorem dX6_isDone_232 : decode cX6_isDone 232 = .ok (.getfield 9, 3) := by decide +kernel
theorem dX6_isDone_235 : decode cX6_isDone 235 = .ok (.iconst 1, 1) := by decide +kernel
theorem dX6_isDone_236 : decode cX6_isDone 236 = .ok (.iaload, 1) := by decide +kernel
theorem dX6_isDone_237 : decode cX6_isDone 237 = .ok (.iconst 1, 1) := by decide +kernel
theorem dX6_isDone_238 : decode cX6_isDone 238 = .ok (.invokestatic 56, 3) := by decide +kernel
theorem dX6_isDone_241 : decode cX6_isDone 241 = .ok (.iload_n 3, 1) := by decide +kernel
theorem dX6_isDone_242 : decode cX6_isDone 242 = .ok (.iastore, 1) := by decide +kernel
theorem dX6_isDone_243 : decode cX6_isDone 243 = .ok (.aload_n 0, 1) := by decide +kernel
theorem dX6_isDone_244 : decode cX6_isDone 244 = .ok (.getfield 9, 3) := by decide +kernel
theorem dX6_isDone_247 : decode cX6_isDone 247 = .ok (.aload_n 0, 1) := by decide +kernel
theorem dX6_isDone_248 : decode cX6_isDone 248 = .ok (.getfield 9, 3) := by decide +kernel
theorem dX6_isDone_251 : decode cX6_isDone 251 = .ok (.iconst 1, 1) := by decide +kernel
theorem dX6_isDone_252 : decode cX6_isDone 252 = .ok (.iaload, 1) := by decide +kernel
theorem dX6_isDone_253 : decode cX6_isDone 253 = .ok (.iconst 2, 1) := by decide +kernel
theorem dX6_isDone_254 : decode cX6_isDone 254 = .ok (.invokestatic 56, 3) := by decide +kernel
theorem dX6_isDone_257 : decode cX6_isDone 257 = .ok (.iconst 0, 1) := by decide +kernel
theorem dX6_isDone_258 : decode cX6_isDone 258 = .ok (.iastore, 1) := by decide +kernel
theorem dX6_isDone_259 : decode cX6_isDone 259 = .ok (.aload_n 0, 1) := by decide +kernel
theorem dX6_isDone_260 : decode cX6_isDone 260 = .ok (.getfield 9, 3) := by decide +kernel
theorem dX6_isDone_263 : decode cX6_isDone 263 = .ok (.aload_n 0, 1) := by decide +kernel
theorem dX6_isDone_264 : decode cX6_isDone 264 = .ok (.getfield 9, 3) := by decide +kernel
theorem dX6_isDone_267 : decode cX6_isDone 267 = .ok (.iconst 1, 1) := by decide +kernel
theorem dX6_isDone_268 : decode cX6_isDone 268 = .ok (.iaload, 1) := by decide +kernel
theorem dX6_isDone_269 : decode cX6_isDone 269 = .ok (.iconst 3, 1) := by decide +kernel
theorem dX6_isDone_270 : decode cX6_isDone 270 = .ok (.invokestatic 56, 3) := by decide +kernel
theorem dX6_isDone_273 : decode cX6_isDone 273 = .ok (.bipush (-9), 2) := by decide +kernel
theorem dX6_isDone_275 : decode cX6_isDone 275 = .ok (.iastore, 1) := by decide +kernel
theorem dX6_isDone_276 : decode cX6_isDone 276 = .ok (.aload_n 0, 1) := by decide +kernel
theorem dX6_isDone_277 : decode cX6_isDone 277 = .ok (.getfield 9, 3) := by decide +kernel
theorem dX6_isDone_280 : decode cX6_isDone 280 = .ok (.iconst 1, 1) := by decide +kernel
theorem dX6_isDone_281 : decode cX6_isDone 281 = .ok (.dup2, 1) := by decide +kernel
theorem dX6_isDone_282 : decode cX6_isDone 282 = .ok (.iaload, 1) := by decide +kernel
theorem dX6_isDone_283 : decode cX6_isDone 283 = .ok (.iconst 1, 1) := by decide +kernel
theorem dX6_isDone_284 : decode cX6_isDone 284 = .ok (.iadd, 1) := by decide +kernel
theorem dX6_isDone_285 : decode cX6_isDone 285 = .ok (.iastore, 1) := by decide +kernel
theorem dX6_isDone_286 : decode cX6_isDone 286 = .ok (.iconst 1, 1) := by decide +kernel
theorem dX6_isDone_287 : decode cX6_isDone 287 = .ok (.ireturn, 1) := by decide +kernel
theorem dX6_isDone_288 : decode cX6_isDone 288 = .ok (.aload_n 0, 1) := by decide +kernel
theorem dX6_isDone_289 : decode cX6_isDone 289 = .ok (.iload_n 2, 1) := by decide +kernel
theorem dX6_isDone_290 : decode cX6_isDone 290 = .ok (.invokevirtual 113, 3) := by decide +kernel
theorem dX6_isDone_293 : decode cX6_isDone 293 = .ok (.ifCond .eq 11, 3) := by decide +kernel
theorem dX6_isDone_296 : decode cX6_isDone 296 = .ok (.aload_n 0, 1) := by decide +kernel
theorem dX6_isDone_297 : decode cX6_isDone 297 = .ok (.iload_n 3, 1) := by decide +kernel
theorem dX6_isDone_298 : decode cX6_isDone 298 = .ok (.invokevirtual 117, 3) := by decide +kernel
theorem dX6_isDone_301 : decode cX6_isDone 301 = .ok (.ifCond .ne 5, 3) := by decide +kernel
theorem dX6_isDone_304 : decode cX6_isDone 304 = .ok (.iconst 0, 1) := by decide +kernel
theorem dX6_isDone_305 : decode cX6_isDone 305 = .ok (.ireturn, 1) := by decide +kernel
theorem dX6_isDone_306 : decode cX6_isDone 306 = .ok (.aload_n 0, 1) := by decide +kernel
theorem dX6_isDone_307 : decode cX6_isDone 307 = .ok (.getfield 9, 3) := by decide +kernel
theorem dX6_isDone_310 : decode cX6_isDone 310 = .ok (.iload_n 2, 1) := by decide +kernel
theorem dX6_isDone_311 : decode cX6_isDone 311 = .ok (.iload_n 3, 1) := by decide +kernel
theorem dX6_isDone_312 : decode cX6_isDone 312 = .ok (.invokestatic 120, 3) := by decide +kernel
theorem dX6_isDone_315 : decode cX6_isDone 315 = .ok (.iconst 1, 1) := by decide +kernel
theorem dX6_isDone_316 : decode cX6_isDone 316 = .ok (.ireturn, 1) := by decide +kernel
theorem dX6_isDone_317 : decode cX6_isDone 317 = .ok (.aload_n 0, 1) := by decide +kernel
theorem dX6_isDone_318 : decode cX6_isDone 318 = .ok (.iload_n 2, 1) := by decide +kernel
theorem dX6_isDone_319 : decode cX6_isDone 319 = .ok (.invokevirtual 113, 3) := by decide +kernel
theorem dX6_isDone_322 : decode cX6_isDone 322 = .ok (.ifCond .ne 5, 3) := by decide +kernel
theorem dX6_isDone_325 : decode cX6_isDone 325 = .ok (.iconst 0, 1) := by decide +kernel
theorem dX6_isDone_326 : decode cX6_isDone 326 = .ok (.ireturn, 1) := by decide +kernel
theorem dX6_isDone_327 : decode cX6_isDone 327 = .ok (.aload_n 0, 1) := by decide +kernel
theorem dX6_isDone_328 : decode cX6_isDone 328 = .ok (.getfield 9, 3) := by decide +kernel
theorem dX6_isDone_331 : decode cX6_isDone 331 = .ok (.iload_n 2, 1) := by decide +kernel
theorem dX6_isDone_332 : decode cX6_isDone 332 = .ok (.iconst 3, 1) := by decide +kernel
theorem dX6_isDone_333 : decode cX6_isDone 333 = .ok (.invokestatic 56, 3) := by decide +kernel
theorem dX6_isDone_336 : decode cX6_isDone 336 = .ok (.bipush (-9), 2) := by decide +kernel
theorem dX6_isDone_338 : decode cX6_isDone 338 = .ok (.iastore, 1) := by decide +kernel
theorem dX6_isDone_339 : decode cX6_isDone 339 = .ok (.iconst 1, 1) := by decide +kernel
theorem dX6_isDone_340 : decode cX6_isDone 340 = .ok (.ireturn, 1) := by decide +kernel
theorem dX6_isDone_341 : decode cX6_isDone 341 = .ok (.aload_n 0, 1) := by decide +kernel
theorem dX6_isDone_342 : decode cX6_isDone 342 = .ok (.iload_n 2, 1) := by decide +kernel
theorem dX6_isDone_343 : decode cX6_isDone 343 = .ok (.invokevirtual 117, 3) := by decide +kernel
theorem dX6_isDone_346 : decode cX6_isDone 346 = .ok (.ifCond .eq 15, 3) := by decide +kernel
theorem dX6_isDone_349 : decode cX6_isDone 349 = .ok (.iload_n 3, 1) := by decide +kernel
theorem dX6_isDone_350 : decode cX6_isDone 350 = .ok (.iconst 3, 1) := by decide +kernel
theorem dX6_isDone_351 : decode cX6_isDone 351 = .ok (.if_icmp .ge 10, 3) := by decide +kernel
theorem dX6_isDone_354 : decode cX6_isDone 354 = .ok (.iload 4, 2) := by decide +kernel
theorem dX6_isDone_356 : decode cX6_isDone 356 = .ok (.bipush 30, 2) := by decide +kernel
theorem dX6_isDone_358 : decode cX6_isDone 358 = .ok (.if_icmp .le 5, 3) := by decide +kernel
theorem dX6_isDone_361 : decode cX6_isDone 361 = .ok (.iconst 0, 1) := by decide +kernel
theorem dX6_isDone_362 : decode cX6_isDone 362 = .ok (.ireturn, 1) := by decide +kernel
theorem dX6_isDone_363 : decode cX6_isDone 363 = .ok (.aload_n 0, 1) := by decide +kernel
theorem dX6_isDone_364 : decode cX6_isDone 364 = .ok (.getfield 9, 3) := by decide +kernel
theorem dX6_isDone_367 : decode cX6_isDone 367 = .ok (.iload_n 2, 1) := by decide +kernel
theorem dX6_isDone_368 : decode cX6_isDone 368 = .ok (.iload_n 3, 1) := by decide +kernel
theorem dX6_isDone_369 : decode cX6_isDone 369 = .ok (.invokestatic 60, 3) := by decide +kernel
theorem dX6_isDone_372 : decode cX6_isDone 372 = .ok (.iload 4, 2) := by decide +kernel
theorem dX6_isDone_374 : decode cX6_isDone 374 = .ok (.iastore, 1) := by decide +kernel
theorem dX6_isDone_375 : decode cX6_isDone 375 = .ok (.iconst 1, 1) := by decide +kernel
theorem dX6_isDone_376 : decode cX6_isDone 376 = .ok (.ireturn, 1) := by decide +kernel
theorem dX6_isDone_377 : decode cX6_isDone 377 = .ok (.aload_n 0, 1) := by decide +kernel
theorem dX6_isDone_378 : decode cX6_isDone 378 = .ok (.getfield 9, 3) := by decide +kernel
theorem dX6_isDone_381 : decode cX6_isDone 381 = .ok (.iconst 2, 1) := by decide +kernel
theorem dX6_isDone_382 : decode cX6_isDone 382 = .ok (.iload_n 2, 1) := by decide +kernel
theorem dX6_isDone_383 : decode cX6_isDone 383 = .ok (.iastore, 1) := by decide +kernel
theorem dX6_isDone_384 : decode cX6_isDone 384 = .ok (.iload_n 2, 1) := by decide +kernel
theorem dX6_isDone_385 : decode cX6_isDone 385 = .ok (.iconst 5, 1) := by decide +kernel
theorem dX6_isDone_386 : decode cX6_isDone 386 = .ok (.if_icmp .gt 7, 3) := by decide +kernel
theorem dX6_isDone_389 : decode cX6_isDone 389 = .ok (.iconst 1, 1) := by decide +kernel
theorem dX6_isDone_390 : decode cX6_isDone 390 = .ok (.goto 4, 3) := by decide +kernel
theorem dX6_isDone_393 : decode cX6_isDone 393 = .ok (.iconst 0, 1) := by decide +kernel
theorem dX6_isDone_394 : decode cX6_isDone 394 = .ok (.ireturn, 1) := by decide +kernel
theorem dX6_isDone_395 : decode cX6_isDone 395 = .ok (.iload_n 2, 1) := by decide +kernel
theorem dX6_isDone_396 : decode cX6_isDone 396 = .ok (.iconst 1, 1) := by decide +kernel
theorem dX6_isDone_397 : decode cX6_isDone 397 = .ok (.bipush 60, 2) := by decide +kernel
theorem dX6_isDone_399 : decode cX6_isDone 399 = .ok (.invokestatic 52, 3) := by decide +kernel
theorem dX6_isDone_402 : decode cX6_isDone 402 = .ok (.ifCond .eq 17, 3) := by decide +kernel
theorem dX6_isDone_405 : decode cX6_isDone 405 = .ok (.aload_n 0, 1) := by decide +kernel
theorem dX6_isDone_406 : decode cX6_isDone 406 = .ok (.getfield 9, 3) := by decide +kernel
theorem dX6_isDone_409 : decode cX6_isDone 409 = .ok (.iconst 4, 1) := by decide +kernel
theorem dX6_isDone_410 : decode cX6_isDone 410 = .ok (.iaload, 1) := by decide +kernel
theorem dX6_isDone_411 : decode cX6_isDone 411 = .ok (.iload_n 2, 1) := by decide +kernel
theorem dX6_isDone_412 : decode cX6_isDone 412 = .ok (.iadd, 1) := by decide +kernel
theorem dX6_isDone_413 : decode cX6_isDone 413 = .ok (.sipush 999, 3) := by decide +kernel
theorem dX6_isDone_416 : decode cX6_isDone 416 = .ok (.if_icmp .le 5, 3) := by decide +kernel
theorem dX6_isDone_419 : decode cX6_isDone 419 = .ok (.iconst 0, 1) := by decide +kernel
theorem dX6_isDone_420 : decode cX6_isDone 420 = .ok (.ireturn, 1) := by decide +kernel
theorem dX6_isDone_421 : decode cX6_isDone 421 = .ok (.aload_n 0, 1) := by decide +kernel
theorem dX6_isDone_422 : decode cX6_isDone 422 = .ok (.aload_n 0, 1) := by decide +kernel
theorem dX6_isDone_423 : decode cX6_isDone 423 = .ok (.getfield 9, 3) := by decide +kernel
theorem dX6_isDone_426 : decode cX6_isDone 426 = .ok (.iload_n 2, 1) := by decide +kernel
theorem dX6_isDone_427 : decode cX6_isDone 427 = .ok (.invokevirtual 124, 3) := by decide +kernel
theorem dX6_isDone_430 : decode cX6_isDone 430 = .ok (.istore 5, 2) := by decide +kernel
theorem dX6_isDone_432 : decode cX6_isDone 432 = .ok (.iconst 1, 1) := by decide +kernel
theorem dX6_isDone_433 : decode cX6_isDone 433 = .ok (.ireturn, 1) := by decide +kernel
theorem dX6_land_0 : decode cX6_land 0 = .ok (.aload_n 0, 1) := by decide +kernel
theorem dX6_land_1 : decode cX6_land 1 = .ok (.iconst 0, 1) := by decide +kernel
theorem dX6_land_2 : decode cX6_land 2 = .ok (.putfield 95, 3) := by decide +kernel
theorem dX6_land_5 : decode cX6_land 5 = .ok (.iconst 0, 1) := by decide +kernel
theorem dX6_land_6 : decode cX6_land 6 = .ok (.istore_n 1, 1) := by decide +kernel
theorem dX6_land_7 : decode cX6_land 7 = .ok (.bipush (-9), 2) := by decide +kernel
theorem dX6_land_9 : decode cX6_land 9 = .ok (.istore_n 2, 1) := by decide +kernel
theorem dX6_land_10 : decode cX6_land 10 = .ok (.aload_n 0, 1) := by decide +kernel
theorem dX6_land_11 : decode cX6_land 11 = .ok (.invokevirtual 127, 3) := by decide +kernel
theorem dX6_land_14 : decode cX6_land 14 = .ok (.ifCond .ne 12, 3) := by decide +kernel
theorem dX6_land_17 : decode cX6_land 17 = .ok (.sipush (-1000), 3) := by decide +kernel
theorem dX6_land_20 : decode cX6_land 20 = .ok (.aload_n 0, 1) := by decide +kernel
theorem dX6_land_21 : decode cX6_land 21 = .ok (.getfield 95, 3) := by decide +kernel
theorem dX6_land_24 : decode cX6_land 24 = .ok (.isub, 1) := by decide +kernel
theorem dX6_land_25 : decode cX6_land 25 = .ok (.istore_n 2, 1) := by decide +kernel
theorem dX6_land_26 : decode cX6_land 26 = .ok (.iinc 1 1, 3) := by decide +kernel
theorem dX6_land_29 : decode cX6_land 29 = .ok (.iload_n 2, 1) := by decide +kernel
theorem dX6_land_30 : decode cX6_land 30 = .ok (.bipush (-9), 2) := by decide +kernel
theorem dX6_land_32 : decode cX6_land 32 = .ok (.if_icmp .ne 14, 3) := by decide +kernel
theorem dX6_land_35 : decode cX6_land 35 = .ok (.aload_n 0, 1) := by decide +kernel
theorem dX6_land_36 : decode cX6_land 36 = .ok (.getfield 95, 3) := by decide +kernel
theorem dX6_land_39 : decode cX6_land 39 = .ok (.aload_n 0, 1) := by decide +kernel
theorem dX6_land_40 : decode cX6_land 40 = .ok (.getfield 91, 3) := by decide +kernel
theorem dX6_land_43 : decode cX6_land 43 = .ok (.if_icmp .lt (-33), 3) := by decide +kernel
theorem dX6_land_46 : decode cX6_land 46 = .ok (.aload_n 0, 1) := by decide +kernel
theorem dX6_land_47 : decode cX6_land 47 = .ok (.getfield 9, 3) := by decide +kernel
theorem dX6_land_50 : decode cX6_land 50 = .ok (.aload_n 0, 1) := by decide +kernel
theorem dX6_land_51 : decode cX6_land 51 = .ok (.getfield 19, 3) := by decide +kernel
theorem dX6_land_54 : decode cX6_land 54 = .ok (.invokestatic 130, 3) := by decide +kernel
theorem dX6_land_57 : decode cX6_land 57 = .ok (.aload_n 0, 1) := by decide +kernel
theorem dX6_land_58 : decode cX6_land 58 = .ok (.iconst 0, 1) := by decide +kernel
theorem dX6_land_59 : decode cX6_land 59 = .ok (.putfield 95, 3) := by decide +kernel
theorem dX6_land_62 : decode cX6_land 62 = .ok (.iload_n 2, 1) := by decide +kernel
theorem dX6_land_63 : decode cX6_land 63 = .ok (.bipush (-9), 2) := by decide +kernel
theorem dX6_land_65 : decode cX6_land 65 = .ok (.if_icmp .ne 63, 3) := by decide +kernel
theorem dX6_land_68 : decode cX6_land 68 = .ok (.aload_n 0, 1) := by decide +kernel
theorem dX6_land_69 : decode cX6_land 69 = .ok (.getfield 95, 3) := by decide +kernel
theorem dX6_land_72 : decode cX6_land 72 = .ok (.aload_n 0, 1) := by decide +kernel
theorem dX6_land_73 : decode cX6_land 73 = .ok (.getfield 91, 3) := by decide +kernel
theorem dX6_land_76 : decode cX6_land 76 = .ok (.if_icmp .ge 52, 3) := by decide +kernel
theorem dX6_land_79 : decode cX6_land 79 = .ok (.aload_n 0, 1) := by decide +kernel
theorem dX6_land_80 : decode cX6_land 80 = .ok (.getfield 95, 3) := by decide +kernel
theorem dX6_land_83 : decode cX6_land 83 = .ok (.istore_n 3, 1) := by decide +kernel
theorem dX6_land_84 : decode cX6_land 84 = .ok (.aload_n 0, 1) := by decide +kernel
theorem dX6_land_85 : decode cX6_land 85 = .ok (.invokevirtual 98, 3) := by decide +kernel
theorem dX6_land_88 : decode cX6_land 88 = .ok (.istore 4, 2) := by decide +kernel
theorem dX6_land_90 : decode cX6_land 90 = .ok (.aload_n 0, 1) := by decide +kernel
theorem dX6_land_91 : decode cX6_land 91 = .ok (.invokevirtual 127, 3) := by decide +kernel
theorem dX6_land_94 : decode cX6_land 94 = .ok (.istore 5, 2) := by decide +kernel
theorem dX6_land_96 : decode cX6_land 96 = .ok (.aload_n 0, 1) := by decide +kernel
theorem dX6_land_97 : decode cX6_land 97 = .ok (.iload 4, 2) := by decide +kernel
theorem dX6_land_99 : decode cX6_land 99 = .ok (.invokevirtual 134, 3) := by decide +kernel
theorem dX6_land_102 : decode cX6_land 102 = .ok (.ifCond .eq 6, 3) := by decide +kernel
theorem dX6_land_105 : decode cX6_land 105 = .ok (.goto (-43), 3) := by decide +kernel
theorem dX6_land_108 : decode cX6_land 108 = .ok (.sipush (-2000), 3) := by decide +kernel
theorem dX6_land_111 : decode cX6_land 111 = .ok (.iload_n 3, 1) := by decide +kernel
theorem dX6_land_112 : decode cX6_land 112 = .ok (.isub, 1) := by decide +kernel
theorem dX6_land_113 : decode cX6_land 113 = .ok (.istore_n 2, 1) := by decide +kernel
theorem dX6_land_114 : decode cX6_land 114 = .ok (.aload_n 0, 1) := by decide +kernel
theorem dX6_land_115 : decode cX6_land 115 = .ok (.getfield 19, 3) := by decide +kernel
theorem dX6_land_118 : decode cX6_land 118 = .ok (.aload_n 0, 1) := by decide +kernel
theorem dX6_land_119 : decode cX6_land 119 = .ok (.getfield 9, 3) := by decide +kernel
theorem dX6_land_122 : decode cX6_land 122 = .ok (.invokestatic 130, 3) := by decide +kernel
theorem dX6_land_125 : decode cX6_land 125 = .ok (.goto (-63), 3) := by decide +kernel
theorem dX6_land_128 : decode cX6_land 128 = .ok (.aload_n 0, 1) := by decide +kernel
theorem dX6_land_129 : decode cX6_land 129 = .ok (.iconst 0, 1) := by decide +kernel
theorem dX6_land_130 : decode cX6_land 130 = .ok (.putfield 91, 3) := by decide +kernel
theorem dX6_land_133 : decode cX6_land 133 = .ok (.iload_n 2, 1) := by decide +kernel
theorem dX6_land_134 : decode cX6_land 134 = .ok (.bipush (-9), 2) := by decide +kernel
theorem dX6_land_136 : decode cX6_land 136 = .ok (.if_icmp .ne 7, 3) := by decide +kernel
theorem dX6_land_139 : decode cX6_land 139 = .ok (.iload_n 1, 1) := by decide +kernel
theorem dX6_land_140 : decode cX6_land 140 = .ok (.goto 4, 3) := by decide +kernel
theorem dX6_land_143 : decode cX6_land 143 = .ok (.iload_n 2, 1) := by decide +kernel
theorem dX6_land_144 : decode cX6_land 144 = .ok (.ireturn, 1) := by decide +kernel
theorem dX6_farm_0 : decode cX6_farm 0 = .ok (.aload_n 0, 1) := by decide +kernel
theorem dX6_farm_1 : decode cX6_farm 1 = .ok (.iload_n 1, 1) := by decide +kernel
theorem dX6_farm_2 : decode cX6_farm 2 = .ok (.invokevirtual 117, 3) := by decide +kernel
theorem dX6_farm_5 : decode cX6_farm 5 = .ok (.ifCond .ne 9, 3) := by decide +kernel
theorem dX6_farm_8 : decode cX6_farm 8 = .ok (.aload_n 0, 1) := by decide +kernel
theorem dX6_farm_9 : decode cX6_farm 9 = .ok (.iconst (-1), 1) := by decide +kernel
theorem dX6_farm_10 : decode cX6_farm 10 = .ok (.invokevirtual 48, 3) := by decide +kernel
theorem dX6_farm_13 : decode cX6_farm 13 = .ok (.ireturn, 1) := by decide +kernel
theorem dX6_farm_14 : decode cX6_farm 14 = .ok (.iload_n 2, 1) := by decide +kernel
theorem dX6_farm_15 : decode cX6_farm 15 = .ok (.iconst 0, 1) := by decide +kernel
theorem dX6_farm_16 : decode cX6_farm 16 = .ok (.iconst 2, 1) := by decide +kernel
theorem dX6_farm_17 : decode cX6_farm 17 = .ok (.invokestatic 52, 3) := by decide +kernel
theorem dX6_farm_20 : decode cX6_farm 20 = .ok (.ifCond .eq 14, 3) := by decide +kernel
theorem dX6_farm_23 : decode cX6_farm 23 = .ok (.aload_n 0, 1) := by decide +kernel
theorem dX6_farm_24 : decode cX6_farm 24 = .ok (.getfield 9, 3) := by decide +kernel
theorem dX6_farm_27 : decode cX6_farm 27 = .ok (.iload_n 1, 1) := by decide +kernel
theorem dX6_farm_28 : decode cX6_farm 28 = .ok (.iload_n 2, 1) := by decide +kernel
theorem dX6_farm_29 : decode cX6_farm 29 = .ok (.invokestatic 60, 3) := by decide +kernel
theorem dX6_farm_32 : decode cX6_farm 32 = .ok (.iaload, 1) := by decide +kernel
theorem dX6_farm_33 : decode cX6_farm 33 = .ok (.ireturn, 1) := by decide +kernel
theorem dX6_farm_34 : decode cX6_farm 34 = .ok (.iload_n 2, 1) := by decide +kernel
theorem dX6_farm_35 : decode cX6_farm 35 = .ok (.iconst 3, 1) := by decide +kernel
theorem dX6_farm_36 : decode cX6_farm 36 = .ok (.if_icmp .ne 14, 3) := by decide +kernel
theorem dX6_farm_39 : decode cX6_farm 39 = .ok (.aload_n 0, 1) := by decide +kernel
theorem dX6_farm_40 : decode cX6_farm 40 = .ok (.getfield 9, 3) := by decide +kernel
theorem dX6_farm_43 : decode cX6_farm 43 = .ok (.iload_n 1, 1) := by decide +kernel
theorem dX6_farm_44 : decode cX6_farm 44 = .ok (.invokestatic 88, 3) := by decide +kernel
theorem dX6_farm_47 : decode cX6_farm 47 = .ok (.goto 25, 3) := by decide +kernel
theorem dX6_farm_50 : decode cX6_farm 50 = .ok (.iload_n 2, 1) := by decide +kernel
theorem dX6_farm_51 : decode cX6_farm 51 = .ok (.iconst 4, 1) := by decide +kernel
theorem dX6_farm_52 : decode cX6_farm 52 = .ok (.if_icmp .ne 14, 3) := by decide +kernel
theorem dX6_farm_55 : decode cX6_farm 55 = .ok (.aload_n 0, 1) := by decide +kernel
theorem dX6_farm_56 : decode cX6_farm 56 = .ok (.getfield 9, 3) := by decide +kernel
theorem dX6_farm_59 : decode cX6_farm 59 = .ok (.iload_n 1, 1) := by decide +kernel
theorem dX6_farm_60 : decode cX6_farm 60 = .ok (.invokestatic 80, 3) := by decide +kernel
theorem dX6_farm_63 : decode cX6_farm 63 = .ok (.goto 9, 3) := by decide +kernel
theorem dX6_farm_66 : decode cX6_farm 66 = .ok (.aload_n 0, 1) := by decide +kernel
theorem dX6_farm_67 : decode cX6_farm 67 = .ok (.bipush (-2), 2) := by decide +kernel
theorem dX6_farm_69 : decode cX6_farm 69 = .ok (.invokevirtual 48, 3) := by decide +kernel
theorem dX6_farm_72 : decode cX6_farm 72 = .ok (.ireturn, 1) := by decide +kernel
theorem dX6_farmer_0 : decode cX6_farmer 0 = .ok (.aload_n 0, 1) := by decide +kernel
theorem dX6_farmer_1 : decode cX6_farmer 1 = .ok (.iload_n 1, 1) := by decide +kernel
theorem dX6_farmer_2 : decode cX6_farmer 2 = .ok (.invokevirtual 113, 3) := by decide +kernel
theorem dX6_farmer_5 : decode cX6_farmer 5 = .ok (.ifCond .ne 9, 3) := by decide +kernel
theorem dX6_farmer_8 : decode cX6_farmer 8 = .ok (.aload_n 0, 1) := by decide +kernel
theorem dX6_farmer_9 : decode cX6_farmer 9 = .ok (.iconst (-1), 1) := by decide +kernel
theorem dX6_farmer_10 : decode cX6_farmer 10 = .ok (.invokevirtual 48, 3) := by decide +kernel
theorem dX6_farmer_13 : decode cX6_farmer 13 = .ok (.ireturn, 1) := by decide +kernel
theorem dX6_farmer_14 : decode cX6_farmer 14 = .ok (.iload_n 2, 1) := by decide +kernel
theorem dX6_farmer_15 : decode cX6_farmer 15 = .ok (.iconst 0, 1) := by decide +kernel
theorem dX6_farmer_16 : decode cX6_farmer 16 = .ok (.iconst 3, 1) := by decide +kernel
theorem dX6_farmer_17 : decode cX6_farmer 17 = .ok (.invokestatic 52, 3) := by decide +kernel
theorem dX6_farmer_20 : decode cX6_farmer 20 = .ok (.ifCond .eq 14, 3) := by decide +kernel
theorem dX6_farmer_23 : decode cX6_farmer 23 = .ok (.aload_n 0, 1) := by decide +kernel
theorem dX6_farmer_24 : decode cX6_farmer 24 = .ok (.getfield 9, 3) := by decide +kernel
theorem dX6_farmer_27 : decode cX6_farmer 27 = .ok (.iload_n 1, 1) := by decide +kernel
theorem dX6_farmer_28 : decode cX6_farmer 28 = .ok (.iload_n 2, 1) := by decide +kernel
theorem dX6_farmer_29 : decode cX6_farmer 29 = .ok (.invokestatic 56, 3) := by decide +kernel
theorem dX6_farmer_32 : decode cX6_farmer 32 = .ok (.iaload, 1) := by decide +kernel
theorem dX6_farmer_33 : decode cX6_farmer 33 = .ok (.ireturn, 1) := by decide +kernel
theorem dX6_farmer_34 : decode cX6_farmer 34 = .ok (.iload_n 2, 1) := by decide +kernel
theorem dX6_farmer_35 : decode cX6_farmer 35 = .ok (.iconst 4, 1) := by decide +kernel
theorem dX6_farmer_36 : decode cX6_farmer 36 = .ok (.if_icmp .ne 24, 3) := by decide +kernel
theorem dX6_farmer_39 : decode cX6_farmer 39 = .ok (.aload_n 0, 1) := by decide +kernel
theorem dX6_farmer_40 : decode cX6_farmer 40 = .ok (.getfield 9, 3) := by decide +kernel
theorem dX6_farmer_43 : decode cX6_farmer 43 = .ok (.iload_n 1, 1) := by decide +kernel
theorem dX6_farmer_44 : decode cX6_farmer 44 = .ok (.aload_n 0, 1) := by decide +kernel
theorem dX6_farmer_45 : decode cX6_farmer 45 = .ok (.getfield 9, 3) := by decide +kernel
theorem dX6_farmer_48 : decode cX6_farmer 48 = .ok (.iload_n 1, 1) := by decide +kernel
theorem dX6_farmer_49 : decode cX6_farmer 49 = .ok (.iconst 3, 1) := by decide +kernel
theorem dX6_farmer_50 : decode cX6_farmer 50 = .ok (.invokestatic 56, 3) := by decide +kernel
theorem dX6_farmer_53 : decode cX6_farmer 53 = .ok (.iaload, 1) := by decide +kernel
theorem dX6_farmer_54 : decode cX6_farmer 54 = .ok (.invokestatic 70, 3) := by decide +kernel
theorem dX6_farmer_57 : decode cX6_farmer 57 = .ok (.goto 30, 3) := by decide +kernel
theorem dX6_farmer_60 : decode cX6_farmer 60 = .ok (.iload_n 2, 1) := by decide +kernel
theorem dX6_farmer_61 : decode cX6_farmer 61 = .ok (.iconst 5, 1) := by decide +kernel
theorem dX6_farmer_62 : decode cX6_farmer 62 = .ok (.if_icmp .ne 19, 3) := by decide +kernel
theorem dX6_farmer_65 : decode cX6_farmer 65 = .ok (.aload_n 0, 1) := by decide +kernel
theorem dX6_farmer_66 : decode cX6_farmer 66 = .ok (.getfield 9, 3) := by decide +kernel
theorem dX6_farmer_69 : decode cX6_farmer 69 = .ok (.iload_n 1, 1) := by decide +kernel
theorem dX6_farmer_70 : decode cX6_farmer 70 = .ok (.iconst 0, 1) := by decide +kernel
theorem dX6_farmer_71 : decode cX6_farmer 71 = .ok (.invokestatic 56, 3) := by decide +kernel
theorem dX6_farmer_74 : decode cX6_farmer 74 = .ok (.iaload, 1) := by decide +kernel
theorem dX6_farmer_75 : decode cX6_farmer 75 = .ok (.invokestatic 77, 3) := by decide +kernel
theorem dX6_farmer_78 : decode cX6_farmer 78 = .ok (.goto 9, 3) := by decide +kernel
theorem dX6_farmer_81 : decode cX6_farmer 81 = .ok (.aload_n 0, 1) := by decide +kernel
theorem dX6_farmer_82 : decode cX6_farmer 82 = .ok (.bipush (-2), 2) := by decide +kernel
theorem dX6_farmer_84 : decode cX6_farmer 84 = .ok (.invokevirtual 48, 3) := by decide +kernel
theorem dX6_farmer_87 : decode cX6_farmer 87 = .ok (.ireturn, 1) := by decide +kernel
theorem dX6_sits_0 : decode cX6_sits 0 = .ok (.aload_n 0, 1) := by decide +kernel
theorem dX6_sits_1 : decode cX6_sits 1 = .ok (.iload_n 1, 1) := by decide +kernel
theorem dX6_sits_2 : decode cX6_sits 2 = .ok (.invokevirtual 113, 3) := by decide +kernel
theorem dX6_sits_5 : decode cX6_sits 5 = .ok (.ifCond .eq 11, 3) := by decide +kernel
theorem dX6_sits_8 : decode cX6_sits 8 = .ok (.aload_n 0, 1) := by decide +kernel
theorem dX6_sits_9 : decode cX6_sits 9 = .ok (.iload_n 2, 1) := by decide +kernel
theorem dX6_sits_10 : decode cX6_sits 10 = .ok (.invokevirtual 117, 3) := by decide +kernel
theorem dX6_sits_13 : decode cX6_sits 13 = .ok (.ifCond .ne 9, 3) := by decide +kernel
theorem dX6_sits_16 : decode cX6_sits 16 = .ok (.aload_n 0, 1) := by decide +kernel
theorem dX6_sits_17 : decode cX6_sits 17 = .ok (.iconst (-1), 1) := by decide +kernel
theorem dX6_sits_18 : decode cX6_sits 18 = .ok (.invokevirtual 48, 3) := by decide +kernel
theorem dX6_sits_21 : decode cX6_sits 21 = .ok (.ireturn, 1) := by decide +kernel
theorem dX6_sits_22 : decode cX6_sits 22 = .ok (.aload_n 0, 1) := by decide +kernel
theorem dX6_sits_23 : decode cX6_sits 23 = .ok (.getfield 9, 3) := by decide +kernel
theorem dX6_sits_26 : decode cX6_sits 26 = .ok (.iload_n 2, 1) := by decide +kernel
theorem dX6_sits_27 : decode cX6_sits 27 = .ok (.invokestatic 80, 3) := by decide +kernel
theorem dX6_sits_30 : decode cX6_sits 30 = .ok (.istore_n 3, 1) := by decide +kernel
theorem dX6_sits_31 : decode cX6_sits 31 = .ok (.aload_n 0, 1) := by decide +kernel
theorem dX6_sits_32 : decode cX6_sits 32 = .ok (.getfield 9, 3) := by decide +kernel
theorem dX6_sits_35 : decode cX6_sits 35 = .ok (.iload_n 1, 1) := by decide +kernel
theorem dX6_sits_36 : decode cX6_sits 36 = .ok (.iload_n 2, 1) := by decide +kernel
theorem dX6_sits_37 : decode cX6_sits 37 = .ok (.invokestatic 120, 3) := by decide +kernel
theorem dX6_sits_40 : decode cX6_sits 40 = .ok (.iload_n 3, 1) := by decide +kernel
theorem dX6_sits_41 : decode cX6_sits 41 = .ok (.ireturn, 1) := by decide +kernel
theorem dX6_leaves_0 : decode cX6_leaves 0 = .ok (.aload_n 0, 1) := by decide +kernel
theorem dX6_leaves_1 : decode cX6_leaves 1 = .ok (.iload_n 1, 1) := by decide +kernel
theorem dX6_leaves_2 : decode cX6_leaves 2 = .ok (.invokevirtual 113, 3) := by decide +kernel
theorem dX6_leaves_5 : decode cX6_leaves 5 = .ok (.ifCond .ne 9, 3) := by decide +kernel
theorem dX6_leaves_8 : decode cX6_leaves 8 = .ok (.aload_n 0, 1) := by decide +kernel
theorem dX6_leaves_9 : decode cX6_leaves 9 = .ok (.iconst (-1), 1) := by decide +kernel
theorem dX6_leaves_10 : decode cX6_leaves 10 = .ok (.invokevirtual 48, 3) := by decide +kernel
theorem dX6_leaves_13 : decode cX6_leaves 13 = .ok (.ireturn, 1) := by decide +kernel
theorem dX6_leaves_14 : decode cX6_leaves 14 = .ok (.aload_n 0, 1) := by decide +kernel
theorem dX6_leaves_15 : decode cX6_leaves 15 = .ok (.getfield 9, 3) := by decide +kernel
theorem dX6_leaves_18 : decode cX6_leaves 18 = .ok (.iload_n 1, 1) := by decide +kernel
theorem dX6_leaves_19 : decode cX6_leaves 19 = .ok (.iconst 3, 1) := by decide +kernel
theorem dX6_leaves_20 : decode cX6_leaves 20 = .ok (.invokestatic 56, 3) := by decide +kernel
theorem dX6_leaves_23 : decode cX6_leaves 23 = .ok (.iaload, 1) := by decide +kernel
theorem dX6_leaves_24 : decode cX6_leaves 24 = .ok (.istore_n 2, 1) := by decide +kernel
theorem dX6_leaves_25 : decode cX6_leaves 25 = .ok (.iload_n 2, 1) := by decide +kernel
theorem dX6_leaves_26 : decode cX6_leaves 26 = .ok (.ifCond .ge 10, 3) := by decide +kernel
theorem dX6_leaves_29 : decode cX6_leaves 29 = .ok (.aload_n 0, 1) := by decide +kernel
theorem dX6_leaves_30 : decode cX6_leaves 30 = .ok (.bipush (-3), 2) := by decide +kernel
theorem dX6_leaves_32 : decode cX6_leaves 32 = .ok (.invokevirtual 48, 3) := by decide +kernel
theorem dX6_leaves_35 : decode cX6_leaves 35 = .ok (.ireturn, 1) := by decide +kernel
theorem dX6_leaves_36 : decode cX6_leaves 36 = .ok (.aload_n 0, 1) := by decide +kernel
theorem dX6_leaves_37 : decode cX6_leaves 37 = .ok (.getfield 9, 3) := by decide +kernel
theorem dX6_leaves_40 : decode cX6_leaves 40 = .ok (.iload_n 1, 1) := by decide +kernel
theorem dX6_leaves_41 : decode cX6_leaves 41 = .ok (.iconst 3, 1) := by decide +kernel
theorem dX6_leaves_42 : decode cX6_leaves 42 = .ok (.invokestatic 56, 3) := by decide +kernel
theorem dX6_leaves_45 : decode cX6_leaves 45 = .ok (.bipush (-9), 2) := by decide +kernel
theorem dX6_leaves_47 : decode cX6_leaves 47 = .ok (.iastore, 1) := by decide +kernel
theorem dX6_leaves_48 : decode cX6_leaves 48 = .ok (.iload_n 2, 1) := by decide +kernel
theorem dX6_leaves_49 : decode cX6_leaves 49 = .ok (.ireturn, 1) := by decide +kernel
theorem dX6_wrongBy_0 : decode cX6_wrongBy 0 = .ok (.iload_n 0, 1) := by decide +kernel
theorem dX6_wrongBy_1 : decode cX6_wrongBy 1 = .ok (.iload_n 1, 1) := by decide +kernel
theorem dX6_wrongBy_2 : decode cX6_wrongBy 2 = .ok (.if_icmp .ge 8, 3) := by decide +kernel
theorem dX6_wrongBy_5 : decode cX6_wrongBy 5 = .ok (.bipush (-4), 2) := by decide +kernel
theorem dX6_wrongBy_7 : decode cX6_wrongBy 7 = .ok (.goto 14, 3) := by decide +kernel
theorem dX6_wrongBy_10 : decode cX6_wrongBy 10 = .ok (.iload_n 0, 1) := by decide +kernel
theorem dX6_wrongBy_11 : decode cX6_wrongBy 11 = .ok (.iload_n 2, 1) := by decide +kernel
theorem dX6_wrongBy_12 : decode cX6_wrongBy 12 = .ok (.if_icmp .le 8, 3) := by decide +kernel
theorem dX6_wrongBy_15 : decode cX6_wrongBy 15 = .ok (.bipush (-6), 2) := by decide +kernel
theorem dX6_wrongBy_17 : decode cX6_wrongBy 17 = .ok (.goto 4, 3) := by decide +kernel
theorem dX6_wrongBy_20 : decode cX6_wrongBy 20 = .ok (.iconst 0, 1) := by decide +kernel
theorem dX6_wrongBy_21 : decode cX6_wrongBy 21 = .ok (.ireturn, 1) := by decide +kernel
theorem dX6_hearts_0 : decode cX6_hearts 0 = .ok (.aload_n 0, 1) := by decide +kernel
theorem dX6_hearts_1 : decode cX6_hearts 1 = .ok (.iload_n 1, 1) := by decide +kernel
theorem dX6_hearts_2 : decode cX6_hearts 2 = .ok (.invokevirtual 117, 3) := by decide +kernel
theorem dX6_hearts_5 : decode cX6_hearts 5 = .ok (.ifCond .eq 22, 3) := by decide +kernel
theorem dX6_hearts_8 : decode cX6_hearts 8 = .ok (.iload_n 2, 1) := by decide +kernel
theorem dX6_hearts_9 : decode cX6_hearts 9 = .ok (.iconst 0, 1) := by decide +kernel
theorem dX6_hearts_10 : decode cX6_hearts 10 = .ok (.iconst 2, 1) := by decide +kernel
theorem dX6_hearts_11 : decode cX6_hearts 11 = .ok (.invokestatic 52, 3) := by decide +kernel
theorem dX6_hearts_14 : decode cX6_hearts 14 = .ok (.ifCond .eq 13, 3) := by decide +kernel
theorem dX6_hearts_17 : decode cX6_hearts 17 = .ok (.iload_n 3, 1) := by decide +kernel
theorem dX6_hearts_18 : decode cX6_hearts 18 = .ok (.iconst 0, 1) := by decide +kernel
theorem dX6_hearts_19 : decode cX6_hearts 19 = .ok (.bipush 30, 2) := by decide +kernel
theorem dX6_hearts_21 : decode cX6_hearts 21 = .ok (.invokestatic 137, 3) := by decide +kernel
theorem dX6_hearts_24 : decode cX6_hearts 24 = .ok (.goto 4, 3) := by decide +kernel
theorem dX6_hearts_27 : decode cX6_hearts 27 = .ok (.iconst (-1), 1) := by decide +kernel
theorem dX6_hearts_28 : decode cX6_hearts 28 = .ok (.istore 4, 2) := by decide +kernel
theorem dX6_hearts_30 : decode cX6_hearts 30 = .ok (.iload 4, 2) := by decide +kernel
theorem dX6_hearts_32 : decode cX6_hearts 32 = .ok (.ifCond .eq 10, 3) := by decide +kernel
theorem dX6_hearts_35 : decode cX6_hearts 35 = .ok (.aload_n 0, 1) := by decide +kernel
theorem dX6_hearts_36 : decode cX6_hearts 36 = .ok (.iload 4, 2) := by decide +kernel
theorem dX6_hearts_38 : decode cX6_hearts 38 = .ok (.invokevirtual 48, 3) := by decide +kernel
theorem dX6_hearts_41 : decode cX6_hearts 41 = .ok (.ireturn, 1) := by decide +kernel
theorem dX6_hearts_42 : decode cX6_hearts 42 = .ok (.aload_n 0, 1) := by decide +kernel
theorem dX6_hearts_43 : decode cX6_hearts 43 = .ok (.getfield 9, 3) := by decide +kernel
theorem dX6_hearts_46 : decode cX6_hearts 46 = .ok (.iload_n 1, 1) := by decide +kernel
theorem dX6_hearts_47 : decode cX6_hearts 47 = .ok (.iload_n 2, 1) := by decide +kernel
theorem dX6_hearts_48 : decode cX6_hearts 48 = .ok (.invokestatic 60, 3) := by decide +kernel
theorem dX6_hearts_51 : decode cX6_hearts 51 = .ok (.iaload, 1) := by decide +kernel
theorem dX6_hearts_52 : decode cX6_hearts 52 = .ok (.istore 5, 2) := by decide +kernel
theorem dX6_hearts_54 : decode cX6_hearts 54 = .ok (.aload_n 0, 1) := by decide +kernel
theorem dX6_hearts_55 : decode cX6_hearts 55 = .ok (.getfield 9, 3) := by decide +kernel
theorem dX6_hearts_58 : decode cX6_hearts 58 = .ok (.iload_n 1, 1) := by decide +kernel
theorem dX6_hearts_59 : decode cX6_hearts 59 = .ok (.iload_n 2, 1) := by decide +kernel
theorem dX6_hearts_60 : decode cX6_hearts 60 = .ok (.invokestatic 60, 3) := by decide +kernel
theorem dX6_hearts_63 : decode cX6_hearts 63 = .ok (.iload_n 3, 1) := by decide +kernel
theorem dX6_hearts_64 : decode cX6_hearts 64 = .ok (.iastore, 1) := by decide +kernel
theorem dX6_hearts_65 : decode cX6_hearts 65 = .ok (.iload 5, 2) := by decide +kernel
theorem dX6_hearts_67 : decode cX6_hearts 67 = .ok (.ireturn, 1) := by decide +kernel
theorem dX6_steps_0 : decode cX6_steps 0 = .ok (.iload_n 1, 1) := by decide +kernel
theorem dX6_steps_1 : decode cX6_steps 1 = .ok (.iconst 0, 1) := by decide +kernel
theorem dX6_steps_2 : decode cX6_steps 2 = .ok (.iconst 5, 1) := by decide +kernel
theorem dX6_steps_3 : decode cX6_steps 3 = .ok (.invokestatic 137, 3) := by decide +kernel
theorem dX6_steps_6 : decode cX6_steps 6 = .ok (.istore_n 2, 1) := by decide +kernel
theorem dX6_steps_7 : decode cX6_steps 7 = .ok (.iload_n 2, 1) := by decide +kernel
theorem dX6_steps_8 : decode cX6_steps 8 = .ok (.ifCond .eq 9, 3) := by decide +kernel
theorem dX6_steps_11 : decode cX6_steps 11 = .ok (.aload_n 0, 1) := by decide +kernel
theorem dX6_steps_12 : decode cX6_steps 12 = .ok (.iload_n 2, 1) := by decide +kernel
theorem dX6_steps_13 : decode cX6_steps 13 = .ok (.invokevirtual 48, 3) := by decide +kernel
theorem dX6_steps_16 : decode cX6_steps 16 = .ok (.ireturn, 1) := by decide +kernel
theorem dX6_steps_17 : decode cX6_steps 17 = .ok (.aload_n 0, 1) := by decide +kernel
theorem dX6_steps_18 : decode cX6_steps 18 = .ok (.getfield 9, 3) := by decide +kernel
theorem dX6_steps_21 : decode cX6_steps 21 = .ok (.iconst 2, 1) := by decide +kernel
theorem dX6_steps_22 : decode cX6_steps 22 = .ok (.iaload, 1) := by decide +kernel
theorem dX6_steps_23 : decode cX6_steps 23 = .ok (.istore_n 3, 1) := by decide +kernel
theorem dX6_steps_24 : decode cX6_steps 24 = .ok (.aload_n 0, 1) := by decide +kernel
theorem dX6_steps_25 : decode cX6_steps 25 = .ok (.getfield 9, 3) := by decide +kernel
theorem dX6_steps_28 : decode cX6_steps 28 = .ok (.iconst 2, 1) := by decide +kernel
theorem dX6_steps_29 : decode cX6_steps 29 = .ok (.iload_n 1, 1) := by decide +kernel
theorem dX6_steps_30 : decode cX6_steps 30 = .ok (.iastore, 1) := by decide +kernel
theorem dX6_steps_31 : decode cX6_steps 31 = .ok (.iload_n 3, 1) := by decide +kernel
theorem dX6_steps_32 : decode cX6_steps 32 = .ok (.ireturn, 1) := by decide +kernel
theorem dX6_tires_0 : decode cX6_tires 0 = .ok (.aload_n 0, 1) := by decide +kernel
theorem dX6_tires_1 : decode cX6_tires 1 = .ok (.iload_n 1, 1) := by decide +kernel
theorem dX6_tires_2 : decode cX6_tires 2 = .ok (.invokevirtual 113, 3) := by decide +kernel
theorem dX6_tires_5 : decode cX6_tires 5 = .ok (.ifCond .eq 13, 3) := by decide +kernel
theorem dX6_tires_8 : decode cX6_tires 8 = .ok (.iload_n 2, 1) := by decide +kernel
theorem dX6_tires_9 : decode cX6_tires 9 = .ok (.iconst 0, 1) := by decide +kernel
theorem dX6_tires_10 : decode cX6_tires 10 = .ok (.bipush 20, 2) := by decide +kernel
theorem dX6_tires_12 : decode cX6_tires 12 = .ok (.invokestatic 137, 3) := by decide +kernel
theorem dX6_tires_15 : decode cX6_tires 15 = .ok (.goto 4, 3) := by decide +kernel
theorem dX6_tires_18 : decode cX6_tires 18 = .ok (.iconst (-1), 1) := by decide +kernel
theorem dX6_tires_19 : decode cX6_tires 19 = .ok (.istore_n 3, 1) := by decide +kernel
theorem dX6_tires_20 : decode cX6_tires 20 = .ok (.iload_n 3, 1) := by decide +kernel
theorem dX6_tires_21 : decode cX6_tires 21 = .ok (.ifCond .eq 9, 3) := by decide +kernel
theorem dX6_tires_24 : decode cX6_tires 24 = .ok (.aload_n 0, 1) := by decide +kernel
theorem dX6_tires_25 : decode cX6_tires 25 = .ok (.iload_n 3, 1) := by decide +kernel
theorem dX6_tires_26 : decode cX6_tires 26 = .ok (.invokevirtual 48, 3) := by decide +kernel
theorem dX6_tires_29 : decode cX6_tires 29 = .ok (.ireturn, 1) := by decide +kernel
theorem dX6_tires_30 : decode cX6_tires 30 = .ok (.aload_n 0, 1) := by decide +kernel
theorem dX6_tires_31 : decode cX6_tires 31 = .ok (.getfield 9, 3) := by decide +kernel
theorem dX6_tires_34 : decode cX6_tires 34 = .ok (.iload_n 1, 1) := by decide +kernel
theorem dX6_tires_35 : decode cX6_tires 35 = .ok (.iconst 2, 1) := by decide +kernel
theorem dX6_tires_36 : decode cX6_tires 36 = .ok (.invokestatic 56, 3) := by decide +kernel
theorem dX6_tires_39 : decode cX6_tires 39 = .ok (.iaload, 1) := by decide +kernel
theorem dX6_tires_40 : decode cX6_tires 40 = .ok (.istore 4, 2) := by decide +kernel
theorem dX6_tires_42 : decode cX6_tires 42 = .ok (.aload_n 0, 1) := by decide +kernel
theorem dX6_tires_43 : decode cX6_tires 43 = .ok (.getfield 9, 3) := by decide +kernel
theorem dX6_tires_46 : decode cX6_tires 46 = .ok (.iload_n 1, 1) := by decide +kernel
theorem dX6_tires_47 : decode cX6_tires 47 = .ok (.iconst 2, 1) := by decide +kernel
theorem dX6_tires_48 : decode cX6_tires 48 = .ok (.invokestatic 56, 3) := by decide +kernel
theorem dX6_tires_51 : decode cX6_tires 51 = .ok (.iload_n 2, 1) := by decide +kernel
theorem dX6_tires_52 : decode cX6_tires 52 = .ok (.iastore, 1) := by decide +kernel
theorem dX6_tires_53 : decode cX6_tires 53 = .ok (.iload 4, 2) := by decide +kernel
theorem dX6_tires_55 : decode cX6_tires 55 = .ok (.ireturn, 1) := by decide +kernel
theorem dX6_turn_0 : decode cX6_turn 0 = .ok (.aload_n 0, 1) := by decide +kernel
theorem dX6_turn_1 : decode cX6_turn 1 = .ok (.iload_n 1, 1) := by decide +kernel
theorem dX6_turn_2 : decode cX6_turn 2 = .ok (.invokevirtual 113, 3) := by decide +kernel
theorem dX6_turn_5 : decode cX6_turn 5 = .ok (.ifCond .ne 7, 3) := by decide +kernel
theorem dX6_turn_8 : decode cX6_turn 8 = .ok (.iconst (-1), 1) := by decide +kernel
theorem dX6_turn_9 : decode cX6_turn 9 = .ok (.goto 24, 3) := by decide +kernel
theorem dX6_turn_12 : decode cX6_turn 12 = .ok (.iload_n 2, 1) := by decide +kernel
theorem dX6_turn_13 : decode cX6_turn 13 = .ok (.iconst 0, 1) := by decide +kernel
theorem dX6_turn_14 : decode cX6_turn 14 = .ok (.iconst 5, 1) := by decide +kernel
theorem dX6_turn_15 : decode cX6_turn 15 = .ok (.invokestatic 52, 3) := by decide +kernel
theorem dX6_turn_18 : decode cX6_turn 18 = .ok (.ifCond .ne 8, 3) := by decide +kernel
theorem dX6_turn_21 : decode cX6_turn 21 = .ok (.bipush (-2), 2) := by decide +kernel
theorem dX6_turn_23 : decode cX6_turn 23 = .ok (.goto 10, 3) := by decide +kernel
theorem dX6_turn_26 : decode cX6_turn 26 = .ok (.iload_n 3, 1) := by decide +kernel
theorem dX6_turn_27 : decode cX6_turn 27 = .ok (.iconst 0, 1) := by decide +kernel
theorem dX6_turn_28 : decode cX6_turn 28 = .ok (.bipush 9, 2) := by decide +kernel
theorem dX6_turn_30 : decode cX6_turn 30 = .ok (.invokestatic 137, 3) := by decide +kernel
theorem dX6_turn_33 : decode cX6_turn 33 = .ok (.istore 4, 2) := by decide +kernel
theorem dX6_turn_35 : decode cX6_turn 35 = .ok (.iload 4, 2) := by decide +kernel
theorem dX6_turn_37 : decode cX6_turn 37 = .ok (.ifCond .eq 10, 3) := by decide +kernel
theorem dX6_turn_40 : decode cX6_turn 40 = .ok (.aload_n 0, 1) := by decide +kernel
theorem dX6_turn_41 : decode cX6_turn 41 = .ok (.iload 4, 2) := by decide +kernel
theorem dX6_turn_43 : decode cX6_turn 43 = .ok (.invokevirtual 48, 3) := by decide +kernel
theorem dX6_turn_46 : decode cX6_turn 46 = .ok (.ireturn, 1) := by decide +kernel
theorem dX6_turn_47 : decode cX6_turn 47 = .ok (.bipush 10, 2) := by decide +kernel
theorem dX6_turn_49 : decode cX6_turn 49 = .ok (.aload_n 0, 1) := by decide +kernel
theorem dX6_turn_50 : decode cX6_turn 50 = .ok (.getfield 9, 3) := by decide +kernel
theorem dX6_turn_53 : decode cX6_turn 53 = .ok (.iload_n 1, 1) := by decide +kernel
theorem dX6_turn_54 : decode cX6_turn 54 = .ok (.iconst 0, 1) := by decide +kernel
theorem dX6_turn_55 : decode cX6_turn 55 = .ok (.invokestatic 56, 3) := by decide +kernel
theorem dX6_turn_58 : decode cX6_turn 58 = .ok (.iaload, 1) := by decide +kernel
theorem dX6_turn_59 : decode cX6_turn 59 = .ok (.imul, 1) := by decide +kernel
theorem dX6_turn_60 : decode cX6_turn 60 = .ok (.aload_n 0, 1) := by decide +kernel
theorem dX6_turn_61 : decode cX6_turn 61 = .ok (.getfield 9, 3) := by decide +kernel
theorem dX6_turn_64 : decode cX6_turn 64 = .ok (.iload_n 1, 1) := by decide +kernel
theorem dX6_turn_65 : decode cX6_turn 65 = .ok (.iconst 1, 1) := by decide +kernel
theorem dX6_turn_66 : decode cX6_turn 66 = .ok (.invokestatic 56, 3) := by decide +kernel
theorem dX6_turn_69 : decode cX6_turn 69 = .ok (.iaload, 1) := by decide +kernel
theorem dX6_turn_70 : decode cX6_turn 70 = .ok (.iadd, 1) := by decide +kernel
theorem dX6_turn_71 : decode cX6_turn 71 = .ok (.istore 5, 2) := by decide +kernel
theorem dX6_turn_73 : decode cX6_turn 73 = .ok (.aload_n 0, 1) := by decide +kernel
theorem dX6_turn_74 : decode cX6_turn 74 = .ok (.getfield 9, 3) := by decide +kernel
theorem dX6_turn_77 : decode cX6_turn 77 = .ok (.iload_n 1, 1) := by decide +kernel
theorem dX6_turn_78 : decode cX6_turn 78 = .ok (.iconst 0, 1) := by decide +kernel
theorem dX6_turn_79 : decode cX6_turn 79 = .ok (.invokestatic 56, 3) := by decide +kernel
theorem dX6_turn_82 : decode cX6_turn 82 = .ok (.iload_n 2, 1) := by decide +kernel
theorem dX6_turn_83 : decode cX6_turn 83 = .ok (.iastore, 1) := by decide +kernel
theorem dX6_turn_84 : decode cX6_turn 84 = .ok (.aload_n 0, 1) := by decide +kernel
theorem dX6_turn_85 : decode cX6_turn 85 = .ok (.getfield 9, 3) := by decide +kernel
theorem dX6_turn_88 : decode cX6_turn 88 = .ok (.iload_n 1, 1) := by decide +kernel
theorem dX6_turn_89 : decode cX6_turn 89 = .ok (.iconst 1, 1) := by decide +kernel
theorem dX6_turn_90 : decode cX6_turn 90 = .ok (.invokestatic 56, 3) := by decide +kernel
theorem dX6_turn_93 : decode cX6_turn 93 = .ok (.iload_n 3, 1) := by decide +kernel
theorem dX6_turn_94 : decode cX6_turn 94 = .ok (.iastore, 1) := by decide +kernel
theorem dX6_turn_95 : decode cX6_turn 95 = .ok (.iload 5, 2) := by decide +kernel
theorem dX6_turn_97 : decode cX6_turn 97 = .ok (.ireturn, 1) := by decide +kernel
theorem dX6_years_0 : decode cX6_years 0 = .ok (.iload_n 1, 1) := by decide +kernel
theorem dX6_years_1 : decode cX6_years 1 = .ok (.iconst 1, 1) := by decide +kernel
theorem dX6_years_2 : decode cX6_years 2 = .ok (.if_icmp .ge 10, 3) := by decide +kernel
theorem dX6_years_5 : decode cX6_years 5 = .ok (.aload_n 0, 1) := by decide +kernel
theorem dX6_years_6 : decode cX6_years 6 = .ok (.bipush (-4), 2) := by decide +kernel
theorem dX6_years_8 : decode cX6_years 8 = .ok (.invokevirtual 48, 3) := by decide +kernel
theorem dX6_years_11 : decode cX6_years 11 = .ok (.ireturn, 1) := by decide +kernel
theorem dX6_years_12 : decode cX6_years 12 = .ok (.iload_n 1, 1) := by decide +kernel
theorem dX6_years_13 : decode cX6_years 13 = .ok (.bipush 60, 2) := by decide +kernel
theorem dX6_years_15 : decode cX6_years 15 = .ok (.if_icmp .gt 17, 3) := by decide +kernel
theorem dX6_years_18 : decode cX6_years 18 = .ok (.aload_n 0, 1) := by decide +kernel
theorem dX6_years_19 : decode cX6_years 19 = .ok (.getfield 9, 3) := by decide +kernel
theorem dX6_years_22 : decode cX6_years 22 = .ok (.iconst 4, 1) := by decide +kernel
theorem dX6_years_23 : decode cX6_years 23 = .ok (.iaload, 1) := by decide +kernel
theorem dX6_years_24 : decode cX6_years 24 = .ok (.iload_n 1, 1) := by decide +kernel
theorem dX6_years_25 : decode cX6_years 25 = .ok (.iadd, 1) := by decide +kernel
theorem dX6_years_26 : decode cX6_years 26 = .ok (.sipush 999, 3) := by decide +kernel
theorem dX6_years_29 : decode cX6_years 29 = .ok (.if_icmp .le 10, 3) := by decide +kernel
theorem dX6_years_32 : decode cX6_years 32 = .ok (.aload_n 0, 1) := by decide +kernel
theorem dX6_years_33 : decode cX6_years 33 = .ok (.bipush (-6), 2) := by decide +kernel
theorem dX6_years_35 : decode cX6_years 35 = .ok (.invokevirtual 48, 3) := by decide +kernel
theorem dX6_years_38 : decode cX6_years 38 = .ok (.ireturn, 1) := by decide +kernel
theorem dX6_years_39 : decode cX6_years 39 = .ok (.aload_n 0, 1) := by decide +kernel
theorem dX6_years_40 : decode cX6_years 40 = .ok (.aload_n 0, 1) := by decide +kernel
theorem dX6_years_41 : decode cX6_years 41 = .ok (.getfield 9, 3) := by decide +kernel
theorem dX6_years_44 : decode cX6_years 44 = .ok (.iload_n 1, 1) := by decide +kernel
theorem dX6_years_45 : decode cX6_years 45 = .ok (.invokevirtual 124, 3) := by decide +kernel
theorem dX6_years_48 : decode cX6_years 48 = .ok (.istore_n 2, 1) := by decide +kernel
theorem dX6_years_49 : decode cX6_years 49 = .ok (.aload_n 0, 1) := by decide +kernel
theorem dX6_years_50 : decode cX6_years 50 = .ok (.getfield 9, 3) := by decide +kernel
theorem dX6_years_53 : decode cX6_years 53 = .ok (.iconst 3, 1) := by decide +kernel
theorem dX6_years_54 : decode cX6_years 54 = .ok (.iaload, 1) := by decide +kernel
theorem dX6_years_55 : decode cX6_years 55 = .ok (.ireturn, 1) := by decide +kernel
theorem dX6_takes_0 : decode cX6_takes 0 = .ok (.aload_n 0, 1) := by decide +kernel
theorem dX6_takes_1 : decode cX6_takes 1 = .ok (.getfield 9, 3) := by decide +kernel
theorem dX6_takes_4 : decode cX6_takes 4 = .ok (.aload_n 0, 1) := by decide +kernel
theorem dX6_takes_5 : decode cX6_takes 5 = .ok (.getfield 13, 3) := by decide +kernel
theorem dX6_takes_8 : decode cX6_takes 8 = .ok (.invokestatic 130, 3) := by decide +kernel
theorem dX6_takes_11 : decode cX6_takes 11 = .ok (.aload_n 0, 1) := by decide +kernel
theorem dX6_takes_12 : decode cX6_takes 12 = .ok (.aload_n 0, 1) := by decide +kernel
theorem dX6_takes_13 : decode cX6_takes 13 = .ok (.getfield 13, 3) := by decide +kernel
theorem dX6_takes_16 : decode cX6_takes 16 = .ok (.iload_n 1, 1) := by decide +kernel
theorem dX6_takes_17 : decode cX6_takes 17 = .ok (.invokevirtual 124, 3) := by decide +kernel
theorem dX6_takes_20 : decode cX6_takes 20 = .ok (.ireturn, 1) := by decide +kernel
theorem dX6_heartThen_0 : decode cX6_heartThen 0 = .ok (.aload_n 0, 1) := by decide +kernel
theorem dX6_heartThen_1 : decode cX6_heartThen 1 = .ok (.iload_n 1, 1) := by decide +kernel
theorem dX6_heartThen_2 : decode cX6_heartThen 2 = .ok (.invokevirtual 117, 3) := by decide +kernel
theorem dX6_heartThen_5 : decode cX6_heartThen 5 = .ok (.ifCond .eq 22, 3) := by decide +kernel
theorem dX6_heartThen_8 : decode cX6_heartThen 8 = .ok (.iload_n 2, 1) := by decide +kernel
theorem dX6_heartThen_9 : decode cX6_heartThen 9 = .ok (.iconst 0, 1) := by decide +kernel
theorem dX6_heartThen_10 : decode cX6_heartThen 10 = .ok (.iconst 2, 1) := by decide +kernel
theorem dX6_heartThen_11 : decode cX6_heartThen 11 = .ok (.invokestatic 52, 3) := by decide +kernel
theorem dX6_heartThen_14 : decode cX6_heartThen 14 = .ok (.ifCond .eq 13, 3) := by decide +kernel
theorem dX6_heartThen_17 : decode cX6_heartThen 17 = .ok (.iload_n 3, 1) := by decide +kernel
theorem dX6_heartThen_18 : decode cX6_heartThen 18 = .ok (.iconst 0, 1) := by decide +kernel
theorem dX6_heartThen_19 : decode cX6_heartThen 19 = .ok (.bipush 60, 2) := by decide +kernel
theorem dX6_heartThen_21 : decode cX6_heartThen 21 = .ok (.invokestatic 137, 3) := by decide +kernel
theorem dX6_heartThen_24 : decode cX6_heartThen 24 = .ok (.goto 4, 3) := by decide +kernel
theorem dX6_heartThen_27 : decode cX6_heartThen 27 = .ok (.iconst (-1), 1) := by decide +kernel
theorem dX6_heartThen_28 : decode cX6_heartThen 28 = .ok (.istore 4, 2) := by decide +kernel
theorem dX6_heartThen_30 : decode cX6_heartThen 30 = .ok (.iload 4, 2) := by decide +kernel
theorem dX6_heartThen_32 : decode cX6_heartThen 32 = .ok (.ifCond .eq 10, 3) := by decide +kernel
theorem dX6_heartThen_35 : decode cX6_heartThen 35 = .ok (.aload_n 0, 1) := by decide +kernel
theorem dX6_heartThen_36 : decode cX6_heartThen 36 = .ok (.iload 4, 2) := by decide +kernel
theorem dX6_heartThen_38 : decode cX6_heartThen 38 = .ok (.invokevirtual 48, 3) := by decide +kernel
theorem dX6_heartThen_41 : decode cX6_heartThen 41 = .ok (.ireturn, 1) := by decide +kernel
theorem dX6_heartThen_42 : decode cX6_heartThen 42 = .ok (.aload_n 0, 1) := by decide +kernel
theorem dX6_heartThen_43 : decode cX6_heartThen 43 = .ok (.iload_n 3, 1) := by decide +kernel
theorem dX6_heartThen_44 : decode cX6_heartThen 44 = .ok (.invokevirtual 141, 3) := by decide +kernel
theorem dX6_heartThen_47 : decode cX6_heartThen 47 = .ok (.istore 5, 2) := by decide +kernel
theorem dX6_heartThen_49 : decode cX6_heartThen 49 = .ok (.aload_n 0, 1) := by decide +kernel
theorem dX6_heartThen_50 : decode cX6_heartThen 50 = .ok (.getfield 13, 3) := by decide +kernel
theorem dX6_heartThen_53 : decode cX6_heartThen 53 = .ok (.iload_n 1, 1) := by decide +kernel
theorem dX6_heartThen_54 : decode cX6_heartThen 54 = .ok (.iload_n 2, 1) := by decide +kernel
theorem dX6_heartThen_55 : decode cX6_heartThen 55 = .ok (.invokestatic 60, 3) := by decide +kernel
theorem dX6_heartThen_58 : decode cX6_heartThen 58 = .ok (.iaload, 1) := by decide +kernel
theorem dX6_heartThen_59 : decode cX6_heartThen 59 = .ok (.ireturn, 1) := by decide +kernel
theorem dX6_farmerThen_0 : decode cX6_farmerThen 0 = .ok (.aload_n 0, 1) := by decide +kernel
theorem dX6_farmerThen_1 : decode cX6_farmerThen 1 = .ok (.iload_n 1, 1) := by decide +kernel
theorem dX6_farmerThen_2 : decode cX6_farmerThen 2 = .ok (.invokevirtual 113, 3) := by decide +kernel
theorem dX6_farmerThen_5 : decode cX6_farmerThen 5 = .ok (.ifCond .eq 13, 3) := by decide +kernel
theorem dX6_farmerThen_8 : decode cX6_farmerThen 8 = .ok (.iload_n 2, 1) := by decide +kernel
theorem dX6_farmerThen_9 : decode cX6_farmerThen 9 = .ok (.iconst 0, 1) := by decide +kernel
theorem dX6_farmerThen_10 : decode cX6_farmerThen 10 = .ok (.bipush 60, 2) := by decide +kernel
theorem dX6_farmerThen_12 : decode cX6_farmerThen 12 = .ok (.invokestatic 137, 3) := by decide +kernel
theorem dX6_farmerThen_15 : decode cX6_farmerThen 15 = .ok (.goto 4, 3) := by decide +kernel
theorem dX6_farmerThen_18 : decode cX6_farmerThen 18 = .ok (.iconst (-1), 1) := by decide +kernel
theorem dX6_farmerThen_19 : decode cX6_farmerThen 19 = .ok (.istore 4, 2) := by decide +kernel
theorem dX6_farmerThen_21 : decode cX6_farmerThen 21 = .ok (.iload 4, 2) := by decide +kernel
theorem dX6_farmerThen_23 : decode cX6_farmerThen 23 = .ok (.ifCond .ne 16, 3) := by decide +kernel
theorem dX6_farmerThen_26 : decode cX6_farmerThen 26 = .ok (.iload_n 3, 1) := by decide +kernel
theorem dX6_farmerThen_27 : decode cX6_farmerThen 27 = .ok (.iconst 0, 1) := by decide +kernel
theorem dX6_farmerThen_28 : decode cX6_farmerThen 28 = .ok (.iconst 1, 1) := by decide +kernel
theorem dX6_farmerThen_29 : decode cX6_farmerThen 29 = .ok (.invokestatic 52, 3) := by decide +kernel
theorem dX6_farmerThen_32 : decode cX6_farmerThen 32 = .ok (.ifCond .ne 7, 3) := by decide +kernel
theorem dX6_farmerThen_35 : decode cX6_farmerThen 35 = .ok (.bipush (-2), 2) := by decide +kernel
theorem dX6_farmerThen_37 : decode cX6_farmerThen 37 = .ok (.istore 4, 2) := by decide +kernel
theorem dX6_farmerThen_39 : decode cX6_farmerThen 39 = .ok (.iload 4, 2) := by decide +kernel
theorem dX6_farmerThen_41 : decode cX6_farmerThen 41 = .ok (.ifCond .eq 10, 3) := by decide +kernel
theorem dX6_farmerThen_44 : decode cX6_farmerThen 44 = .ok (.aload_n 0, 1) := by decide +kernel
theorem dX6_farmerThen_45 : decode cX6_farmerThen 45 = .ok (.iload 4, 2) := by decide +kernel
theorem dX6_farmerThen_47 : decode cX6_farmerThen 47 = .ok (.invokevirtual 48, 3) := by decide +kernel
theorem dX6_farmerThen_50 : decode cX6_farmerThen 50 = .ok (.ireturn, 1) := by decide +kernel
theorem dX6_farmerThen_51 : decode cX6_farmerThen 51 = .ok (.aload_n 0, 1) := by decide +kernel
theorem dX6_farmerThen_52 : decode cX6_farmerThen 52 = .ok (.iload_n 2, 1) := by decide +kernel
theorem dX6_farmerThen_53 : decode cX6_farmerThen 53 = .ok (.invokevirtual 141, 3) := by decide +kernel
theorem dX6_farmerThen_56 : decode cX6_farmerThen 56 = .ok (.istore 5, 2) := by decide +kernel
theorem dX6_farmerThen_58 : decode cX6_farmerThen 58 = .ok (.aload_n 0, 1) := by decide +kernel
theorem dX6_farmerThen_59 : decode cX6_farmerThen 59 = .ok (.getfield 13, 3) := by decide +kernel
theorem dX6_farmerThen_62 : decode cX6_farmerThen 62 = .ok (.iload_n 1, 1) := by decide +kernel
theorem dX6_farmerThen_63 : decode cX6_farmerThen 63 = .ok (.iconst 2, 1) := by decide +kernel
theorem dX6_farmerThen_64 : decode cX6_farmerThen 64 = .ok (.iload_n 3, 1) := by decide +kernel
theorem dX6_farmerThen_65 : decode cX6_farmerThen 65 = .ok (.iadd, 1) := by decide +kernel
theorem dX6_farmerThen_66 : decode cX6_farmerThen 66 = .ok (.invokestatic 56, 3) := by decide +kernel
theorem dX6_farmerThen_69 : decode cX6_farmerThen 69 = .ok (.iaload, 1) := by decide +kernel
theorem dX6_farmerThen_70 : decode cX6_farmerThen 70 = .ok (.ireturn, 1) := by decide +kernel
theorem dX6_barnThen_0 : decode cX6_barnThen 0 = .ok (.iload_n 1, 1) := by decide +kernel
theorem dX6_barnThen_1 : decode cX6_barnThen 1 = .ok (.iconst 0, 1) := by decide +kernel
theorem dX6_barnThen_2 : decode cX6_barnThen 2 = .ok (.bipush 60, 2) := by decide +kernel
theorem dX6_barnThen_4 : decode cX6_barnThen 4 = .ok (.invokestatic 137, 3) := by decide +kernel
theorem dX6_barnThen_7 : decode cX6_barnThen 7 = .ok (.istore_n 2, 1) := by decide +kernel
theorem dX6_barnThen_8 : decode cX6_barnThen 8 = .ok (.iload_n 2, 1) := by decide +kernel
theorem dX6_barnThen_9 : decode cX6_barnThen 9 = .ok (.ifCond .eq 9, 3) := by decide +kernel
theorem dX6_barnThen_12 : decode cX6_barnThen 12 = .ok (.aload_n 0, 1) := by decide +kernel
theorem dX6_barnThen_13 : decode cX6_barnThen 13 = .ok (.iload_n 2, 1) := by decide +kernel
theorem dX6_barnThen_14 : decode cX6_barnThen 14 = .ok (.invokevirtual 48, 3) := by decide +kernel
theorem dX6_barnThen_17 : decode cX6_barnThen 17 = .ok (.ireturn, 1) := by decide +kernel
theorem dX6_barnThen_18 : decode cX6_barnThen 18 = .ok (.aload_n 0, 1) := by decide +kernel
theorem dX6_barnThen_19 : decode cX6_barnThen 19 = .ok (.iload_n 1, 1) := by decide +kernel
theorem dX6_barnThen_20 : decode cX6_barnThen 20 = .ok (.invokevirtual 141, 3) := by decide +kernel
theorem dX6_barnThen_23 : decode cX6_barnThen 23 = .ok (.istore_n 3, 1) := by decide +kernel
theorem dX6_barnThen_24 : decode cX6_barnThen 24 = .ok (.aload_n 0, 1) := by decide +kernel
theorem dX6_barnThen_25 : decode cX6_barnThen 25 = .ok (.getfield 13, 3) := by decide +kernel
theorem dX6_barnThen_28 : decode cX6_barnThen 28 = .ok (.iconst 3, 1) := by decide +kernel
theorem dX6_barnThen_29 : decode cX6_barnThen 29 = .ok (.iaload, 1) := by decide +kernel
theorem dX6_barnThen_30 : decode cX6_barnThen 30 = .ok (.ireturn, 1) := by decide +kernel
theorem dX6_greenest_0 : decode cX6_greenest 0 = .ok (.bipush (-9), 2) := by decide +kernel
theorem dX6_greenest_2 : decode cX6_greenest 2 = .ok (.istore_n 1, 1) := by decide +kernel
theorem dX6_greenest_3 : decode cX6_greenest 3 = .ok (.iconst 0, 1) := by decide +kernel
theorem dX6_greenest_4 : decode cX6_greenest 4 = .ok (.istore_n 2, 1) := by decide +kernel
theorem dX6_greenest_5 : decode cX6_greenest 5 = .ok (.iload_n 2, 1) := by decide +kernel
theorem dX6_greenest_6 : decode cX6_greenest 6 = .ok (.aload_n 0, 1) := by decide +kernel
theorem dX6_greenest_7 : decode cX6_greenest 7 = .ok (.getfield 9, 3) := by decide +kernel
theorem dX6_greenest_10 : decode cX6_greenest 10 = .ok (.iconst 0, 1) := by decide +kernel
theorem dX6_greenest_11 : decode cX6_greenest 11 = .ok (.iaload, 1) := by decide +kernel
theorem dX6_greenest_12 : decode cX6_greenest 12 = .ok (.if_icmp .ge 34, 3) := by decide +kernel
theorem dX6_greenest_15 : decode cX6_greenest 15 = .ok (.iload_n 1, 1) := by decide +kernel
theorem dX6_greenest_16 : decode cX6_greenest 16 = .ok (.ifCond .lt 22, 3) := by decide +kernel
theorem dX6_greenest_19 : decode cX6_greenest 19 = .ok (.aload_n 0, 1) := by decide +kernel
theorem dX6_greenest_20 : decode cX6_greenest 20 = .ok (.getfield 9, 3) := by decide +kernel
theorem dX6_greenest_23 : decode cX6_greenest 23 = .ok (.iload_n 2, 1) := by decide +kernel
theorem dX6_greenest_24 : decode cX6_greenest 24 = .ok (.invokestatic 88, 3) := by decide +kernel
theorem dX6_greenest_27 : decode cX6_greenest 27 = .ok (.aload_n 0, 1) := by decide +kernel
theorem dX6_greenest_28 : decode cX6_greenest 28 = .ok (.getfield 9, 3) := by decide +kernel
theorem dX6_greenest_31 : decode cX6_greenest 31 = .ok (.iload_n 1, 1) := by decide +kernel
theorem dX6_greenest_32 : decode cX6_greenest 32 = .ok (.invokestatic 88, 3) := by decide +kernel
theorem dX6_greenest_35 : decode cX6_greenest 35 = .ok (.if_icmp .le 5, 3) := by decide +kernel
theorem dX6_greenest_38 : decode cX6_greenest 38 = .ok (.iload_n 2, 1) := by decide +kernel
theorem dX6_greenest_39 : decode cX6_greenest 39 = .ok (.istore_n 1, 1) := by decide +kernel
theorem dX6_greenest_40 : decode cX6_greenest 40 = .ok (.iinc 2 1, 3) := by decide +kernel
theorem dX6_greenest_43 : decode cX6_greenest 43 = .ok (.goto (-38), 3) := by decide +kernel
theorem dX6_greenest_46 : decode cX6_greenest 46 = .ok (.iload_n 1, 1) := by decide +kernel
theorem dX6_greenest_47 : decode cX6_greenest 47 = .ok (.ireturn, 1) := by decide +kernel
theorem dX6_lostIn_0 : decode cX6_lostIn 0 = .ok (.iconst 0, 1) := by decide +kernel
theorem dX6_lostIn_1 : decode cX6_lostIn 1 = .ok (.istore_n 1, 1) := by decide +kernel
theorem dX6_lostIn_2 : decode cX6_lostIn 2 = .ok (.iload_n 1, 1) := by decide +kernel
theorem dX6_lostIn_3 : decode cX6_lostIn 3 = .ok (.aload_n 0, 1) := by decide +kernel
theorem dX6_lostIn_4 : decode cX6_lostIn 4 = .ok (.iconst 0, 1) := by decide +kernel
theorem dX6_lostIn_5 : decode cX6_lostIn 5 = .ok (.iaload, 1) := by decide +kernel
theorem dX6_lostIn_6 : decode cX6_lostIn 6 = .ok (.if_icmp .ge 34, 3) := by decide +kernel
theorem dX6_lostIn_9 : decode cX6_lostIn 9 = .ok (.iconst 0, 1) := by decide +kernel
theorem dX6_lostIn_10 : decode cX6_lostIn 10 = .ok (.istore_n 2, 1) := by decide +kernel
theorem dX6_lostIn_11 : decode cX6_lostIn 11 = .ok (.iload_n 2, 1) := by decide +kernel
theorem dX6_lostIn_12 : decode cX6_lostIn 12 = .ok (.iconst 3, 1) := by decide +kernel
theorem dX6_lostIn_13 : decode cX6_lostIn 13 = .ok (.if_icmp .ge 21, 3) := by decide +kernel
theorem dX6_lostIn_16 : decode cX6_lostIn 16 = .ok (.aload_n 0, 1) := by decide +kernel
theorem dX6_lostIn_17 : decode cX6_lostIn 17 = .ok (.iload_n 1, 1) := by decide +kernel
theorem dX6_lostIn_18 : decode cX6_lostIn 18 = .ok (.iload_n 2, 1) := by decide +kernel
theorem dX6_lostIn_19 : decode cX6_lostIn 19 = .ok (.invokestatic 60, 3) := by decide +kernel
theorem dX6_lostIn_22 : decode cX6_lostIn 22 = .ok (.iaload, 1) := by decide +kernel
theorem dX6_lostIn_23 : decode cX6_lostIn 23 = .ok (.ifCond .ne 5, 3) := by decide +kernel
theorem dX6_lostIn_26 : decode cX6_lostIn 26 = .ok (.iload_n 1, 1) := by decide +kernel
theorem dX6_lostIn_27 : decode cX6_lostIn 27 = .ok (.ireturn, 1) := by decide +kernel
theorem dX6_lostIn_28 : decode cX6_lostIn 28 = .ok (.iinc 2 1, 3) := by decide +kernel
theorem dX6_lostIn_31 : decode cX6_lostIn 31 = .ok (.goto (-20), 3) := by decide +kernel
theorem dX6_lostIn_34 : decode cX6_lostIn 34 = .ok (.iinc 1 1, 3) := by decide +kernel
theorem dX6_lostIn_37 : decode cX6_lostIn 37 = .ok (.goto (-35), 3) := by decide +kernel
theorem dX6_lostIn_40 : decode cX6_lostIn 40 = .ok (.bipush (-9), 2) := by decide +kernel
theorem dX6_lostIn_42 : decode cX6_lostIn 42 = .ok (.ireturn, 1) := by decide +kernel
theorem dX6_lost_0 : decode cX6_lost 0 = .ok (.iload_n 1, 1) := by decide +kernel
theorem dX6_lost_1 : decode cX6_lost 1 = .ok (.iconst 0, 1) := by decide +kernel
theorem dX6_lost_2 : decode cX6_lost 2 = .ok (.iconst 1, 1) := by decide +kernel
theorem dX6_lost_3 : decode cX6_lost 3 = .ok (.invokestatic 52, 3) := by decide +kernel
theorem dX6_lost_6 : decode cX6_lost 6 = .ok (.ifCond .ne 10, 3) := by decide +kernel
theorem dX6_lost_9 : decode cX6_lost 9 = .ok (.aload_n 0, 1) := by decide +kernel
theorem dX6_lost_10 : decode cX6_lost 10 = .ok (.bipush (-2), 2) := by decide +kernel
theorem dX6_lost_12 : decode cX6_lost 12 = .ok (.invokevirtual 48, 3) := by decide +kernel
theorem dX6_lost_15 : decode cX6_lost 15 = .ok (.ireturn, 1) := by decide +kernel
theorem dX6_lost_16 : decode cX6_lost 16 = .ok (.aload_n 0, 1) := by decide +kernel
theorem dX6_lost_17 : decode cX6_lost 17 = .ok (.getfield 9, 3) := by decide +kernel
theorem dX6_lost_20 : decode cX6_lost 20 = .ok (.aload_n 0, 1) := by decide +kernel
theorem dX6_lost_21 : decode cX6_lost 21 = .ok (.getfield 13, 3) := by decide +kernel
theorem dX6_lost_24 : decode cX6_lost 24 = .ok (.invokestatic 130, 3) := by decide +kernel
theorem dX6_lost_27 : decode cX6_lost 27 = .ok (.iconst 0, 1) := by decide +kernel
theorem dX6_lost_28 : decode cX6_lost 28 = .ok (.istore_n 2, 1) := by decide +kernel
theorem dX6_lost_29 : decode cX6_lost 29 = .ok (.iload_n 2, 1) := by decide +kernel
theorem dX6_lost_30 : decode cX6_lost 30 = .ok (.bipush 60, 2) := by decide +kernel
theorem dX6_lost_32 : decode cX6_lost 32 = .ok (.if_icmp .gt 45, 3) := by decide +kernel
theorem dX6_lost_35 : decode cX6_lost 35 = .ok (.aload_n 0, 1) := by decide +kernel
theorem dX6_lost_36 : decode cX6_lost 36 = .ok (.getfield 13, 3) := by decide +kernel
theorem dX6_lost_39 : decode cX6_lost 39 = .ok (.invokestatic 144, 3) := by decide +kernel
theorem dX6_lost_42 : decode cX6_lost 42 = .ok (.ifCond .lt 19, 3) := by decide +kernel
theorem dX6_lost_45 : decode cX6_lost 45 = .ok (.iload_n 1, 1) := by decide +kernel
theorem dX6_lost_46 : decode cX6_lost 46 = .ok (.ifCond .ne 13, 3) := by decide +kernel
theorem dX6_lost_49 : decode cX6_lost 49 = .ok (.aload_n 0, 1) := by decide +kernel
theorem dX6_lost_50 : decode cX6_lost 50 = .ok (.getfield 13, 3) := by decide +kernel
theorem dX6_lost_53 : decode cX6_lost 53 = .ok (.invokestatic 144, 3) := by decide +kernel
theorem dX6_lost_56 : decode cX6_lost 56 = .ok (.goto 4, 3) := by decide +kernel
theorem dX6_lost_59 : decode cX6_lost 59 = .ok (.iload_n 2, 1) := by decide +kernel
theorem dX6_lost_60 : decode cX6_lost 60 = .ok (.ireturn, 1) := by decide +kernel
theorem dX6_lost_61 : decode cX6_lost 61 = .ok (.aload_n 0, 1) := by decide +kernel
theorem dX6_lost_62 : decode cX6_lost 62 = .ok (.aload_n 0, 1) := by decide +kernel
theorem dX6_lost_63 : decode cX6_lost 63 = .ok (.getfield 13, 3) := by decide +kernel
theorem dX6_lost_66 : decode cX6_lost 66 = .ok (.iconst 0, 1) := by decide +kernel
theorem dX6_lost_67 : decode cX6_lost 67 = .ok (.invokevirtual 84, 3) := by decide +kernel
theorem dX6_lost_70 : decode cX6_lost 70 = .ok (.istore_n 3, 1) := by decide +kernel
theorem dX6_lost_71 : decode cX6_lost 71 = .ok (.iinc 2 1, 3) := by decide +kernel
theorem dX6_lost_74 : decode cX6_lost 74 = .ok (.goto (-45), 3) := by decide +kernel
theorem dX6_lost_77 : decode cX6_lost 77 = .ok (.bipush (-9), 2) := by decide +kernel
theorem dX6_lost_79 : decode cX6_lost 79 = .ok (.ireturn, 1) := by decide +kernel
theorem dX6_inHeart_0 : decode cX6_inHeart 0 = .ok (.aload_n 0, 1) := by decide +kernel
theorem dX6_inHeart_1 : decode cX6_inHeart 1 = .ok (.getfield 9, 3) := by decide +kernel
theorem dX6_inHeart_4 : decode cX6_inHeart 4 = .ok (.aload_n 0, 1) := by decide +kernel
theorem dX6_inHeart_5 : decode cX6_inHeart 5 = .ok (.getfield 13, 3) := by decide +kernel
theorem dX6_inHeart_8 : decode cX6_inHeart 8 = .ok (.invokestatic 130, 3) := by decide +kernel
theorem dX6_inHeart_11 : decode cX6_inHeart 11 = .ok (.iconst 0, 1) := by decide +kernel
theorem dX6_inHeart_12 : decode cX6_inHeart 12 = .ok (.istore_n 1, 1) := by decide +kernel
theorem dX6_inHeart_13 : decode cX6_inHeart 13 = .ok (.iload_n 1, 1) := by decide +kernel
theorem dX6_inHeart_14 : decode cX6_inHeart 14 = .ok (.bipush 60, 2) := by decide +kernel
theorem dX6_inHeart_16 : decode cX6_inHeart 16 = .ok (.if_icmp .gt 31, 3) := by decide +kernel
theorem dX6_inHeart_19 : decode cX6_inHeart 19 = .ok (.aload_n 0, 1) := by decide +kernel
theorem dX6_inHeart_20 : decode cX6_inHeart 20 = .ok (.getfield 13, 3) := by decide +kernel
theorem dX6_inHeart_23 : decode cX6_inHeart 23 = .ok (.invokestatic 144, 3) := by decide +kernel
theorem dX6_inHeart_26 : decode cX6_inHeart 26 = .ok (.ifCond .lt 5, 3) := by decide +kernel
theorem dX6_inHeart_29 : decode cX6_inHeart 29 = .ok (.iload_n 1, 1) := by decide +kernel
theorem dX6_inHeart_30 : decode cX6_inHeart 30 = .ok (.ireturn, 1) := by decide +kernel
theorem dX6_inHeart_31 : decode cX6_inHeart 31 = .ok (.aload_n 0, 1) := by decide +kernel
theorem dX6_inHeart_32 : decode cX6_inHeart 32 = .ok (.aload_n 0, 1) := by decide +kernel
theorem dX6_inHeart_33 : decode cX6_inHeart 33 = .ok (.getfield 13, 3) := by decide +kernel
theorem dX6_inHeart_36 : decode cX6_inHeart 36 = .ok (.iconst 0, 1) := by decide +kernel
theorem dX6_inHeart_37 : decode cX6_inHeart 37 = .ok (.invokevirtual 84, 3) := by decide +kernel
theorem dX6_inHeart_40 : decode cX6_inHeart 40 = .ok (.istore_n 2, 1) := by decide +kernel
theorem dX6_inHeart_41 : decode cX6_inHeart 41 = .ok (.iinc 1 1, 3) := by decide +kernel
theorem dX6_inHeart_44 : decode cX6_inHeart 44 = .ok (.goto (-31), 3) := by decide +kernel
theorem dX6_inHeart_47 : decode cX6_inHeart 47 = .ok (.bipush 61, 2) := by decide +kernel
theorem dX6_inHeart_49 : decode cX6_inHeart 49 = .ok (.ireturn, 1) := by decide +kernel
theorem dX6_crop_0 : decode cX6_crop 0 = .ok (.iload_n 1, 1) := by decide +kernel
theorem dX6_crop_1 : decode cX6_crop 1 = .ok (.iconst (-1), 1) := by decide +kernel
theorem dX6_crop_2 : decode cX6_crop 2 = .ok (.if_icmp .eq 11, 3) := by decide +kernel
theorem dX6_crop_5 : decode cX6_crop 5 = .ok (.aload_n 0, 1) := by decide +kernel
theorem dX6_crop_6 : decode cX6_crop 6 = .ok (.iload_n 1, 1) := by decide +kernel
theorem dX6_crop_7 : decode cX6_crop 7 = .ok (.invokevirtual 117, 3) := by decide +kernel
theorem dX6_crop_10 : decode cX6_crop 10 = .ok (.ifCond .eq 13, 3) := by decide +kernel
theorem dX6_crop_13 : decode cX6_crop 13 = .ok (.iload_n 2, 1) := by decide +kernel
theorem dX6_crop_14 : decode cX6_crop 14 = .ok (.iconst 1, 1) := by decide +kernel
theorem dX6_crop_15 : decode cX6_crop 15 = .ok (.bipush 60, 2) := by decide +kernel
theorem dX6_crop_17 : decode cX6_crop 17 = .ok (.invokestatic 137, 3) := by decide +kernel
theorem dX6_crop_20 : decode cX6_crop 20 = .ok (.goto 4, 3) := by decide +kernel
theorem dX6_crop_23 : decode cX6_crop 23 = .ok (.iconst (-1), 1) := by decide +kernel
theorem dX6_crop_24 : decode cX6_crop 24 = .ok (.istore_n 3, 1) := by decide +kernel
theorem dX6_crop_25 : decode cX6_crop 25 = .ok (.iload_n 3, 1) := by decide +kernel
theorem dX6_crop_26 : decode cX6_crop 26 = .ok (.ifCond .eq 9, 3) := by decide +kernel
theorem dX6_crop_29 : decode cX6_crop 29 = .ok (.aload_n 0, 1) := by decide +kernel
theorem dX6_crop_30 : decode cX6_crop 30 = .ok (.iload_n 3, 1) := by decide +kernel
theorem dX6_crop_31 : decode cX6_crop 31 = .ok (.invokevirtual 48, 3) := by decide +kernel
theorem dX6_crop_34 : decode cX6_crop 34 = .ok (.ireturn, 1) := by decide +kernel
theorem dX6_crop_35 : decode cX6_crop 35 = .ok (.aload_n 0, 1) := by decide +kernel
theorem dX6_crop_36 : decode cX6_crop 36 = .ok (.iload_n 2, 1) := by decide +kernel
theorem dX6_crop_37 : decode cX6_crop 37 = .ok (.invokevirtual 141, 3) := by decide +kernel
theorem dX6_crop_40 : decode cX6_crop 40 = .ok (.istore 4, 2) := by decide +kernel
theorem dX6_crop_42 : decode cX6_crop 42 = .ok (.iload_n 1, 1) := by decide +kernel
theorem dX6_crop_43 : decode cX6_crop 43 = .ok (.ifCond .ge 8, 3) := by decide +kernel
theorem dX6_crop_46 : decode cX6_crop 46 = .ok (.iload 4, 2) := by decide +kernel
theorem dX6_crop_48 : decode cX6_crop 48 = .ok (.goto 9, 3) := by decide +kernel
theorem dX6_crop_51 : decode cX6_crop 51 = .ok (.aload_n 0, 1) := by decide +kernel
theorem dX6_crop_52 : decode cX6_crop 52 = .ok (.getfield 22, 3) := by decide +kernel
theorem dX6_crop_55 : decode cX6_crop 55 = .ok (.iload_n 1, 1) := by decide +kernel
theorem dX6_crop_56 : decode cX6_crop 56 = .ok (.iaload, 1) := by decide +kernel
theorem dX6_crop_57 : decode cX6_crop 57 = .ok (.ireturn, 1) := by decide +kernel
theorem dX6_bestStep_0 : decode cX6_bestStep 0 = .ok (.iload_n 1, 1) := by decide +kernel
theorem dX6_bestStep_1 : decode cX6_bestStep 1 = .ok (.iconst 1, 1) := by decide +kernel
theorem dX6_bestStep_2 : decode cX6_bestStep 2 = .ok (.bipush 30, 2) := by decide +kernel
theorem dX6_bestStep_4 : decode cX6_bestStep 4 = .ok (.invokestatic 137, 3) := by decide +kernel
theorem dX6_bestStep_7 : decode cX6_bestStep 7 = .ok (.istore_n 3, 1) := by decide +kernel
theorem dX6_bestStep_8 : decode cX6_bestStep 8 = .ok (.iload_n 3, 1) := by decide +kernel
theorem dX6_bestStep_9 : decode cX6_bestStep 9 = .ok (.ifCond .ne 15, 3) := by decide +kernel
theorem dX6_bestStep_12 : decode cX6_bestStep 12 = .ok (.iload_n 2, 1) := by decide +kernel
theorem dX6_bestStep_13 : decode cX6_bestStep 13 = .ok (.iconst 0, 1) := by decide +kernel
theorem dX6_bestStep_14 : decode cX6_bestStep 14 = .ok (.iconst 1, 1) := by decide +kernel
theorem dX6_bestStep_15 : decode cX6_bestStep 15 = .ok (.invokestatic 52, 3) := by decide +kernel
theorem dX6_bestStep_18 : decode cX6_bestStep 18 = .ok (.ifCond .ne 6, 3) := by decide +kernel
theorem dX6_bestStep_21 : decode cX6_bestStep 21 = .ok (.bipush (-2), 2) := by decide +kernel
theorem dX6_bestStep_23 : decode cX6_bestStep 23 = .ok (.istore_n 3, 1) := by decide +kernel
theorem dX6_bestStep_24 : decode cX6_bestStep 24 = .ok (.iload_n 3, 1) := by decide +kernel
theorem dX6_bestStep_25 : decode cX6_bestStep 25 = .ok (.ifCond .eq 9, 3) := by decide +kernel
theorem dX6_bestStep_28 : decode cX6_bestStep 28 = .ok (.aload_n 0, 1) := by decide +kernel
theorem dX6_bestStep_29 : decode cX6_bestStep 29 = .ok (.iload_n 3, 1) := by decide +kernel
theorem dX6_bestStep_30 : decode cX6_bestStep 30 = .ok (.invokevirtual 48, 3) := by decide +kernel
theorem dX6_bestStep_33 : decode cX6_bestStep 33 = .ok (.ireturn, 1) := by decide +kernel
theorem dX6_bestStep_34 : decode cX6_bestStep 34 = .ok (.iconst 0, 1) := by decide +kernel
theorem dX6_bestStep_35 : decode cX6_bestStep 35 = .ok (.istore 4, 2) := by decide +kernel
theorem dX6_bestStep_37 : decode cX6_bestStep 37 = .ok (.iconst (-1), 1) := by decide +kernel
theorem dX6_bestStep_38 : decode cX6_bestStep 38 = .ok (.istore 5, 2) := by decide +kernel
theorem dX6_bestStep_40 : decode cX6_bestStep 40 = .ok (.iconst 0, 1) := by decide +kernel
theorem dX6_bestStep_41 : decode cX6_bestStep 41 = .ok (.istore 6, 2) := by decide +kernel
theorem dX6_bestStep_43 : decode cX6_bestStep 43 = .ok (.iload 6, 2) := by decide +kernel
theorem dX6_bestStep_45 : decode cX6_bestStep 45 = .ok (.bipush 6, 2) := by decide +kernel
theorem dX6_bestStep_47 : decode cX6_bestStep 47 = .ok (.if_icmp .ge 57, 3) := by decide +kernel
theorem dX6_bestStep_50 : decode cX6_bestStep 50 = .ok (.aload_n 0, 1) := by decide +kernel
theorem dX6_bestStep_51 : decode cX6_bestStep 51 = .ok (.getfield 9, 3) := by decide +kernel
theorem dX6_bestStep_54 : decode cX6_bestStep 54 = .ok (.aload_n 0, 1) := by decide +kernel
theorem dX6_bestStep_55 : decode cX6_bestStep 55 = .ok (.getfield 13, 3) := by decide +kernel
theorem dX6_bestStep_58 : decode cX6_bestStep 58 = .ok (.invokestatic 130, 3) := by decide +kernel
theorem dX6_bestStep_61 : decode cX6_bestStep 61 = .ok (.aload_n 0, 1) := by decide +kernel
theorem dX6_bestStep_62 : decode cX6_bestStep 62 = .ok (.getfield 13, 3) := by decide +kernel
theorem dX6_bestStep_65 : decode cX6_bestStep 65 = .ok (.iconst 2, 1) := by decide +kernel
theorem dX6_bestStep_66 : decode cX6_bestStep 66 = .ok (.iload 6, 2) := by decide +kernel
theorem dX6_bestStep_68 : decode cX6_bestStep 68 = .ok (.iastore, 1) := by decide +kernel
theorem dX6_bestStep_69 : decode cX6_bestStep 69 = .ok (.aload_n 0, 1) := by decide +kernel
theorem dX6_bestStep_70 : decode cX6_bestStep 70 = .ok (.aload_n 0, 1) := by decide +kernel
theorem dX6_bestStep_71 : decode cX6_bestStep 71 = .ok (.getfield 13, 3) := by decide +kernel
theorem dX6_bestStep_74 : decode cX6_bestStep 74 = .ok (.iload_n 1, 1) := by decide +kernel
theorem dX6_bestStep_75 : decode cX6_bestStep 75 = .ok (.invokevirtual 124, 3) := by decide +kernel
theorem dX6_bestStep_78 : decode cX6_bestStep 78 = .ok (.istore 7, 2) := by decide +kernel
theorem dX6_bestStep_80 : decode cX6_bestStep 80 = .ok (.iload 7, 2) := by decide +kernel
theorem dX6_bestStep_82 : decode cX6_bestStep 82 = .ok (.iload 5, 2) := by decide +kernel
theorem dX6_bestStep_84 : decode cX6_bestStep 84 = .ok (.if_icmp .gt 6, 3) := by decide +kernel
theorem dX6_bestStep_87 : decode cX6_bestStep 87 = .ok (.goto 11, 3) := by decide +kernel
theorem dX6_bestStep_90 : decode cX6_bestStep 90 = .ok (.iload 6, 2) := by decide +kernel
theorem dX6_bestStep_92 : decode cX6_bestStep 92 = .ok (.istore 4, 2) := by decide +kernel
theorem dX6_bestStep_94 : decode cX6_bestStep 94 = .ok (.iload 7, 2) := by decide +kernel
theorem dX6_bestStep_96 : decode cX6_bestStep 96 = .ok (.istore 5, 2) := by decide +kernel
theorem dX6_bestStep_98 : decode cX6_bestStep 98 = .ok (.iinc 6 1, 3) := by decide +kernel
theorem dX6_bestStep_101 : decode cX6_bestStep 101 = .ok (.goto (-58), 3) := by decide +kernel
theorem dX6_bestStep_104 : decode cX6_bestStep 104 = .ok (.iload_n 2, 1) := by decide +kernel
theorem dX6_bestStep_105 : decode cX6_bestStep 105 = .ok (.ifCond .ne 8, 3) := by decide +kernel
theorem dX6_bestStep_108 : decode cX6_bestStep 108 = .ok (.iload 4, 2) := by decide +kernel
theorem dX6_bestStep_110 : decode cX6_bestStep 110 = .ok (.goto 5, 3) := by decide +kernel
theorem dX6_bestStep_113 : decode cX6_bestStep 113 = .ok (.iload 5, 2) := by decide +kernel
theorem dX6_bestStep_115 : decode cX6_bestStep 115 = .ok (.ireturn, 1) := by decide +kernel
theorem dX6_send_0 : decode cX6_send 0 = .ok (.iload_n 1, 1) := by decide +kernel
theorem dX6_send_1 : decode cX6_send 1 = .ok (.iconst 1, 1) := by decide +kernel
theorem dX6_send_2 : decode cX6_send 2 = .ok (.bipush 30, 2) := by decide +kernel
theorem dX6_send_4 : decode cX6_send 4 = .ok (.invokestatic 137, 3) := by decide +kernel
theorem dX6_send_7 : decode cX6_send 7 = .ok (.istore_n 2, 1) := by decide +kernel
theorem dX6_send_8 : decode cX6_send 8 = .ok (.iload_n 2, 1) := by decide +kernel
theorem dX6_send_9 : decode cX6_send 9 = .ok (.ifCond .eq 9, 3) := by decide +kernel
theorem dX6_send_12 : decode cX6_send 12 = .ok (.aload_n 0, 1) := by decide +kernel
theorem dX6_send_13 : decode cX6_send 13 = .ok (.iload_n 2, 1) := by decide +kernel
theorem dX6_send_14 : decode cX6_send 14 = .ok (.invokevirtual 48, 3) := by decide +kernel
theorem dX6_send_17 : decode cX6_send 17 = .ok (.ireturn, 1) := by decide +kernel
theorem dX6_send_18 : decode cX6_send 18 = .ok (.aload_n 0, 1) := by decide +kernel
theorem dX6_send_19 : decode cX6_send 19 = .ok (.iload_n 1, 1) := by decide +kernel
theorem dX6_send_20 : decode cX6_send 20 = .ok (.invokevirtual 141, 3) := by decide +kernel
theorem dX6_send_23 : decode cX6_send 23 = .ok (.istore_n 3, 1) := by decide +kernel
theorem dX6_send_24 : decode cX6_send 24 = .ok (.bipush (-9), 2) := by decide +kernel
theorem dX6_send_26 : decode cX6_send 26 = .ok (.istore 4, 2) := by decide +kernel
theorem dX6_send_28 : decode cX6_send 28 = .ok (.iconst 0, 1) := by decide +kernel
theorem dX6_send_29 : decode cX6_send 29 = .ok (.istore 5, 2) := by decide +kernel
theorem dX6_send_31 : decode cX6_send 31 = .ok (.iload 5, 2) := by decide +kernel
theorem dX6_send_33 : decode cX6_send 33 = .ok (.aload_n 0, 1) := by decide +kernel
theorem dX6_send_34 : decode cX6_send 34 = .ok (.getfield 9, 3) := by decide +kernel
theorem dX6_send_37 : decode cX6_send 37 = .ok (.iconst 1, 1) := by decide +kernel
theorem dX6_send_38 : decode cX6_send 38 = .ok (.iaload, 1) := by decide +kernel
theorem dX6_send_39 : decode cX6_send 39 = .ok (.if_icmp .ge 60, 3) := by decide +kernel
theorem dX6_send_42 : decode cX6_send 42 = .ok (.aload_n 0, 1) := by decide +kernel
theorem dX6_send_43 : decode cX6_send 43 = .ok (.getfield 9, 3) := by decide +kernel
theorem dX6_send_46 : decode cX6_send 46 = .ok (.aload_n 0, 1) := by decide +kernel
theorem dX6_send_47 : decode cX6_send 47 = .ok (.getfield 13, 3) := by decide +kernel
theorem dX6_send_50 : decode cX6_send 50 = .ok (.invokestatic 130, 3) := by decide +kernel
theorem dX6_send_53 : decode cX6_send 53 = .ok (.aload_n 0, 1) := by decide +kernel
theorem dX6_send_54 : decode cX6_send 54 = .ok (.getfield 13, 3) := by decide +kernel
theorem dX6_send_57 : decode cX6_send 57 = .ok (.iload 5, 2) := by decide +kernel
theorem dX6_send_59 : decode cX6_send 59 = .ok (.iconst 3, 1) := by decide +kernel
theorem dX6_send_60 : decode cX6_send 60 = .ok (.invokestatic 56, 3) := by decide +kernel
theorem dX6_send_63 : decode cX6_send 63 = .ok (.bipush (-9), 2) := by decide +kernel
theorem dX6_send_65 : decode cX6_send 65 = .ok (.iastore, 1) := by decide +kernel
theorem dX6_send_66 : decode cX6_send 66 = .ok (.aload_n 0, 1) := by decide +kernel
theorem dX6_send_67 : decode cX6_send 67 = .ok (.aload_n 0, 1) := by decide +kernel
theorem dX6_send_68 : decode cX6_send 68 = .ok (.getfield 13, 3) := by decide +kernel
theorem dX6_send_71 : decode cX6_send 71 = .ok (.iload_n 1, 1) := by decide +kernel
theorem dX6_send_72 : decode cX6_send 72 = .ok (.invokevirtual 124, 3) := by decide +kernel
theorem dX6_send_75 : decode cX6_send 75 = .ok (.istore 6, 2) := by decide +kernel
theorem dX6_send_77 : decode cX6_send 77 = .ok (.iload 6, 2) := by decide +kernel
theorem dX6_send_79 : decode cX6_send 79 = .ok (.iload_n 3, 1) := by decide +kernel
theorem dX6_send_80 : decode cX6_send 80 = .ok (.if_icmp .gt 6, 3) := by decide +kernel
theorem dX6_send_83 : decode cX6_send 83 = .ok (.goto 10, 3) := by decide +kernel
theorem dX6_send_86 : decode cX6_send 86 = .ok (.iload 5, 2) := by decide +kernel
theorem dX6_send_88 : decode cX6_send 88 = .ok (.istore 4, 2) := by decide +kernel
theorem dX6_send_90 : decode cX6_send 90 = .ok (.iload 6, 2) := by decide +kernel
theorem dX6_send_92 : decode cX6_send 92 = .ok (.istore_n 3, 1) := by decide +kernel
theorem dX6_send_93 : decode cX6_send 93 = .ok (.iinc 5 1, 3) := by decide +kernel
theorem dX6_send_96 : decode cX6_send 96 = .ok (.goto (-65), 3) := by decide +kernel
theorem dX6_send_99 : decode cX6_send 99 = .ok (.iload 4, 2) := by decide +kernel
theorem dX6_send_101 : decode cX6_send 101 = .ok (.ireturn, 1) := by decide +kernel
theorem dX6_change_0 : decode cX6_change 0 = .ok (.iload_n 1, 1) := by decide +kernel
theorem dX6_change_1 : decode cX6_change 1 = .ok (.iconst 1, 1) := by decide +kernel
theorem dX6_change_2 : decode cX6_change 2 = .ok (.bipush 30, 2) := by decide +kernel
theorem dX6_change_4 : decode cX6_change 4 = .ok (.invokestatic 137, 3) := by decide +kernel
theorem dX6_change_7 : decode cX6_change 7 = .ok (.istore_n 2, 1) := by decide +kernel
theorem dX6_change_8 : decode cX6_change 8 = .ok (.iload_n 2, 1) := by decide +kernel
theorem dX6_change_9 : decode cX6_change 9 = .ok (.ifCond .eq 9, 3) := by decide +kernel
theorem dX6_change_12 : decode cX6_change 12 = .ok (.aload_n 0, 1) := by decide +kernel
theorem dX6_change_13 : decode cX6_change 13 = .ok (.iload_n 2, 1) := by decide +kernel
theorem dX6_change_14 : decode cX6_change 14 = .ok (.invokevirtual 48, 3) := by decide +kernel
theorem dX6_change_17 : decode cX6_change 17 = .ok (.ireturn, 1) := by decide +kernel
theorem dX6_change_18 : decode cX6_change 18 = .ok (.aload_n 0, 1) := by decide +kernel
theorem dX6_change_19 : decode cX6_change 19 = .ok (.iload_n 1, 1) := by decide +kernel
theorem dX6_change_20 : decode cX6_change 20 = .ok (.invokevirtual 141, 3) := by decide +kernel
theorem dX6_change_23 : decode cX6_change 23 = .ok (.istore_n 3, 1) := by decide +kernel
theorem dX6_change_24 : decode cX6_change 24 = .ok (.bipush (-9), 2) := by decide +kernel
theorem dX6_change_26 : decode cX6_change 26 = .ok (.istore 4, 2) := by decide +kernel
theorem dX6_change_28 : decode cX6_change 28 = .ok (.iconst 0, 1) := by decide +kernel
theorem dX6_change_29 : decode cX6_change 29 = .ok (.istore 5, 2) := by decide +kernel
theorem dX6_change_31 : decode cX6_change 31 = .ok (.iload 5, 2) := by decide +kernel
theorem dX6_change_33 : decode cX6_change 33 = .ok (.aload_n 0, 1) := by decide +kernel
theorem dX6_change_34 : decode cX6_change 34 = .ok (.getfield 9, 3) := by decide +kernel
theorem dX6_change_37 : decode cX6_change 37 = .ok (.iconst 1, 1) := by decide +kernel
theorem dX6_change_38 : decode cX6_change 38 = .ok (.iaload, 1) := by decide +kernel
theorem dX6_change_39 : decode cX6_change 39 = .ok (.if_icmp .ge 120, 3) := by decide +kernel
theorem dX6_change_42 : decode cX6_change 42 = .ok (.iload 5, 2) := by decide +kernel
theorem dX6_change_44 : decode cX6_change 44 = .ok (.iconst 1, 1) := by decide +kernel
theorem dX6_change_45 : decode cX6_change 45 = .ok (.iadd, 1) := by decide +kernel
theorem dX6_change_46 : decode cX6_change 46 = .ok (.istore 6, 2) := by decide +kernel
theorem dX6_change_48 : decode cX6_change 48 = .ok (.iload 6, 2) := by decide +kernel
theorem dX6_change_50 : decode cX6_change 50 = .ok (.aload_n 0, 1) := by decide +kernel
theorem dX6_change_51 : decode cX6_change 51 = .ok (.getfield 9, 3) := by decide +kernel
theorem dX6_change_54 : decode cX6_change 54 = .ok (.iconst 1, 1) := by decide +kernel
theorem dX6_change_55 : decode cX6_change 55 = .ok (.iaload, 1) := by decide +kernel
theorem dX6_change_56 : decode cX6_change 56 = .ok (.if_icmp .ge 97, 3) := by decide +kernel
theorem dX6_change_59 : decode cX6_change 59 = .ok (.aload_n 0, 1) := by decide +kernel
theorem dX6_change_60 : decode cX6_change 60 = .ok (.getfield 9, 3) := by decide +kernel
theorem dX6_change_63 : decode cX6_change 63 = .ok (.aload_n 0, 1) := by decide +kernel
theorem dX6_change_64 : decode cX6_change 64 = .ok (.getfield 13, 3) := by decide +kernel
theorem dX6_change_67 : decode cX6_change 67 = .ok (.invokestatic 130, 3) := by decide +kernel
theorem dX6_change_70 : decode cX6_change 70 = .ok (.aload_n 0, 1) := by decide +kernel
theorem dX6_change_71 : decode cX6_change 71 = .ok (.getfield 13, 3) := by decide +kernel
theorem dX6_change_74 : decode cX6_change 74 = .ok (.iload 5, 2) := by decide +kernel
theorem dX6_change_76 : decode cX6_change 76 = .ok (.iconst 3, 1) := by decide +kernel
theorem dX6_change_77 : decode cX6_change 77 = .ok (.invokestatic 56, 3) := by decide +kernel
theorem dX6_change_80 : decode cX6_change 80 = .ok (.aload_n 0, 1) := by decide +kernel
theorem dX6_change_81 : decode cX6_change 81 = .ok (.getfield 9, 3) := by decide +kernel
theorem dX6_change_84 : decode cX6_change 84 = .ok (.iload 6, 2) := by decide +kernel
theorem dX6_change_86 : decode cX6_change 86 = .ok (.iconst 3, 1) := by decide +kernel
theorem dX6_change_87 : decode cX6_change 87 = .ok (.invokestatic 56, 3) := by decide +kernel
theorem dX6_change_90 : decode cX6_change 90 = .ok (.iaload, 1) := by decide +kernel
theorem dX6_change_91 : decode cX6_change 91 = .ok (.iastore, 1) := by decide +kernel
theorem dX6_change_92 : decode cX6_change 92 = .ok (.aload_n 0, 1) := by decide +kernel
theorem dX6_change_93 : decode cX6_change 93 = .ok (.getfield 13, 3) := by decide +kernel
theorem dX6_change_96 : decode cX6_change 96 = .ok (.iload 6, 2) := by decide +kernel
theorem dX6_change_98 : decode cX6_change 98 = .ok (.iconst 3, 1) := by decide +kernel
theorem dX6_change_99 : decode cX6_change 99 = .ok (.invokestatic 56, 3) := by decide +kernel
theorem dX6_change_102 : decode cX6_change 102 = .ok (.aload_n 0, 1) := by decide +kernel
theorem dX6_change_103 : decode cX6_change 103 = .ok (.getfield 9, 3) := by decide +kernel
theorem dX6_change_106 : decode cX6_change 106 = .ok (.iload 5, 2) := by decide +kernel
theorem dX6_change_108 : decode cX6_change 108 = .ok (.iconst 3, 1) := by decide +kernel
theorem dX6_change_109 : decode cX6_change 109 = .ok (.invokestatic 56, 3) := by decide +kernel
theorem dX6_change_112 : decode cX6_change 112 = .ok (.iaload, 1) := by decide +kernel
theorem dX6_change_113 : decode cX6_change 113 = .ok (.iastore, 1) := by decide +kernel
theorem dX6_change_114 : decode cX6_change 114 = .ok (.aload_n 0, 1) := by decide +kernel
theorem dX6_change_115 : decode cX6_change 115 = .ok (.aload_n 0, 1) := by decide +kernel
theorem dX6_change_116 : decode cX6_change 116 = .ok (.getfield 13, 3) := by decide +kernel
theorem dX6_change_119 : decode cX6_change 119 = .ok (.iload_n 1, 1) := by decide +kernel
theorem dX6_change_120 : decode cX6_change 120 = .ok (.invokevirtual 124, 3) := by decide +kernel
theorem dX6_change_123 : decode cX6_change 123 = .ok (.istore 7, 2) := by decide +kernel
theorem dX6_change_125 : decode cX6_change 125 = .ok (.iload 7, 2) := by decide +kernel
theorem dX6_change_127 : decode cX6_change 127 = .ok (.iload_n 3, 1) := by decide +kernel
theorem dX6_change_128 : decode cX6_change 128 = .ok (.if_icmp .gt 6, 3) := by decide +kernel
theorem dX6_change_131 : decode cX6_change 131 = .ok (.goto 16, 3) := by decide +kernel
theorem dX6_change_134 : decode cX6_change 134 = .ok (.bipush 10, 2) := by decide +kernel
theorem dX6_change_136 : decode cX6_change 136 = .ok (.iload 5, 2) := by decide +kernel
theorem dX6_change_138 : decode cX6_change 138 = .ok (.imul, 1) := by decide +kernel
theorem dX6_change_139 : decode cX6_change 139 = .ok (.iload 6, 2) := by decide +kernel
theorem dX6_change_141 : decode cX6_change 141 = .ok (.iadd, 1) := by decide +kernel
theorem dX6_change_142 : decode cX6_change 142 = .ok (.istore 4, 2) := by decide +kernel
theorem dX6_change_144 : decode cX6_change 144 = .ok (.iload 7, 2) := by decide +kernel
theorem dX6_change_146 : decode cX6_change 146 = .ok (.istore_n 3, 1) := by decide +kernel
theorem dX6_change_147 : decode cX6_change 147 = .ok (.iinc 6 1, 3) := by decide +kernel
theorem dX6_change_150 : decode cX6_change 150 = .ok (.goto (-102), 3) := by decide +kernel
theorem dX6_change_153 : decode cX6_change 153 = .ok (.iinc 5 1, 3) := by decide +kernel
theorem dX6_change_156 : decode cX6_change 156 = .ok (.goto (-125), 3) := by decide +kernel
theorem dX6_change_159 : decode cX6_change 159 = .ok (.iload 4, 2) := by decide +kernel
theorem dX6_change_161 : decode cX6_change 161 = .ok (.ireturn, 1) := by decide +kernel
theorem dX6_sets_0 : decode cX6_sets 0 = .ok (.iload_n 1, 1) := by decide +kernel
theorem dX6_sets_1 : decode cX6_sets 1 = .ok (.aload_n 0, 1) := by decide +kernel
theorem dX6_sets_2 : decode cX6_sets 2 = .ok (.getfield 9, 3) := by decide +kernel
theorem dX6_sets_5 : decode cX6_sets 5 = .ok (.iconst 1, 1) := by decide +kernel
theorem dX6_sets_6 : decode cX6_sets 6 = .ok (.iaload, 1) := by decide +kernel
theorem dX6_sets_7 : decode cX6_sets 7 = .ok (.if_icmp .ne 48, 3) := by decide +kernel
theorem dX6_sets_10 : decode cX6_sets 10 = .ok (.iload_n 3, 1) := by decide +kernel
theorem dX6_sets_11 : decode cX6_sets 11 = .ok (.aload_n 0, 1) := by decide +kernel
theorem dX6_sets_12 : decode cX6_sets 12 = .ok (.getfield 148, 3) := by decide +kernel
theorem dX6_sets_15 : decode cX6_sets 15 = .ok (.if_icmp .gt 4, 3) := by decide +kernel
theorem dX6_sets_18 : decode cX6_sets 18 = .ok (.return_, 1) := by decide +kernel
theorem dX6_sets_19 : decode cX6_sets 19 = .ok (.aload_n 0, 1) := by decide +kernel
theorem dX6_sets_20 : decode cX6_sets 20 = .ok (.iload_n 3, 1) := by decide +kernel
theorem dX6_sets_21 : decode cX6_sets 21 = .ok (.putfield 148, 3) := by decide +kernel
theorem dX6_sets_24 : decode cX6_sets 24 = .ok (.iconst 0, 1) := by decide +kernel
theorem dX6_sets_25 : decode cX6_sets 25 = .ok (.istore 4, 2) := by decide +kernel
theorem dX6_sets_27 : decode cX6_sets 27 = .ok (.iload 4, 2) := by decide +kernel
theorem dX6_sets_29 : decode cX6_sets 29 = .ok (.bipush 6, 2) := by decide +kernel
theorem dX6_sets_31 : decode cX6_sets 31 = .ok (.if_icmp .ge 23, 3) := by decide +kernel
theorem dX6_sets_34 : decode cX6_sets 34 = .ok (.aload_n 0, 1) := by decide +kernel
theorem dX6_sets_35 : decode cX6_sets 35 = .ok (.getfield 43, 3) := by decide +kernel
theorem dX6_sets_38 : decode cX6_sets 38 = .ok (.iload 4, 2) := by decide +kernel
theorem dX6_sets_40 : decode cX6_sets 40 = .ok (.aload_n 0, 1) := by decide +kernel
theorem dX6_sets_41 : decode cX6_sets 41 = .ok (.getfield 40, 3) := by decide +kernel
theorem dX6_sets_44 : decode cX6_sets 44 = .ok (.iload 4, 2) := by decide +kernel
theorem dX6_sets_46 : decode cX6_sets 46 = .ok (.iaload, 1) := by decide +kernel
theorem dX6_sets_47 : decode cX6_sets 47 = .ok (.iastore, 1) := by decide +kernel
theorem dX6_sets_48 : decode cX6_sets 48 = .ok (.iinc 4 1, 3) := by decide +kernel
theorem dX6_sets_51 : decode cX6_sets 51 = .ok (.goto (-24), 3) := by decide +kernel
theorem dX6_sets_54 : decode cX6_sets 54 = .ok (.return_, 1) := by decide +kernel
theorem dX6_sets_55 : decode cX6_sets 55 = .ok (.iconst 0, 1) := by decide +kernel
theorem dX6_sets_56 : decode cX6_sets 56 = .ok (.istore 4, 2) := by decide +kernel
theorem dX6_sets_58 : decode cX6_sets 58 = .ok (.iload 4, 2) := by decide +kernel
theorem dX6_sets_60 : decode cX6_sets 60 = .ok (.aload_n 0, 1) := by decide +kernel
theorem dX6_sets_61 : decode cX6_sets 61 = .ok (.getfield 9, 3) := by decide +kernel
theorem dX6_sets_64 : decode cX6_sets 64 = .ok (.iconst 0, 1) := by decide +kernel
theorem dX6_sets_65 : decode cX6_sets 65 = .ok (.iaload, 1) := by decide +kernel
theorem dX6_sets_66 : decode cX6_sets 66 = .ok (.if_icmp .ge 54, 3) := by decide +kernel
theorem dX6_sets_69 : decode cX6_sets 69 = .ok (.iload_n 2, 1) := by decide +kernel
theorem dX6_sets_70 : decode cX6_sets 70 = .ok (.iload 4, 2) := by decide +kernel
theorem dX6_sets_72 : decode cX6_sets 72 = .ok (.invokestatic 151, 3) := by decide +kernel
theorem dX6_sets_75 : decode cX6_sets 75 = .ok (.ifCond .eq 6, 3) := by decide +kernel
theorem dX6_sets_78 : decode cX6_sets 78 = .ok (.goto 36, 3) := by decide +kernel
theorem dX6_sets_81 : decode cX6_sets 81 = .ok (.aload_n 0, 1) := by decide +kernel
theorem dX6_sets_82 : decode cX6_sets 82 = .ok (.getfield 40, 3) := by decide +kernel
theorem dX6_sets_85 : decode cX6_sets 85 = .ok (.iload_n 1, 1) := by decide +kernel
theorem dX6_sets_86 : decode cX6_sets 86 = .ok (.iload 4, 2) := by decide +kernel
theorem dX6_sets_88 : decode cX6_sets 88 = .ok (.iastore, 1) := by decide +kernel
theorem dX6_sets_89 : decode cX6_sets 89 = .ok (.aload_n 0, 1) := by decide +kernel
theorem dX6_sets_90 : decode cX6_sets 90 = .ok (.iload_n 1, 1) := by decide +kernel
theorem dX6_sets_91 : decode cX6_sets 91 = .ok (.iconst 1, 1) := by decide +kernel
theorem dX6_sets_92 : decode cX6_sets 92 = .ok (.iadd, 1) := by decide +kernel
theorem dX6_sets_93 : decode cX6_sets 93 = .ok (.iload_n 2, 1) := by decide +kernel
theorem dX6_sets_94 : decode cX6_sets 94 = .ok (.iconst 1, 1) := by decide +kernel
theorem dX6_sets_95 : decode cX6_sets 95 = .ok (.iload 4, 2) := by decide +kernel
theorem dX6_sets_97 : decode cX6_sets 97 = .ok (.ishl, 1) := by decide +kernel
theorem dX6_sets_98 : decode cX6_sets 98 = .ok (.ior, 1) := by decide +kernel
theorem dX6_sets_99 : decode cX6_sets 99 = .ok (.iload_n 3, 1) := by decide +kernel
theorem dX6_sets_100 : decode cX6_sets 100 = .ok (.aload_n 0, 1) := by decide +kernel
theorem dX6_sets_101 : decode cX6_sets 101 = .ok (.getfield 9, 3) := by decide +kernel
theorem dX6_sets_104 : decode cX6_sets 104 = .ok (.iload_n 1, 1) := by decide +kernel
theorem dX6_sets_105 : decode cX6_sets 105 = .ok (.iload 4, 2) := by decide +kernel
theorem dX6_sets_107 : decode cX6_sets 107 = .ok (.invokestatic 70, 3) := by decide +kernel
theorem dX6_sets_110 : decode cX6_sets 110 = .ok (.iadd, 1) := by decide +kernel
theorem dX6_sets_111 : decode cX6_sets 111 = .ok (.invokevirtual 154, 3) := by decide +kernel
theorem dX6_sets_114 : decode cX6_sets 114 = .ok (.iinc 4 1, 3) := by decide +kernel
theorem dX6_sets_117 : decode cX6_sets 117 = .ok (.goto (-59), 3) := by decide +kernel
theorem dX6_sets_120 : decode cX6_sets 120 = .ok (.aload_n 0, 1) := by decide +kernel
theorem dX6_sets_121 : decode cX6_sets 121 = .ok (.getfield 40, 3) := by decide +kernel
theorem dX6_sets_124 : decode cX6_sets 124 = .ok (.iload_n 1, 1) := by decide +kernel
theorem dX6_sets_125 : decode cX6_sets 125 = .ok (.bipush (-9), 2) := by decide +kernel
theorem dX6_sets_127 : decode cX6_sets 127 = .ok (.iastore, 1) := by decide +kernel
theorem dX6_sets_128 : decode cX6_sets 128 = .ok (.aload_n 0, 1) := by decide +kernel
theorem dX6_sets_129 : decode cX6_sets 129 = .ok (.iload_n 1, 1) := by decide +kernel
theorem dX6_sets_130 : decode cX6_sets 130 = .ok (.iconst 1, 1) := by decide +kernel
theorem dX6_sets_131 : decode cX6_sets 131 = .ok (.iadd, 1) := by decide +kernel
theorem dX6_sets_132 : decode cX6_sets 132 = .ok (.iload_n 2, 1) := by decide +kernel
theorem dX6_sets_133 : decode cX6_sets 133 = .ok (.iload_n 3, 1) := by decide +kernel
theorem dX6_sets_134 : decode cX6_sets 134 = .ok (.invokevirtual 154, 3) := by decide +kernel
theorem dX6_sets_137 : decode cX6_sets 137 = .ok (.return_, 1) := by decide +kernel
theorem dX6_next_0 : decode cX6_next 0 = .ok (.iload_n 1, 1) := by decide +kernel
theorem dX6_next_1 : decode cX6_next 1 = .ok (.iconst (-1), 1) := by decide +kernel
theorem dX6_next_2 : decode cX6_next 2 = .ok (.if_icmp .eq 17, 3) := by decide +kernel
theorem dX6_next_5 : decode cX6_next 5 = .ok (.aload_n 0, 1) := by decide +kernel
theorem dX6_next_6 : decode cX6_next 6 = .ok (.iload_n 1, 1) := by decide +kernel
theorem dX6_next_7 : decode cX6_next 7 = .ok (.invokevirtual 113, 3) := by decide +kernel
theorem dX6_next_10 : decode cX6_next 10 = .ok (.ifCond .ne 9, 3) := by decide +kernel
theorem dX6_next_13 : decode cX6_next 13 = .ok (.aload_n 0, 1) := by decide +kernel
theorem dX6_next_14 : decode cX6_next 14 = .ok (.iconst (-1), 1) := by decide +kernel
theorem dX6_next_15 : decode cX6_next 15 = .ok (.invokevirtual 48, 3) := by decide +kernel
theorem dX6_next_18 : decode cX6_next 18 = .ok (.ireturn, 1) := by decide +kernel
theorem dX6_next_19 : decode cX6_next 19 = .ok (.aload_n 0, 1) := by decide +kernel
theorem dX6_next_20 : decode cX6_next 20 = .ok (.iconst (-1), 1) := by decide +kernel
theorem dX6_next_21 : decode cX6_next 21 = .ok (.putfield 148, 3) := by decide +kernel
theorem dX6_next_24 : decode cX6_next 24 = .ok (.aload_n 0, 1) := by decide +kernel
theorem dX6_next_25 : decode cX6_next 25 = .ok (.iconst 0, 1) := by decide +kernel
theorem dX6_next_26 : decode cX6_next 26 = .ok (.iconst 0, 1) := by decide +kernel
theorem dX6_next_27 : decode cX6_next 27 = .ok (.iconst 0, 1) := by decide +kernel
theorem dX6_next_28 : decode cX6_next 28 = .ok (.invokevirtual 154, 3) := by decide +kernel
theorem dX6_next_31 : decode cX6_next 31 = .ok (.iload_n 1, 1) := by decide +kernel
theorem dX6_next_32 : decode cX6_next 32 = .ok (.ifCond .ge 10, 3) := by decide +kernel
theorem dX6_next_35 : decode cX6_next 35 = .ok (.aload_n 0, 1) := by decide +kernel
theorem dX6_next_36 : decode cX6_next 36 = .ok (.getfield 148, 3) := by decide +kernel
theorem dX6_next_39 : decode cX6_next 39 = .ok (.goto 9, 3) := by decide +kernel
theorem dX6_next_42 : decode cX6_next 42 = .ok (.aload_n 0, 1) := by decide +kernel
theorem dX6_next_43 : decode cX6_next 43 = .ok (.getfield 43, 3) := by decide +kernel
theorem dX6_next_46 : decode cX6_next 46 = .ok (.iload_n 1, 1) := by decide +kernel
theorem dX6_next_47 : decode cX6_next 47 = .ok (.iaload, 1) := by decide +kernel
theorem dX6_next_48 : decode cX6_next 48 = .ok (.ireturn, 1) := by decide +kernel
theorem dX6_feed_0 : decode cX6_feed 0 = .ok (.aload_n 0, 1) := by decide +kernel
theorem dX6_feed_1 : decode cX6_feed 1 = .ok (.iload_n 1, 1) := by decide +kernel
theorem dX6_feed_2 : decode cX6_feed 2 = .ok (.invokevirtual 117, 3) := by decide +kernel
theorem dX6_feed_5 : decode cX6_feed 5 = .ok (.ifCond .ne 9, 3) := by decide +kernel
theorem dX6_feed_8 : decode cX6_feed 8 = .ok (.aload_n 0, 1) := by decide +kernel
theorem dX6_feed_9 : decode cX6_feed 9 = .ok (.iconst (-1), 1) := by decide +kernel
theorem dX6_feed_10 : decode cX6_feed 10 = .ok (.invokevirtual 48, 3) := by decide +kernel
theorem dX6_feed_13 : decode cX6_feed 13 = .ok (.ireturn, 1) := by decide +kernel
theorem dX6_feed_14 : decode cX6_feed 14 = .ok (.iload_n 2, 1) := by decide +kernel
theorem dX6_feed_15 : decode cX6_feed 15 = .ok (.iconst 0, 1) := by decide +kernel
theorem dX6_feed_16 : decode cX6_feed 16 = .ok (.iconst 1, 1) := by decide +kernel
theorem dX6_feed_17 : decode cX6_feed 17 = .ok (.invokestatic 52, 3) := by decide +kernel
theorem dX6_feed_20 : decode cX6_feed 20 = .ok (.ifCond .ne 10, 3) := by decide +kernel
theorem dX6_feed_23 : decode cX6_feed 23 = .ok (.aload_n 0, 1) := by decide +kernel
theorem dX6_feed_24 : decode cX6_feed 24 = .ok (.bipush (-2), 2) := by decide +kernel
theorem dX6_feed_26 : decode cX6_feed 26 = .ok (.invokevirtual 48, 3) := by decide +kernel
theorem dX6_feed_29 : decode cX6_feed 29 = .ok (.ireturn, 1) := by decide +kernel
theorem dX6_feed_30 : decode cX6_feed 30 = .ok (.iconst 0, 1) := by decide +kernel
theorem dX6_feed_31 : decode cX6_feed 31 = .ok (.istore_n 3, 1) := by decide +kernel
theorem dX6_feed_32 : decode cX6_feed 32 = .ok (.iconst (-1), 1) := by decide +kernel
theorem dX6_feed_33 : decode cX6_feed 33 = .ok (.istore 4, 2) := by decide +kernel
theorem dX6_feed_35 : decode cX6_feed 35 = .ok (.iconst 0, 1) := by decide +kernel
theorem dX6_feed_36 : decode cX6_feed 36 = .ok (.istore 5, 2) := by decide +kernel
theorem dX6_feed_38 : decode cX6_feed 38 = .ok (.iload 5, 2) := by decide +kernel
theorem dX6_feed_40 : decode cX6_feed 40 = .ok (.bipush 6, 2) := by decide +kernel
theorem dX6_feed_42 : decode cX6_feed 42 = .ok (.if_icmp .ge 61, 3) := by decide +kernel
theorem dX6_feed_45 : decode cX6_feed 45 = .ok (.aload_n 0, 1) := by decide +kernel
theorem dX6_feed_46 : decode cX6_feed 46 = .ok (.getfield 9, 3) := by decide +kernel
theorem dX6_feed_49 : decode cX6_feed 49 = .ok (.aload_n 0, 1) := by decide +kernel
theorem dX6_feed_50 : decode cX6_feed 50 = .ok (.getfield 13, 3) := by decide +kernel
theorem dX6_feed_53 : decode cX6_feed 53 = .ok (.invokestatic 130, 3) := by decide +kernel
theorem dX6_feed_56 : decode cX6_feed 56 = .ok (.aload_n 0, 1) := by decide +kernel
theorem dX6_feed_57 : decode cX6_feed 57 = .ok (.getfield 13, 3) := by decide +kernel
theorem dX6_feed_60 : decode cX6_feed 60 = .ok (.iload 5, 2) := by decide +kernel
theorem dX6_feed_62 : decode cX6_feed 62 = .ok (.bipush 9, 2) := by decide +kernel
theorem dX6_feed_64 : decode cX6_feed 64 = .ok (.iload_n 1, 1) := by decide +kernel
theorem dX6_feed_65 : decode cX6_feed 65 = .ok (.invokestatic 74, 3) := by decide +kernel
theorem dX6_feed_68 : decode cX6_feed 68 = .ok (.aload_n 0, 1) := by decide +kernel
theorem dX6_feed_69 : decode cX6_feed 69 = .ok (.getfield 13, 3) := by decide +kernel
theorem dX6_feed_72 : decode cX6_feed 72 = .ok (.iload_n 1, 1) := by decide +kernel
theorem dX6_feed_73 : decode cX6_feed 73 = .ok (.invokestatic 88, 3) := by decide +kernel
theorem dX6_feed_76 : decode cX6_feed 76 = .ok (.iload 4, 2) := by decide +kernel
theorem dX6_feed_78 : decode cX6_feed 78 = .ok (.if_icmp .gt 6, 3) := by decide +kernel
theorem dX6_feed_81 : decode cX6_feed 81 = .ok (.goto 16, 3) := by decide +kernel
theorem dX6_feed_84 : decode cX6_feed 84 = .ok (.iload 5, 2) := by decide +kernel
theorem dX6_feed_86 : decode cX6_feed 86 = .ok (.istore_n 3, 1) := by decide +kernel
theorem dX6_feed_87 : decode cX6_feed 87 = .ok (.aload_n 0, 1) := by decide +kernel
theorem dX6_feed_88 : decode cX6_feed 88 = .ok (.getfield 13, 3) := by decide +kernel
theorem dX6_feed_91 : decode cX6_feed 91 = .ok (.iload_n 1, 1) := by decide +kernel
theorem dX6_feed_92 : decode cX6_feed 92 = .ok (.invokestatic 88, 3) := by decide +kernel
theorem dX6_feed_95 : decode cX6_feed 95 = .ok (.istore 4, 2) := by decide +kernel
theorem dX6_feed_97 : decode cX6_feed 97 = .ok (.iinc 5 1, 3) := by decide +kernel
theorem dX6_feed_100 : decode cX6_feed 100 = .ok (.goto (-62), 3) := by decide +kernel
theorem dX6_feed_103 : decode cX6_feed 103 = .ok (.iload_n 2, 1) := by decide +kernel
theorem dX6_feed_104 : decode cX6_feed 104 = .ok (.ifCond .ne 7, 3) := by decide +kernel
theorem dX6_feed_107 : decode cX6_feed 107 = .ok (.iload_n 3, 1) := by decide +kernel
theorem dX6_feed_108 : decode cX6_feed 108 = .ok (.goto 5, 3) := by decide +kernel
theorem dX6_feed_111 : decode cX6_feed 111 = .ok (.iload 4, 2) := by decide +kernel
theorem dX6_feed_113 : decode cX6_feed 113 = .ok (.ireturn, 1) := by decide +kernel
theorem dX6_areAlike_0 : decode cX6_areAlike 0 = .ok (.iconst 5, 1) := by decide +kernel
theorem dX6_areAlike_1 : decode cX6_areAlike 1 = .ok (.istore_n 2, 1) := by decide +kernel
theorem dX6_areAlike_2 : decode cX6_areAlike 2 = .ok (.iload_n 2, 1) := by decide +kernel
theorem dX6_areAlike_3 : decode cX6_areAlike 3 = .ok (.bipush 23, 2) := by decide +kernel
theorem dX6_areAlike_5 : decode cX6_areAlike 5 = .ok (.if_icmp .ge 20, 3) := by decide +kernel
theorem dX6_areAlike_8 : decode cX6_areAlike 8 = .ok (.aload_n 0, 1) := by decide +kernel
theorem dX6_areAlike_9 : decode cX6_areAlike 9 = .ok (.iload_n 2, 1) := by decide +kernel
theorem dX6_areAlike_10 : decode cX6_areAlike 10 = .ok (.iaload, 1) := by decide +kernel
theorem dX6_areAlike_11 : decode cX6_areAlike 11 = .ok (.aload_n 1, 1) := by decide +kernel
theorem dX6_areAlike_12 : decode cX6_areAlike 12 = .ok (.iload_n 2, 1) := by decide +kernel
theorem dX6_areAlike_13 : decode cX6_areAlike 13 = .ok (.iaload, 1) := by decide +kernel
theorem dX6_areAlike_14 : decode cX6_areAlike 14 = .ok (.if_icmp .eq 5, 3) := by decide +kernel
theorem dX6_areAlike_17 : decode cX6_areAlike 17 = .ok (.iconst 0, 1) := by decide +kernel
theorem dX6_areAlike_18 : decode cX6_areAlike 18 = .ok (.ireturn, 1) := by decide +kernel
theorem dX6_areAlike_19 : decode cX6_areAlike 19 = .ok (.iinc 2 1, 3) := by decide +kernel
theorem dX6_areAlike_22 : decode cX6_areAlike 22 = .ok (.goto (-20), 3) := by decide +kernel
theorem dX6_areAlike_25 : decode cX6_areAlike 25 = .ok (.iconst 0, 1) := by decide +kernel
theorem dX6_areAlike_26 : decode cX6_areAlike 26 = .ok (.istore_n 2, 1) := by decide +kernel
theorem dX6_areAlike_27 : decode cX6_areAlike 27 = .ok (.iload_n 2, 1) := by decide +kernel
theorem dX6_areAlike_28 : decode cX6_areAlike 28 = .ok (.aload_n 0, 1) := by decide +kernel
theorem dX6_areAlike_29 : decode cX6_areAlike 29 = .ok (.iconst 1, 1) := by decide +kernel
theorem dX6_areAlike_30 : decode cX6_areAlike 30 = .ok (.iaload, 1) := by decide +kernel
theorem dX6_areAlike_31 : decode cX6_areAlike 31 = .ok (.if_icmp .ge 28, 3) := by decide +kernel
theorem dX6_areAlike_34 : decode cX6_areAlike 34 = .ok (.aload_n 0, 1) := by decide +kernel
theorem dX6_areAlike_35 : decode cX6_areAlike 35 = .ok (.iload_n 2, 1) := by decide +kernel
theorem dX6_areAlike_36 : decode cX6_areAlike 36 = .ok (.iconst 2, 1) := by decide +kernel
theorem dX6_areAlike_37 : decode cX6_areAlike 37 = .ok (.invokestatic 56, 3) := by decide +kernel
theorem dX6_areAlike_40 : decode cX6_areAlike 40 = .ok (.iaload, 1) := by decide +kernel
theorem dX6_areAlike_41 : decode cX6_areAlike 41 = .ok (.aload_n 1, 1) := by decide +kernel
theorem dX6_areAlike_42 : decode cX6_areAlike 42 = .ok (.iload_n 2, 1) := by decide +kernel
theorem dX6_areAlike_43 : decode cX6_areAlike 43 = .ok (.iconst 2, 1) := by decide +kernel
theorem dX6_areAlike_44 : decode cX6_areAlike 44 = .ok (.invokestatic 56, 3) := by decide +kernel
theorem dX6_areAlike_47 : decode cX6_areAlike 47 = .ok (.iaload, 1) := by decide +kernel
theorem dX6_areAlike_48 : decode cX6_areAlike 48 = .ok (.if_icmp .eq 5, 3) := by decide +kernel
theorem dX6_areAlike_51 : decode cX6_areAlike 51 = .ok (.iconst 0, 1) := by decide +kernel
theorem dX6_areAlike_52 : decode cX6_areAlike 52 = .ok (.ireturn, 1) := by decide +kernel
theorem dX6_areAlike_53 : decode cX6_areAlike 53 = .ok (.iinc 2 1, 3) := by decide +kernel
theorem dX6_areAlike_56 : decode cX6_areAlike 56 = .ok (.goto (-29), 3) := by decide +kernel
theorem dX6_areAlike_59 : decode cX6_areAlike 59 = .ok (.iconst 1, 1) := by decide +kernel
theorem dX6_areAlike_60 : decode cX6_areAlike 60 = .ok (.ireturn, 1) := by decide +kernel
theorem dX6_settles_0 : decode cX6_settles 0 = .ok (.aload_n 0, 1) := by decide +kernel
theorem dX6_settles_1 : decode cX6_settles 1 = .ok (.getfield 9, 3) := by decide +kernel
theorem dX6_settles_4 : decode cX6_settles 4 = .ok (.aload_n 0, 1) := by decide +kernel
theorem dX6_settles_5 : decode cX6_settles 5 = .ok (.getfield 13, 3) := by decide +kernel
theorem dX6_settles_8 : decode cX6_settles 8 = .ok (.invokestatic 130, 3) := by decide +kernel
theorem dX6_settles_11 : decode cX6_settles 11 = .ok (.iconst 0, 1) := by decide +kernel
theorem dX6_settles_12 : decode cX6_settles 12 = .ok (.istore_n 1, 1) := by decide +kernel
theorem dX6_settles_13 : decode cX6_settles 13 = .ok (.iload_n 1, 1) := by decide +kernel
theorem dX6_settles_14 : decode cX6_settles 14 = .ok (.bipush 60, 2) := by decide +kernel
theorem dX6_settles_16 : decode cX6_settles 16 = .ok (.if_icmp .gt 46, 3) := by decide +kernel
theorem dX6_settles_19 : decode cX6_settles 19 = .ok (.aload_n 0, 1) := by decide +kernel
theorem dX6_settles_20 : decode cX6_settles 20 = .ok (.getfield 13, 3) := by decide +kernel
theorem dX6_settles_23 : decode cX6_settles 23 = .ok (.aload_n 0, 1) := by decide +kernel
theorem dX6_settles_24 : decode cX6_settles 24 = .ok (.getfield 19, 3) := by decide +kernel
theorem dX6_settles_27 : decode cX6_settles 27 = .ok (.invokestatic 130, 3) := by decide +kernel
theorem dX6_settles_30 : decode cX6_settles 30 = .ok (.aload_n 0, 1) := by decide +kernel
theorem dX6_settles_31 : decode cX6_settles 31 = .ok (.aload_n 0, 1) := by decide +kernel
theorem dX6_settles_32 : decode cX6_settles 32 = .ok (.getfield 13, 3) := by decide +kernel
theorem dX6_settles_35 : decode cX6_settles 35 = .ok (.iconst 0, 1) := by decide +kernel
theorem dX6_settles_36 : decode cX6_settles 36 = .ok (.invokevirtual 84, 3) := by decide +kernel
theorem dX6_settles_39 : decode cX6_settles 39 = .ok (.istore_n 2, 1) := by decide +kernel
theorem dX6_settles_40 : decode cX6_settles 40 = .ok (.aload_n 0, 1) := by decide +kernel
theorem dX6_settles_41 : decode cX6_settles 41 = .ok (.getfield 13, 3) := by decide +kernel
theorem dX6_settles_44 : decode cX6_settles 44 = .ok (.aload_n 0, 1) := by decide +kernel
theorem dX6_settles_45 : decode cX6_settles 45 = .ok (.getfield 19, 3) := by decide +kernel
theorem dX6_settles_48 : decode cX6_settles 48 = .ok (.invokestatic 158, 3) := by decide +kernel
theorem dX6_settles_51 : decode cX6_settles 51 = .ok (.ifCond .eq 5, 3) := by decide +kernel
theorem dX6_settles_54 : decode cX6_settles 54 = .ok (.iload_n 1, 1) := by decide +kernel
theorem dX6_settles_55 : decode cX6_settles 55 = .ok (.ireturn, 1) := by decide +kernel
theorem dX6_settles_56 : decode cX6_settles 56 = .ok (.iinc 1 1, 3) := by decide +kernel
theorem dX6_settles_59 : decode cX6_settles 59 = .ok (.goto (-46), 3) := by decide +kernel
theorem dX6_settles_62 : decode cX6_settles 62 = .ok (.bipush (-9), 2) := by decide +kernel
theorem dX6_settles_64 : decode cX6_settles 64 = .ok (.ireturn, 1) := by decide +kernel
theorem dX6_areWhereTheyAre_0 : decode cX6_areWhereTheyAre 0 = .ok (.iconst 0, 1) := by decide +kernel
theorem dX6_areWhereTheyAre_1 : decode cX6_areWhereTheyAre 1 = .ok (.istore_n 1, 1) := by decide +kernel
theorem dX6_areWhereTheyAre_2 : decode cX6_areWhereTheyAre 2 = .ok (.iload_n 1, 1) := by decide +kernel
theorem dX6_areWhereTheyAre_3 : decode cX6_areWhereTheyAre 3 = .ok (.aload_n 0, 1) := by decide +kernel
theorem dX6_areWhereTheyAre_4 : decode cX6_areWhereTheyAre 4 = .ok (.getfield 9, 3) := by decide +kernel
theorem dX6_areWhereTheyAre_7 : decode cX6_areWhereTheyAre 7 = .ok (.iconst 1, 1) := by decide +kernel
theorem dX6_areWhereTheyAre_8 : decode cX6_areWhereTheyAre 8 = .ok (.iaload, 1) := by decide +kernel
theorem dX6_areWhereTheyAre_9 : decode cX6_areWhereTheyAre 9 = .ok (.if_icmp .ge 34, 3) := by decide +kernel
theorem dX6_areWhereTheyAre_12 : decode cX6_areWhereTheyAre 12 = .ok (.aload_n 0, 1) := by decide +kernel
theorem dX6_areWhereTheyAre_13 : decode cX6_areWhereTheyAre 13 = .ok (.getfield 13, 3) := by decide +kernel
theorem dX6_areWhereTheyAre_16 : decode cX6_areWhereTheyAre 16 = .ok (.iload_n 1, 1) := by decide +kernel
theorem dX6_areWhereTheyAre_17 : decode cX6_areWhereTheyAre 17 = .ok (.iconst 3, 1) := by decide +kernel
theorem dX6_areWhereTheyAre_18 : decode cX6_areWhereTheyAre 18 = .ok (.invokestatic 56, 3) := by decide +kernel
theorem dX6_areWhereTheyAre_21 : decode cX6_areWhereTheyAre 21 = .ok (.iaload, 1) := by decide +kernel
theorem dX6_areWhereTheyAre_22 : decode cX6_areWhereTheyAre 22 = .ok (.aload_n 0, 1) := by decide +kernel
theorem dX6_areWhereTheyAre_23 : decode cX6_areWhereTheyAre 23 = .ok (.getfield 9, 3) := by decide +kernel
theorem dX6_areWhereTheyAre_26 : decode cX6_areWhereTheyAre 26 = .ok (.iload_n 1, 1) := by decide +kernel
theorem dX6_areWhereTheyAre_27 : decode cX6_areWhereTheyAre 27 = .ok (.iconst 3, 1) := by decide +kernel
theorem dX6_areWhereTheyAre_28 : decode cX6_areWhereTheyAre 28 = .ok (.invokestatic 56, 3) := by decide +kernel
theorem dX6_areWhereTheyAre_31 : decode cX6_areWhereTheyAre 31 = .ok (.iaload, 1) := by decide +kernel
theorem dX6_areWhereTheyAre_32 : decode cX6_areWhereTheyAre 32 = .ok (.if_icmp .eq 5, 3) := by decide +kernel
theorem dX6_areWhereTheyAre_35 : decode cX6_areWhereTheyAre 35 = .ok (.iconst 0, 1) := by decide +kernel
theorem dX6_areWhereTheyAre_36 : decode cX6_areWhereTheyAre 36 = .ok (.ireturn, 1) := by decide +kernel
theorem dX6_areWhereTheyAre_37 : decode cX6_areWhereTheyAre 37 = .ok (.iinc 1 1, 3) := by decide +kernel
theorem dX6_areWhereTheyAre_40 : decode cX6_areWhereTheyAre 40 = .ok (.goto (-38), 3) := by decide +kernel
theorem dX6_areWhereTheyAre_43 : decode cX6_areWhereTheyAre 43 = .ok (.iconst 1, 1) := by decide +kernel
theorem dX6_areWhereTheyAre_44 : decode cX6_areWhereTheyAre 44 = .ok (.ireturn, 1) := by decide +kernel
theorem dX6_round_0 : decode cX6_round 0 = .ok (.aload_n 0, 1) := by decide +kernel
theorem dX6_round_1 : decode cX6_round 1 = .ok (.getfield 9, 3) := by decide +kernel
theorem dX6_round_4 : decode cX6_round 4 = .ok (.aload_n 0, 1) := by decide +kernel
theorem dX6_round_5 : decode cX6_round 5 = .ok (.getfield 13, 3) := by decide +kernel
theorem dX6_round_8 : decode cX6_round 8 = .ok (.invokestatic 130, 3) := by decide +kernel
theorem dX6_round_11 : decode cX6_round 11 = .ok (.iconst 1, 1) := by decide +kernel
theorem dX6_round_12 : decode cX6_round 12 = .ok (.istore_n 1, 1) := by decide +kernel
theorem dX6_round_13 : decode cX6_round 13 = .ok (.iload_n 1, 1) := by decide +kernel
theorem dX6_round_14 : decode cX6_round 14 = .ok (.bipush 60, 2) := by decide +kernel
theorem dX6_round_16 : decode cX6_round 16 = .ok (.if_icmp .gt 28, 3) := by decide +kernel
theorem dX6_round_19 : decode cX6_round 19 = .ok (.aload_n 0, 1) := by decide +kernel
theorem dX6_round_20 : decode cX6_round 20 = .ok (.aload_n 0, 1) := by decide +kernel
theorem dX6_round_21 : decode cX6_round 21 = .ok (.getfield 13, 3) := by decide +kernel
theorem dX6_round_24 : decode cX6_round 24 = .ok (.iconst 0, 1) := by decide +kernel
theorem dX6_round_25 : decode cX6_round 25 = .ok (.invokevirtual 84, 3) := by decide +kernel
theorem dX6_round_28 : decode cX6_round 28 = .ok (.istore_n 2, 1) := by decide +kernel
theorem dX6_round_29 : decode cX6_round 29 = .ok (.aload_n 0, 1) := by decide +kernel
theorem dX6_round_30 : decode cX6_round 30 = .ok (.invokevirtual 162, 3) := by decide +kernel
theorem dX6_round_33 : decode cX6_round 33 = .ok (.ifCond .eq 5, 3) := by decide +kernel
theorem dX6_round_36 : decode cX6_round 36 = .ok (.iload_n 1, 1) := by decide +kernel
theorem dX6_round_37 : decode cX6_round 37 = .ok (.ireturn, 1) := by decide +kernel
theorem dX6_round_38 : decode cX6_round 38 = .ok (.iinc 1 1, 3) := by decide +kernel
theorem dX6_round_41 : decode cX6_round 41 = .ok (.goto (-28), 3) := by decide +kernel
theorem dX6_round_44 : decode cX6_round 44 = .ok (.bipush (-9), 2) := by decide +kernel
theorem dX6_round_46 : decode cX6_round 46 = .ok (.ireturn, 1) := by decide +kernel
theorem dX6_free_0 : decode cX6_free 0 = .ok (.iload_n 1, 1) := by decide +kernel
theorem dX6_free_1 : decode cX6_free 1 = .ok (.iconst 0, 1) := by decide +kernel
theorem dX6_free_2 : decode cX6_free 2 = .ok (.iconst 2, 1) := by decide +kernel
theorem dX6_free_3 : decode cX6_free 3 = .ok (.invokestatic 52, 3) := by decide +kernel
theorem dX6_free_6 : decode cX6_free 6 = .ok (.ifCond .ne 10, 3) := by decide +kernel
theorem dX6_free_9 : decode cX6_free 9 = .ok (.aload_n 0, 1) := by decide +kernel
theorem dX6_free_10 : decode cX6_free 10 = .ok (.bipush (-2), 2) := by decide +kernel
theorem dX6_free_12 : decode cX6_free 12 = .ok (.invokevirtual 48, 3) := by decide +kernel
theorem dX6_free_15 : decode cX6_free 15 = .ok (.ireturn, 1) := by decide +kernel
theorem dX6_free_16 : decode cX6_free 16 = .ok (.iconst 0, 1) := by decide +kernel
theorem dX6_free_17 : decode cX6_free 17 = .ok (.istore_n 2, 1) := by decide +kernel
theorem dX6_free_18 : decode cX6_free 18 = .ok (.iconst 0, 1) := by decide +kernel
theorem dX6_free_19 : decode cX6_free 19 = .ok (.istore_n 3, 1) := by decide +kernel
theorem dX6_free_20 : decode cX6_free 20 = .ok (.iload_n 3, 1) := by decide +kernel
theorem dX6_free_21 : decode cX6_free 21 = .ok (.aload_n 0, 1) := by decide +kernel
theorem dX6_free_22 : decode cX6_free 22 = .ok (.getfield 9, 3) := by decide +kernel
theorem dX6_free_25 : decode cX6_free 25 = .ok (.iconst 0, 1) := by decide +kernel
theorem dX6_free_26 : decode cX6_free 26 = .ok (.iaload, 1) := by decide +kernel
theorem dX6_free_27 : decode cX6_free 27 = .ok (.if_icmp .ge 34, 3) := by decide +kernel
theorem dX6_free_30 : decode cX6_free 30 = .ok (.iload_n 1, 1) := by decide +kernel
theorem dX6_free_31 : decode cX6_free 31 = .ok (.ifCond .ne 30, 3) := by decide +kernel
theorem dX6_free_34 : decode cX6_free 34 = .ok (.iload_n 2, 1) := by decide +kernel
theorem dX6_free_35 : decode cX6_free 35 = .ok (.aload_n 0, 1) := by decide +kernel
theorem dX6_free_36 : decode cX6_free 36 = .ok (.getfield 9, 3) := by decide +kernel
theorem dX6_free_39 : decode cX6_free 39 = .ok (.iload_n 3, 1) := by decide +kernel
theorem dX6_free_40 : decode cX6_free 40 = .ok (.invokestatic 80, 3) := by decide +kernel
theorem dX6_free_43 : decode cX6_free 43 = .ok (.ifCond .ge 9, 3) := by decide +kernel
theorem dX6_free_46 : decode cX6_free 46 = .ok (.iconst 1, 1) := by decide +kernel
theorem dX6_free_47 : decode cX6_free 47 = .ok (.iload_n 3, 1) := by decide +kernel
theorem dX6_free_48 : decode cX6_free 48 = .ok (.ishl, 1) := by decide +kernel
theorem dX6_free_49 : decode cX6_free 49 = .ok (.goto 4, 3) := by decide +kernel
theorem dX6_free_52 : decode cX6_free 52 = .ok (.iconst 0, 1) := by decide +kernel
theorem dX6_free_53 : decode cX6_free 53 = .ok (.ior, 1) := by decide +kernel
theorem dX6_free_54 : decode cX6_free 54 = .ok (.istore_n 2, 1) := by decide +kernel
theorem dX6_free_55 : decode cX6_free 55 = .ok (.iinc 3 1, 3) := by decide +kernel
theorem dX6_free_58 : decode cX6_free 58 = .ok (.goto (-38), 3) := by decide +kernel
theorem dX6_free_61 : decode cX6_free 61 = .ok (.iconst 0, 1) := by decide +kernel
theorem dX6_free_62 : decode cX6_free 62 = .ok (.istore_n 3, 1) := by decide +kernel
theorem dX6_free_63 : decode cX6_free 63 = .ok (.iload_n 3, 1) := by decide +kernel
theorem dX6_free_64 : decode cX6_free 64 = .ok (.aload_n 0, 1) := by decide +kernel
theorem dX6_free_65 : decode cX6_free 65 = .ok (.getfield 9, 3) := by decide +kernel
theorem dX6_free_68 : decode cX6_free 68 = .ok (.iconst 1, 1) := by decide +kernel
theorem dX6_free_69 : decode cX6_free 69 = .ok (.iaload, 1) := by decide +kernel
theorem dX6_free_70 : decode cX6_free 70 = .ok (.if_icmp .ge 59, 3) := by decide +kernel
theorem dX6_free_73 : decode cX6_free 73 = .ok (.iload_n 1, 1) := by decide +kernel
theorem dX6_free_74 : decode cX6_free 74 = .ok (.ifCond .le 55, 3) := by decide +kernel
theorem dX6_free_77 : decode cX6_free 77 = .ok (.iload_n 2, 1) := by decide +kernel
theorem dX6_free_78 : decode cX6_free 78 = .ok (.iload_n 1, 1) := by decide +kernel
theorem dX6_free_79 : decode cX6_free 79 = .ok (.iconst 1, 1) := by decide +kernel
theorem dX6_free_80 : decode cX6_free 80 = .ok (.if_icmp .ne 19, 3) := by decide +kernel
theorem dX6_free_83 : decode cX6_free 83 = .ok (.aload_n 0, 1) := by decide +kernel
theorem dX6_free_84 : decode cX6_free 84 = .ok (.getfield 9, 3) := by decide +kernel
theorem dX6_free_87 : decode cX6_free 87 = .ok (.iload_n 3, 1) := by decide +kernel
theorem dX6_free_88 : decode cX6_free 88 = .ok (.iconst 3, 1) := by decide +kernel
theorem dX6_free_89 : decode cX6_free 89 = .ok (.invokestatic 56, 3) := by decide +kernel
theorem dX6_free_92 : decode cX6_free 92 = .ok (.iaload, 1) := by decide +kernel
theorem dX6_free_93 : decode cX6_free 93 = .ok (.ifCond .ge 27, 3) := by decide +kernel
theorem dX6_free_96 : decode cX6_free 96 = .ok (.goto 18, 3) := by decide +kernel
theorem dX6_free_99 : decode cX6_free 99 = .ok (.aload_n 0, 1) := by decide +kernel
theorem dX6_free_100 : decode cX6_free 100 = .ok (.getfield 9, 3) := by decide +kernel
theorem dX6_free_103 : decode cX6_free 103 = .ok (.iload_n 3, 1) := by decide +kernel
theorem dX6_free_104 : decode cX6_free 104 = .ok (.iconst 2, 1) := by decide +kernel
theorem dX6_free_105 : decode cX6_free 105 = .ok (.invokestatic 56, 3) := by decide +kernel
theorem dX6_free_108 : decode cX6_free 108 = .ok (.iaload, 1) := by decide +kernel
theorem dX6_free_109 : decode cX6_free 109 = .ok (.bipush 10, 2) := by decide +kernel
theorem dX6_free_111 : decode cX6_free 111 = .ok (.if_icmp .lt 9, 3) := by decide +kernel
theorem dX6_free_114 : decode cX6_free 114 = .ok (.iconst 1, 1) := by decide +kernel
theorem dX6_free_115 : decode cX6_free 115 = .ok (.iload_n 3, 1) := by decide +kernel
theorem dX6_free_116 : decode cX6_free 116 = .ok (.ishl, 1) := by decide +kernel
theorem dX6_free_117 : decode cX6_free 117 = .ok (.goto 4, 3) := by decide +kernel
theorem dX6_free_120 : decode cX6_free 120 = .ok (.iconst 0, 1) := by decide +kernel
theorem dX6_free_121 : decode cX6_free 121 = .ok (.ior, 1) := by decide +kernel
theorem dX6_free_122 : decode cX6_free 122 = .ok (.istore_n 2, 1) := by decide +kernel
theorem dX6_free_123 : decode cX6_free 123 = .ok (.iinc 3 1, 3) := by decide +kernel
theorem dX6_free_126 : decode cX6_free 126 = .ok (.goto (-63), 3) := by decide +kernel
theorem dX6_free_129 : decode cX6_free 129 = .ok (.iload_n 2, 1) := by decide +kernel
theorem dX6_free_130 : decode cX6_free 130 = .ok (.ireturn, 1) := by decide +kernel
theorem dX6_even_0 : decode cX6_even 0 = .ok (.ldc 165, 2) := by decide +kernel
theorem dX6_even_2 : decode cX6_even 2 = .ok (.istore_n 1, 1) := by decide +kernel
theorem dX6_even_3 : decode cX6_even 3 = .ok (.iconst 0, 1) := by decide +kernel
theorem dX6_even_4 : decode cX6_even 4 = .ok (.istore_n 2, 1) := by decide +kernel
theorem dX6_even_5 : decode cX6_even 5 = .ok (.iconst 0, 1) := by decide +kernel
theorem dX6_even_6 : decode cX6_even 6 = .ok (.istore_n 3, 1) := by decide +kernel
theorem dX6_even_7 : decode cX6_even 7 = .ok (.iload_n 3, 1) := by decide +kernel
theorem dX6_even_8 : decode cX6_even 8 = .ok (.aload_n 0, 1) := by decide +kernel
theorem dX6_even_9 : decode cX6_even 9 = .ok (.getfield 9, 3) := by decide +kernel
theorem dX6_even_12 : decode cX6_even 12 = .ok (.iconst 0, 1) := by decide +kernel
theorem dX6_even_13 : decode cX6_even 13 = .ok (.iaload, 1) := by decide +kernel
theorem dX6_even_14 : decode cX6_even 14 = .ok (.if_icmp .ge 59, 3) := by decide +kernel
theorem dX6_even_17 : decode cX6_even 17 = .ok (.aload_n 0, 1) := by decide +kernel
theorem dX6_even_18 : decode cX6_even 18 = .ok (.getfield 9, 3) := by decide +kernel
theorem dX6_even_21 : decode cX6_even 21 = .ok (.iload_n 3, 1) := by decide +kernel
theorem dX6_even_22 : decode cX6_even 22 = .ok (.invokestatic 88, 3) := by decide +kernel
theorem dX6_even_25 : decode cX6_even 25 = .ok (.iload_n 1, 1) := by decide +kernel
theorem dX6_even_26 : decode cX6_even 26 = .ok (.if_icmp .ge 14, 3) := by decide +kernel
theorem dX6_even_29 : decode cX6_even 29 = .ok (.aload_n 0, 1) := by decide +kernel
theorem dX6_even_30 : decode cX6_even 30 = .ok (.getfield 9, 3) := by decide +kernel
theorem dX6_even_33 : decode cX6_even 33 = .ok (.iload_n 3, 1) := by decide +kernel
theorem dX6_even_34 : decode cX6_even 34 = .ok (.invokestatic 88, 3) := by decide +kernel
theorem dX6_even_37 : decode cX6_even 37 = .ok (.goto 4, 3) := by decide +kernel
theorem dX6_even_40 : decode cX6_even 40 = .ok (.iload_n 1, 1) := by decide +kernel
theorem dX6_even_41 : decode cX6_even 41 = .ok (.istore_n 1, 1) := by decide +kernel
theorem dX6_even_42 : decode cX6_even 42 = .ok (.aload_n 0, 1) := by decide +kernel
theorem dX6_even_43 : decode cX6_even 43 = .ok (.getfield 9, 3) := by decide +kernel
theorem dX6_even_46 : decode cX6_even 46 = .ok (.iload_n 3, 1) := by decide +kernel
theorem dX6_even_47 : decode cX6_even 47 = .ok (.invokestatic 88, 3) := by decide +kernel
theorem dX6_even_50 : decode cX6_even 50 = .ok (.iload_n 2, 1) := by decide +kernel
theorem dX6_even_51 : decode cX6_even 51 = .ok (.if_icmp .le 14, 3) := by decide +kernel
theorem dX6_even_54 : decode cX6_even 54 = .ok (.aload_n 0, 1) := by decide +kernel
theorem dX6_even_55 : decode cX6_even 55 = .ok (.getfield 9, 3) := by decide +kernel
theorem dX6_even_58 : decode cX6_even 58 = .ok (.iload_n 3, 1) := by decide +kernel
theorem dX6_even_59 : decode cX6_even 59 = .ok (.invokestatic 88, 3) := by decide +kernel
theorem dX6_even_62 : decode cX6_even 62 = .ok (.goto 4, 3) := by decide +kernel
theorem dX6_even_65 : decode cX6_even 65 = .ok (.iload_n 2, 1) := by decide +kernel
theorem dX6_even_66 : decode cX6_even 66 = .ok (.istore_n 2, 1) := by decide +kernel
theorem dX6_even_67 : decode cX6_even 67 = .ok (.iinc 3 1, 3) := by decide +kernel
theorem dX6_even_70 : decode cX6_even 70 = .ok (.goto (-63), 3) := by decide +kernel
theorem dX6_even_73 : decode cX6_even 73 = .ok (.aload_n 0, 1) := by decide +kernel
theorem dX6_even_74 : decode cX6_even 74 = .ok (.getfield 9, 3) := by decide +kernel
theorem dX6_even_77 : decode cX6_even 77 = .ok (.iconst 0, 1) := by decide +kernel
theorem dX6_even_78 : decode cX6_even 78 = .ok (.iaload, 1) := by decide +kernel
theorem dX6_even_79 : decode cX6_even 79 = .ok (.ifCond .ne 7, 3) := by decide +kernel
theorem dX6_even_82 : decode cX6_even 82 = .ok (.iconst 0, 1) := by decide +kernel
theorem dX6_even_83 : decode cX6_even 83 = .ok (.goto 6, 3) := by decide +kernel
theorem dX6_even_86 : decode cX6_even 86 = .ok (.iload_n 2, 1) := by decide +kernel
theorem dX6_even_87 : decode cX6_even 87 = .ok (.iload_n 1, 1) := by decide +kernel
theorem dX6_even_88 : decode cX6_even 88 = .ok (.isub, 1) := by decide +kernel
theorem dX6_even_89 : decode cX6_even 89 = .ok (.ireturn, 1) := by decide +kernel
theorem dX6_ownBy_0 : decode cX6_ownBy 0 = .ok (.aload_n 0, 1) := by decide +kernel
theorem dX6_ownBy_1 : decode cX6_ownBy 1 = .ok (.getfield 9, 3) := by decide +kernel
theorem dX6_ownBy_4 : decode cX6_ownBy 4 = .ok (.aload_n 0, 1) := by decide +kernel
theorem dX6_ownBy_5 : decode cX6_ownBy 5 = .ok (.getfield 13, 3) := by decide +kernel
theorem dX6_ownBy_8 : decode cX6_ownBy 8 = .ok (.invokestatic 130, 3) := by decide +kernel
theorem dX6_ownBy_11 : decode cX6_ownBy 11 = .ok (.iload_n 3, 1) := by decide +kernel
theorem dX6_ownBy_12 : decode cX6_ownBy 12 = .ok (.iconst 1, 1) := by decide +kernel
theorem dX6_ownBy_13 : decode cX6_ownBy 13 = .ok (.if_icmp .ne 15, 3) := by decide +kernel
theorem dX6_ownBy_16 : decode cX6_ownBy 16 = .ok (.aload_n 0, 1) := by decide +kernel
theorem dX6_ownBy_17 : decode cX6_ownBy 17 = .ok (.getfield 13, 3) := by decide +kernel
theorem dX6_ownBy_20 : decode cX6_ownBy 20 = .ok (.iload_n 2, 1) := by decide +kernel
theorem dX6_ownBy_21 : decode cX6_ownBy 21 = .ok (.iconst 3, 1) := by decide +kernel
theorem dX6_ownBy_22 : decode cX6_ownBy 22 = .ok (.invokestatic 56, 3) := by decide +kernel
theorem dX6_ownBy_25 : decode cX6_ownBy 25 = .ok (.bipush (-9), 2) := by decide +kernel
theorem dX6_ownBy_27 : decode cX6_ownBy 27 = .ok (.iastore, 1) := by decide +kernel
theorem dX6_ownBy_28 : decode cX6_ownBy 28 = .ok (.iload 5, 2) := by decide +kernel
theorem dX6_ownBy_30 : decode cX6_ownBy 30 = .ok (.iconst 1, 1) := by decide +kernel
theorem dX6_ownBy_31 : decode cX6_ownBy 31 = .ok (.if_icmp .ne 16, 3) := by decide +kernel
theorem dX6_ownBy_34 : decode cX6_ownBy 34 = .ok (.aload_n 0, 1) := by decide +kernel
theorem dX6_ownBy_35 : decode cX6_ownBy 35 = .ok (.getfield 13, 3) := by decide +kernel
theorem dX6_ownBy_38 : decode cX6_ownBy 38 = .ok (.iload 4, 2) := by decide +kernel
theorem dX6_ownBy_40 : decode cX6_ownBy 40 = .ok (.iconst 3, 1) := by decide +kernel
theorem dX6_ownBy_41 : decode cX6_ownBy 41 = .ok (.invokestatic 56, 3) := by decide +kernel
theorem dX6_ownBy_44 : decode cX6_ownBy 44 = .ok (.bipush (-9), 2) := by decide +kernel
theorem dX6_ownBy_46 : decode cX6_ownBy 46 = .ok (.iastore, 1) := by decide +kernel
theorem dX6_ownBy_47 : decode cX6_ownBy 47 = .ok (.aload_n 0, 1) := by decide +kernel
theorem dX6_ownBy_48 : decode cX6_ownBy 48 = .ok (.aload_n 0, 1) := by decide +kernel
theorem dX6_ownBy_49 : decode cX6_ownBy 49 = .ok (.getfield 13, 3) := by decide +kernel
theorem dX6_ownBy_52 : decode cX6_ownBy 52 = .ok (.iload 6, 2) := by decide +kernel
theorem dX6_ownBy_54 : decode cX6_ownBy 54 = .ok (.invokevirtual 124, 3) := by decide +kernel
theorem dX6_ownBy_57 : decode cX6_ownBy 57 = .ok (.istore 7, 2) := by decide +kernel
theorem dX6_ownBy_59 : decode cX6_ownBy 59 = .ok (.aload_n 0, 1) := by decide +kernel
theorem dX6_ownBy_60 : decode cX6_ownBy 60 = .ok (.getfield 25, 3) := by decide +kernel
theorem dX6_ownBy_63 : decode cX6_ownBy 63 = .ok (.iload_n 1, 1) := by decide +kernel
theorem dX6_ownBy_64 : decode cX6_ownBy 64 = .ok (.iaload, 1) := by decide +kernel
theorem dX6_ownBy_65 : decode cX6_ownBy 65 = .ok (.aload_n 0, 1) := by decide +kernel
theorem dX6_ownBy_66 : decode cX6_ownBy 66 = .ok (.getfield 13, 3) := by decide +kernel
theorem dX6_ownBy_69 : decode cX6_ownBy 69 = .ok (.iload_n 1, 1) := by decide +kernel
theorem dX6_ownBy_70 : decode cX6_ownBy 70 = .ok (.iconst 2, 1) := by decide +kernel
theorem dX6_ownBy_71 : decode cX6_ownBy 71 = .ok (.invokestatic 56, 3) := by decide +kernel
theorem dX6_ownBy_74 : decode cX6_ownBy 74 = .ok (.iaload, 1) := by decide +kernel
theorem dX6_ownBy_75 : decode cX6_ownBy 75 = .ok (.isub, 1) := by decide +kernel
theorem dX6_ownBy_76 : decode cX6_ownBy 76 = .ok (.ireturn, 1) := by decide +kernel
theorem dX6_two_0 : decode cX6_two 0 = .ok (.aload_n 0, 1) := by decide +kernel
theorem dX6_two_1 : decode cX6_two 1 = .ok (.iload_n 1, 1) := by decide +kernel
theorem dX6_two_2 : decode cX6_two 2 = .ok (.invokevirtual 113, 3) := by decide +kernel
theorem dX6_two_5 : decode cX6_two 5 = .ok (.ifCond .eq 26, 3) := by decide +kernel
theorem dX6_two_8 : decode cX6_two 8 = .ok (.aload_n 0, 1) := by decide +kernel
theorem dX6_two_9 : decode cX6_two 9 = .ok (.iload_n 2, 1) := by decide +kernel
theorem dX6_two_10 : decode cX6_two 10 = .ok (.invokevirtual 113, 3) := by decide +kernel
theorem dX6_two_13 : decode cX6_two 13 = .ok (.ifCond .eq 18, 3) := by decide +kernel
theorem dX6_two_16 : decode cX6_two 16 = .ok (.iload_n 1, 1) := by decide +kernel
theorem dX6_two_17 : decode cX6_two 17 = .ok (.iload_n 2, 1) := by decide +kernel
theorem dX6_two_18 : decode cX6_two 18 = .ok (.if_icmp .eq 13, 3) := by decide +kernel
theorem dX6_two_21 : decode cX6_two 21 = .ok (.iload_n 3, 1) := by decide +kernel
theorem dX6_two_22 : decode cX6_two 22 = .ok (.iconst 1, 1) := by decide +kernel
theorem dX6_two_23 : decode cX6_two 23 = .ok (.bipush 30, 2) := by decide +kernel
theorem dX6_two_25 : decode cX6_two 25 = .ok (.invokestatic 137, 3) := by decide +kernel
theorem dX6_two_28 : decode cX6_two 28 = .ok (.goto 4, 3) := by decide +kernel
theorem dX6_two_31 : decode cX6_two 31 = .ok (.iconst (-1), 1) := by decide +kernel
theorem dX6_two_32 : decode cX6_two 32 = .ok (.istore 4, 2) := by decide +kernel
theorem dX6_two_34 : decode cX6_two 34 = .ok (.iload 4, 2) := by decide +kernel
theorem dX6_two_36 : decode cX6_two 36 = .ok (.ifCond .eq 10, 3) := by decide +kernel
theorem dX6_two_39 : decode cX6_two 39 = .ok (.aload_n 0, 1) := by decide +kernel
theorem dX6_two_40 : decode cX6_two 40 = .ok (.iload 4, 2) := by decide +kernel
theorem dX6_two_42 : decode cX6_two 42 = .ok (.invokevirtual 48, 3) := by decide +kernel
theorem dX6_two_45 : decode cX6_two 45 = .ok (.ireturn, 1) := by decide +kernel
theorem dX6_two_46 : decode cX6_two 46 = .ok (.iconst 0, 1) := by decide +kernel
theorem dX6_two_47 : decode cX6_two 47 = .ok (.istore 5, 2) := by decide +kernel
theorem dX6_two_49 : decode cX6_two 49 = .ok (.iload 5, 2) := by decide +kernel
theorem dX6_two_51 : decode cX6_two 51 = .ok (.iconst 4, 1) := by decide +kernel
theorem dX6_two_52 : decode cX6_two 52 = .ok (.if_icmp .ge 88, 3) := by decide +kernel
theorem dX6_two_55 : decode cX6_two 55 = .ok (.iload 5, 2) := by decide +kernel
theorem dX6_two_57 : decode cX6_two 57 = .ok (.iconst 2, 1) := by decide +kernel
theorem dX6_two_58 : decode cX6_two 58 = .ok (.idiv, 1) := by decide +kernel
theorem dX6_two_59 : decode cX6_two 59 = .ok (.istore 6, 2) := by decide +kernel
theorem dX6_two_61 : decode cX6_two 61 = .ok (.iload 5, 2) := by decide +kernel
theorem dX6_two_63 : decode cX6_two 63 = .ok (.iconst 2, 1) := by decide +kernel
theorem dX6_two_64 : decode cX6_two 64 = .ok (.irem, 1) := by decide +kernel
theorem dX6_two_65 : decode cX6_two 65 = .ok (.istore 7, 2) := by decide +kernel
theorem dX6_two_67 : decode cX6_two 67 = .ok (.aload_n 0, 1) := by decide +kernel
theorem dX6_two_68 : decode cX6_two 68 = .ok (.iload_n 1, 1) := by decide +kernel
theorem dX6_two_69 : decode cX6_two 69 = .ok (.iload_n 1, 1) := by decide +kernel
theorem dX6_two_70 : decode cX6_two 70 = .ok (.iconst 1, 1) := by decide +kernel
theorem dX6_two_71 : decode cX6_two 71 = .ok (.iload 6, 2) := by decide +kernel
theorem dX6_two_73 : decode cX6_two 73 = .ok (.isub, 1) := by decide +kernel
theorem dX6_two_74 : decode cX6_two 74 = .ok (.iload_n 2, 1) := by decide +kernel
theorem dX6_two_75 : decode cX6_two 75 = .ok (.iload 7, 2) := by decide +kernel
theorem dX6_two_77 : decode cX6_two 77 = .ok (.iload_n 3, 1) := by decide +kernel
theorem dX6_two_78 : decode cX6_two 78 = .ok (.invokevirtual 166, 3) := by decide +kernel
theorem dX6_two_81 : decode cX6_two 81 = .ok (.aload_n 0, 1) := by decide +kernel
theorem dX6_two_82 : decode cX6_two 82 = .ok (.iload_n 1, 1) := by decide +kernel
theorem dX6_two_83 : decode cX6_two 83 = .ok (.iload_n 1, 1) := by decide +kernel
theorem dX6_two_84 : decode cX6_two 84 = .ok (.iload 6, 2) := by decide +kernel
theorem dX6_two_86 : decode cX6_two 86 = .ok (.iload_n 2, 1) := by decide +kernel
theorem dX6_two_87 : decode cX6_two 87 = .ok (.iload 7, 2) := by decide +kernel
theorem dX6_two_89 : decode cX6_two 89 = .ok (.iload_n 3, 1) := by decide +kernel
theorem dX6_two_90 : decode cX6_two 90 = .ok (.invokevirtual 166, 3) := by decide +kernel
theorem dX6_two_93 : decode cX6_two 93 = .ok (.if_icmp .gt 41, 3) := by decide +kernel
theorem dX6_two_96 : decode cX6_two 96 = .ok (.aload_n 0, 1) := by decide +kernel
theorem dX6_two_97 : decode cX6_two 97 = .ok (.iload_n 2, 1) := by decide +kernel
theorem dX6_two_98 : decode cX6_two 98 = .ok (.iload_n 1, 1) := by decide +kernel
theorem dX6_two_99 : decode cX6_two 99 = .ok (.iload 6, 2) := by decide +kernel
theorem dX6_two_101 : decode cX6_two 101 = .ok (.iload_n 2, 1) := by decide +kernel
theorem dX6_two_102 : decode cX6_two 102 = .ok (.iconst 1, 1) := by decide +kernel
theorem dX6_two_103 : decode cX6_two 103 = .ok (.iload 7, 2) := by decide +kernel
theorem dX6_two_105 : decode cX6_two 105 = .ok (.isub, 1) := by decide +kernel
theorem dX6_two_106 : decode cX6_two 106 = .ok (.iload_n 3, 1) := by decide +kernel
theorem dX6_two_107 : decode cX6_two 107 = .ok (.invokevirtual 166, 3) := by decide +kernel
theorem dX6_two_110 : decode cX6_two 110 = .ok (.aload_n 0, 1) := by decide +kernel
theorem dX6_two_111 : decode cX6_two 111 = .ok (.iload_n 2, 1) := by decide +kernel
theorem dX6_two_112 : decode cX6_two 112 = .ok (.iload_n 1, 1) := by decide +kernel
theorem dX6_two_113 : decode cX6_two 113 = .ok (.iload 6, 2) := by decide +kernel
theorem dX6_two_115 : decode cX6_two 115 = .ok (.iload_n 2, 1) := by decide +kernel
theorem dX6_two_116 : decode cX6_two 116 = .ok (.iload 7, 2) := by decide +kernel
theorem dX6_two_118 : decode cX6_two 118 = .ok (.iload_n 3, 1) := by decide +kernel
theorem dX6_two_119 : decode cX6_two 119 = .ok (.invokevirtual 166, 3) := by decide +kernel
theorem dX6_two_122 : decode cX6_two 122 = .ok (.if_icmp .gt 12, 3) := by decide +kernel
theorem dX6_two_125 : decode cX6_two 125 = .ok (.bipush 10, 2) := by decide +kernel
theorem dX6_two_127 : decode cX6_two 127 = .ok (.iload 6, 2) := by decide +kernel
theorem dX6_two_129 : decode cX6_two 129 = .ok (.imul, 1) := by decide +kernel
theorem dX6_two_130 : decode cX6_two 130 = .ok (.iload 7, 2) := by decide +kernel
theorem dX6_two_132 : decode cX6_two 132 = .ok (.iadd, 1) := by decide +kernel
theorem dX6_two_133 : decode cX6_two 133 = .ok (.ireturn, 1) := by decide +kernel
theorem dX6_two_134 : decode cX6_two 134 = .ok (.iinc 5 1, 3) := by decide +kernel
theorem dX6_two_137 : decode cX6_two 137 = .ok (.goto (-88), 3) := by decide +kernel
theorem dX6_two_140 : decode cX6_two 140 = .ok (.bipush (-9), 2) := by decide +kernel
theorem dX6_two_142 : decode cX6_two 142 = .ok (.ireturn, 1) := by decide +kernel
theorem dX6_gcd_0 : decode cX6_gcd 0 = .ok (.lload_n 0, 1) := by decide +kernel
theorem dX6_gcd_1 : decode cX6_gcd 1 = .ok (.lstore 4, 2) := by decide +kernel
theorem dX6_gcd_3 : decode cX6_gcd 3 = .ok (.lload_n 2, 1) := by decide +kernel
theorem dX6_gcd_4 : decode cX6_gcd 4 = .ok (.lstore 6, 2) := by decide +kernel
theorem dX6_gcd_6 : decode cX6_gcd 6 = .ok (.lload 6, 2) := by decide +kernel
theorem dX6_gcd_8 : decode cX6_gcd 8 = .ok (.lconst 0, 1) := by decide +kernel
theorem dX6_gcd_9 : decode cX6_gcd 9 = .ok (.lcmp, 1) := by decide +kernel
theorem dX6_gcd_10 : decode cX6_gcd 10 = .ok (.ifCond .eq 21, 3) := by decide +kernel
theorem dX6_gcd_13 : decode cX6_gcd 13 = .ok (.lload 4, 2) := by decide +kernel
theorem dX6_gcd_15 : decode cX6_gcd 15 = .ok (.lload 6, 2) := by decide +kernel
theorem dX6_gcd_17 : decode cX6_gcd 17 = .ok (.lrem, 1) := by decide +kernel
theorem dX6_gcd_18 : decode cX6_gcd 18 = .ok (.lstore 8, 2) := by decide +kernel
theorem dX6_gcd_20 : decode cX6_gcd 20 = .ok (.lload 6, 2) := by decide +kernel
theorem dX6_gcd_22 : decode cX6_gcd 22 = .ok (.lstore 4, 2) := by decide +kernel
theorem dX6_gcd_24 : decode cX6_gcd 24 = .ok (.lload 8, 2) := by decide +kernel
theorem dX6_gcd_26 : decode cX6_gcd 26 = .ok (.lstore 6, 2) := by decide +kernel
theorem dX6_gcd_28 : decode cX6_gcd 28 = .ok (.goto (-22), 3) := by decide +kernel
theorem dX6_gcd_31 : decode cX6_gcd 31 = .ok (.lload 4, 2) := by decide +kernel
theorem dX6_gcd_33 : decode cX6_gcd 33 = .ok (.lreturn, 1) := by decide +kernel
theorem dX6_partOf_0 : decode cX6_partOf 0 = .ok (.lload_n 0, 1) := by decide +kernel
theorem dX6_partOf_1 : decode cX6_partOf 1 = .ok (.lconst 0, 1) := by decide +kernel
theorem dX6_partOf_2 : decode cX6_partOf 2 = .ok (.lcmp, 1) := by decide +kernel
theorem dX6_partOf_3 : decode cX6_partOf 3 = .ok (.ifCond .ne 7, 3) := by decide +kernel
theorem dX6_partOf_6 : decode cX6_partOf 6 = .ok (.iload 4, 2) := by decide +kernel
theorem dX6_partOf_8 : decode cX6_partOf 8 = .ok (.i2l, 1) := by decide +kernel
theorem dX6_partOf_9 : decode cX6_partOf 9 = .ok (.lreturn, 1) := by decide +kernel
theorem dX6_partOf_10 : decode cX6_partOf 10 = .ok (.iload 4, 2) := by decide +kernel
theorem dX6_partOf_12 : decode cX6_partOf 12 = .ok (.ifCond .ne 7, 3) := by decide +kernel
theorem dX6_partOf_15 : decode cX6_partOf 15 = .ok (.lload_n 0, 1) := by decide +kernel
theorem dX6_partOf_16 : decode cX6_partOf 16 = .ok (.goto 4, 3) := by decide +kernel
theorem dX6_partOf_19 : decode cX6_partOf 19 = .ok (.lload_n 2, 1) := by decide +kernel
theorem dX6_partOf_20 : decode cX6_partOf 20 = .ok (.lload_n 0, 1) := by decide +kernel
theorem dX6_partOf_21 : decode cX6_partOf 21 = .ok (.lload_n 2, 1) := by decide +kernel
theorem dX6_partOf_22 : decode cX6_partOf 22 = .ok (.invokestatic 170, 3) := by decide +kernel
theorem dX6_partOf_25 : decode cX6_partOf 25 = .ok (.ldiv, 1) := by decide +kernel
theorem dX6_partOf_26 : decode cX6_partOf 26 = .ok (.lreturn, 1) := by decide +kernel
theorem dX6_frost_0 : decode cX6_frost 0 = .ok (.iload_n 1, 1) := by decide +kernel
theorem dX6_frost_1 : decode cX6_frost 1 = .ok (.ifCond .lt 12, 3) := by decide +kernel
theorem dX6_frost_4 : decode cX6_frost 4 = .ok (.iload_n 3, 1) := by decide +kernel
theorem dX6_frost_5 : decode cX6_frost 5 = .ok (.ifCond .lt 8, 3) := by decide +kernel
theorem dX6_frost_8 : decode cX6_frost 8 = .ok (.iload_n 2, 1) := by decide +kernel
theorem dX6_frost_9 : decode cX6_frost 9 = .ok (.iconst 2, 1) := by decide +kernel
theorem dX6_frost_10 : decode cX6_frost 10 = .ok (.if_icmp .ge 10, 3) := by decide +kernel
theorem dX6_frost_13 : decode cX6_frost 13 = .ok (.aload_n 0, 1) := by decide +kernel
theorem dX6_frost_14 : decode cX6_frost 14 = .ok (.bipush (-4), 2) := by decide +kernel
theorem dX6_frost_16 : decode cX6_frost 16 = .ok (.invokevirtual 174, 3) := by decide +kernel
theorem dX6_frost_19 : decode cX6_frost 19 = .ok (.lreturn, 1) := by decide +kernel
theorem dX6_frost_20 : decode cX6_frost 20 = .ok (.iload_n 1, 1) := by decide +kernel
theorem dX6_frost_21 : decode cX6_frost 21 = .ok (.bipush 7, 2) := by decide +kernel
theorem dX6_frost_23 : decode cX6_frost 23 = .ok (.if_icmp .gt 16, 3) := by decide +kernel
theorem dX6_frost_26 : decode cX6_frost 26 = .ok (.iload_n 2, 1) := by decide +kernel
theorem dX6_frost_27 : decode cX6_frost 27 = .ok (.bipush 20, 2) := by decide +kernel
theorem dX6_frost_29 : decode cX6_frost 29 = .ok (.if_icmp .gt 10, 3) := by decide +kernel
theorem dX6_frost_32 : decode cX6_frost 32 = .ok (.iload_n 3, 1) := by decide +kernel
theorem dX6_frost_33 : decode cX6_frost 33 = .ok (.sipush 999, 3) := by decide +kernel
theorem dX6_frost_36 : decode cX6_frost 36 = .ok (.if_icmp .le 10, 3) := by decide +kernel
theorem dX6_frost_39 : decode cX6_frost 39 = .ok (.aload_n 0, 1) := by decide +kernel
theorem dX6_frost_40 : decode cX6_frost 40 = .ok (.bipush (-6), 2) := by decide +kernel
theorem dX6_frost_42 : decode cX6_frost 42 = .ok (.invokevirtual 174, 3) := by decide +kernel
theorem dX6_frost_45 : decode cX6_frost 45 = .ok (.lreturn, 1) := by decide +kernel
theorem dX6_frost_46 : decode cX6_frost 46 = .ok (.iload 4, 2) := by decide +kernel
theorem dX6_frost_48 : decode cX6_frost 48 = .ok (.iconst 0, 1) := by decide +kernel
theorem dX6_frost_49 : decode cX6_frost 49 = .ok (.iconst 1, 1) := by decide +kernel
theorem dX6_frost_50 : decode cX6_frost 50 = .ok (.invokestatic 52, 3) := by decide +kernel
theorem dX6_frost_53 : decode cX6_frost 53 = .ok (.ifCond .ne 10, 3) := by decide +kernel
theorem dX6_frost_56 : decode cX6_frost 56 = .ok (.aload_n 0, 1) := by decide +kernel
theorem dX6_frost_57 : decode cX6_frost 57 = .ok (.bipush (-2), 2) := by decide +kernel
theorem dX6_frost_59 : decode cX6_frost 59 = .ok (.invokevirtual 174, 3) := by decide +kernel
theorem dX6_frost_62 : decode cX6_frost 62 = .ok (.lreturn, 1) := by decide +kernel
theorem dX6_frost_63 : decode cX6_frost 63 = .ok (.lconst 0, 1) := by decide +kernel
theorem dX6_frost_64 : decode cX6_frost 64 = .ok (.lstore 5, 2) := by decide +kernel
theorem dX6_frost_66 : decode cX6_frost 66 = .ok (.lconst 1, 1) := by decide +kernel
theorem dX6_frost_67 : decode cX6_frost 67 = .ok (.lstore 7, 2) := by decide +kernel
theorem dX6_frost_69 : decode cX6_frost 69 = .ok (.iconst 0, 1) := by decide +kernel
theorem dX6_frost_70 : decode cX6_frost 70 = .ok (.istore 9, 2) := by decide +kernel
theorem dX6_frost_72 : decode cX6_frost 72 = .ok (.iload 9, 2) := by decide +kernel
theorem dX6_frost_74 : decode cX6_frost 74 = .ok (.iload_n 1, 1) := by decide +kernel
theorem dX6_frost_75 : decode cX6_frost 75 = .ok (.if_icmp .ge 16, 3) := by decide +kernel
theorem dX6_frost_78 : decode cX6_frost 78 = .ok (.lload 7, 2) := by decide +kernel
theorem dX6_frost_80 : decode cX6_frost 80 = .ok (.iload_n 2, 1) := by decide +kernel
theorem dX6_frost_81 : decode cX6_frost 81 = .ok (.i2l, 1) := by decide +kernel
theorem dX6_frost_82 : decode cX6_frost 82 = .ok (.lmul, 1) := by decide +kernel
theorem dX6_frost_83 : decode cX6_frost 83 = .ok (.lstore 7, 2) := by decide +kernel
theorem dX6_frost_85 : decode cX6_frost 85 = .ok (.iinc 9 1, 3) := by decide +kernel
theorem dX6_frost_88 : decode cX6_frost 88 = .ok (.goto (-16), 3) := by decide +kernel
theorem dX6_frost_91 : decode cX6_frost 91 = .ok (.iconst 0, 1) := by decide +kernel
theorem dX6_frost_92 : decode cX6_frost 92 = .ok (.istore 9, 2) := by decide +kernel
theorem dX6_frost_94 : decode cX6_frost 94 = .ok (.iload 9, 2) := by decide +kernel
theorem dX6_frost_96 : decode cX6_frost 96 = .ok (.iconst 1, 1) := by decide +kernel
theorem dX6_frost_97 : decode cX6_frost 97 = .ok (.iload_n 1, 1) := by decide +kernel
theorem dX6_frost_98 : decode cX6_frost 98 = .ok (.ishl, 1) := by decide +kernel
theorem dX6_frost_99 : decode cX6_frost 99 = .ok (.if_icmp .ge 101, 3) := by decide +kernel
theorem dX6_frost_102 : decode cX6_frost 102 = .ok (.lconst 1, 1) := by decide +kernel
theorem dX6_frost_103 : decode cX6_frost 103 = .ok (.lstore 10, 2) := by decide +kernel
theorem dX6_frost_105 : decode cX6_frost 105 = .ok (.iconst 0, 1) := by decide +kernel
theorem dX6_frost_106 : decode cX6_frost 106 = .ok (.istore 12, 2) := by decide +kernel
theorem dX6_frost_108 : decode cX6_frost 108 = .ok (.aload_n 0, 1) := by decide +kernel
theorem dX6_frost_109 : decode cX6_frost 109 = .ok (.getfield 9, 3) := by decide +kernel
theorem dX6_frost_112 : decode cX6_frost 112 = .ok (.aload_n 0, 1) := by decide +kernel
theorem dX6_frost_113 : decode cX6_frost 113 = .ok (.getfield 13, 3) := by decide +kernel
theorem dX6_frost_116 : decode cX6_frost 116 = .ok (.invokestatic 130, 3) := by decide +kernel
theorem dX6_frost_119 : decode cX6_frost 119 = .ok (.iconst 0, 1) := by decide +kernel
theorem dX6_frost_120 : decode cX6_frost 120 = .ok (.istore 13, 2) := by decide +kernel
theorem dX6_frost_122 : decode cX6_frost 122 = .ok (.iload 13, 2) := by decide +kernel
theorem dX6_frost_124 : decode cX6_frost 124 = .ok (.iload_n 1, 1) := by decide +kernel
theorem dX6_frost_125 : decode cX6_frost 125 = .ok (.if_icmp .ge 52, 3) := by decide +kernel
theorem dX6_frost_128 : decode cX6_frost 128 = .ok (.lload 10, 2) := by decide +kernel
theorem dX6_frost_130 : decode cX6_frost 130 = .ok (.iload 9, 2) := by decide +kernel
theorem dX6_frost_132 : decode cX6_frost 132 = .ok (.iload 13, 2) := by decide +kernel
theorem dX6_frost_134 : decode cX6_frost 134 = .ok (.invokestatic 151, 3) := by decide +kernel
theorem dX6_frost_137 : decode cX6_frost 137 = .ok (.ifCond .eq 7, 3) := by decide +kernel
theorem dX6_frost_140 : decode cX6_frost 140 = .ok (.lconst 1, 1) := by decide +kernel
theorem dX6_frost_141 : decode cX6_frost 141 = .ok (.goto 7, 3) := by decide +kernel
theorem dX6_frost_144 : decode cX6_frost 144 = .ok (.iload_n 2, 1) := by decide +kernel
theorem dX6_frost_145 : decode cX6_frost 145 = .ok (.iconst 1, 1) := by decide +kernel
theorem dX6_frost_146 : decode cX6_frost 146 = .ok (.isub, 1) := by decide +kernel
theorem dX6_frost_147 : decode cX6_frost 147 = .ok (.i2l, 1) := by decide +kernel
theorem dX6_frost_148 : decode cX6_frost 148 = .ok (.lmul, 1) := by decide +kernel
theorem dX6_frost_149 : decode cX6_frost 149 = .ok (.lstore 10, 2) := by decide +kernel
theorem dX6_frost_151 : decode cX6_frost 151 = .ok (.iload 12, 2) := by decide +kernel
theorem dX6_frost_153 : decode cX6_frost 153 = .ok (.aload_n 0, 1) := by decide +kernel
theorem dX6_frost_154 : decode cX6_frost 154 = .ok (.aload_n 0, 1) := by decide +kernel
theorem dX6_frost_155 : decode cX6_frost 155 = .ok (.getfield 13, 3) := by decide +kernel
theorem dX6_frost_158 : decode cX6_frost 158 = .ok (.iload 9, 2) := by decide +kernel
theorem dX6_frost_160 : decode cX6_frost 160 = .ok (.iload 13, 2) := by decide +kernel
theorem dX6_frost_162 : decode cX6_frost 162 = .ok (.invokestatic 151, 3) := by decide +kernel
theorem dX6_frost_165 : decode cX6_frost 165 = .ok (.invokevirtual 84, 3) := by decide +kernel
theorem dX6_frost_168 : decode cX6_frost 168 = .ok (.iadd, 1) := by decide +kernel
theorem dX6_frost_169 : decode cX6_frost 169 = .ok (.istore 12, 2) := by decide +kernel
theorem dX6_frost_171 : decode cX6_frost 171 = .ok (.iinc 13 1, 3) := by decide +kernel
theorem dX6_frost_174 : decode cX6_frost 174 = .ok (.goto (-52), 3) := by decide +kernel
theorem dX6_frost_177 : decode cX6_frost 177 = .ok (.lload 5, 2) := by decide +kernel
theorem dX6_frost_179 : decode cX6_frost 179 = .ok (.iload 12, 2) := by decide +kernel
theorem dX6_frost_181 : decode cX6_frost 181 = .ok (.iload_n 3, 1) := by decide +kernel
theorem dX6_frost_182 : decode cX6_frost 182 = .ok (.if_icmp .lt 8, 3) := by decide +kernel
theorem dX6_frost_185 : decode cX6_frost 185 = .ok (.lload 10, 2) := by decide +kernel
theorem dX6_frost_187 : decode cX6_frost 187 = .ok (.goto 4, 3) := by decide +kernel
theorem dX6_frost_190 : decode cX6_frost 190 = .ok (.lconst 0, 1) := by decide +kernel
theorem dX6_frost_191 : decode cX6_frost 191 = .ok (.ladd, 1) := by decide +kernel
theorem dX6_frost_192 : decode cX6_frost 192 = .ok (.lstore 5, 2) := by decide +kernel
theorem dX6_frost_194 : decode cX6_frost 194 = .ok (.iinc 9 1, 3) := by decide +kernel
theorem dX6_frost_197 : decode cX6_frost 197 = .ok (.goto (-103), 3) := by decide +kernel
theorem dX6_frost_200 : decode cX6_frost 200 = .ok (.lload 5, 2) := by decide +kernel
theorem dX6_frost_202 : decode cX6_frost 202 = .ok (.lload 7, 2) := by decide +kernel
theorem dX6_frost_204 : decode cX6_frost 204 = .ok (.iload 4, 2) := by decide +kernel
theorem dX6_frost_206 : decode cX6_frost 206 = .ok (.invokestatic 178, 3) := by decide +kernel
theorem dX6_frost_209 : decode cX6_frost 209 = .ok (.lreturn, 1) := by decide +kernel
theorem dX6_mean_0 : decode cX6_mean 0 = .ok (.iload_n 1, 1) := by decide +kernel
theorem dX6_mean_1 : decode cX6_mean 1 = .ok (.iconst 0, 1) := by decide +kernel
theorem dX6_mean_2 : decode cX6_mean 2 = .ok (.iconst 1, 1) := by decide +kernel
theorem dX6_mean_3 : decode cX6_mean 3 = .ok (.invokestatic 52, 3) := by decide +kernel
theorem dX6_mean_6 : decode cX6_mean 6 = .ok (.ifCond .eq 25, 3) := by decide +kernel
theorem dX6_mean_9 : decode cX6_mean 9 = .ok (.aload_n 0, 1) := by decide +kernel
theorem dX6_mean_10 : decode cX6_mean 10 = .ok (.getfield 9, 3) := by decide +kernel
theorem dX6_mean_13 : decode cX6_mean 13 = .ok (.invokestatic 182, 3) := by decide +kernel
theorem dX6_mean_16 : decode cX6_mean 16 = .ok (.i2l, 1) := by decide +kernel
theorem dX6_mean_17 : decode cX6_mean 17 = .ok (.aload_n 0, 1) := by decide +kernel
theorem dX6_mean_18 : decode cX6_mean 18 = .ok (.getfield 9, 3) := by decide +kernel
theorem dX6_mean_21 : decode cX6_mean 21 = .ok (.iconst 0, 1) := by decide +kernel
theorem dX6_mean_22 : decode cX6_mean 22 = .ok (.iaload, 1) := by decide +kernel
theorem dX6_mean_23 : decode cX6_mean 23 = .ok (.i2l, 1) := by decide +kernel
theorem dX6_mean_24 : decode cX6_mean 24 = .ok (.iload_n 1, 1) := by decide +kernel
theorem dX6_mean_25 : decode cX6_mean 25 = .ok (.invokestatic 178, 3) := by decide +kernel
theorem dX6_mean_28 : decode cX6_mean 28 = .ok (.goto 9, 3) := by decide +kernel
theorem dX6_mean_31 : decode cX6_mean 31 = .ok (.aload_n 0, 1) := by decide +kernel
theorem dX6_mean_32 : decode cX6_mean 32 = .ok (.bipush (-2), 2) := by decide +kernel
theorem dX6_mean_34 : decode cX6_mean 34 = .ok (.invokevirtual 174, 3) := by decide +kernel
theorem dX6_mean_37 : decode cX6_mean 37 = .ok (.lreturn, 1) := by decide +kernel
theorem dX6_whoSat_0 : decode cX6_whoSat 0 = .ok (.aload_n 0, 1) := by decide +kernel
theorem dX6_whoSat_1 : decode cX6_whoSat 1 = .ok (.iload_n 1, 1) := by decide +kernel
theorem dX6_whoSat_2 : decode cX6_whoSat 2 = .ok (.invokevirtual 117, 3) := by decide +kernel
theorem dX6_whoSat_5 : decode cX6_whoSat 5 = .ok (.ifCond .eq 11, 3) := by decide +kernel
theorem dX6_whoSat_8 : decode cX6_whoSat 8 = .ok (.aload_n 0, 1) := by decide +kernel
theorem dX6_whoSat_9 : decode cX6_whoSat 9 = .ok (.iload_n 2, 1) := by decide +kernel
theorem dX6_whoSat_10 : decode cX6_whoSat 10 = .ok (.invokevirtual 113, 3) := by decide +kernel
theorem dX6_whoSat_13 : decode cX6_whoSat 13 = .ok (.ifCond .ne 9, 3) := by decide +kernel
theorem dX6_whoSat_16 : decode cX6_whoSat 16 = .ok (.aload_n 0, 1) := by decide +kernel
theorem dX6_whoSat_17 : decode cX6_whoSat 17 = .ok (.iconst (-1), 1) := by decide +kernel
theorem dX6_whoSat_18 : decode cX6_whoSat 18 = .ok (.invokevirtual 48, 3) := by decide +kernel
theorem dX6_whoSat_21 : decode cX6_whoSat 21 = .ok (.ireturn, 1) := by decide +kernel
theorem dX6_whoSat_22 : decode cX6_whoSat 22 = .ok (.iload_n 3, 1) := by decide +kernel
theorem dX6_whoSat_23 : decode cX6_whoSat 23 = .ok (.iconst 0, 1) := by decide +kernel
theorem dX6_whoSat_24 : decode cX6_whoSat 24 = .ok (.iconst 1, 1) := by decide +kernel
theorem dX6_whoSat_25 : decode cX6_whoSat 25 = .ok (.invokestatic 52, 3) := by decide +kernel
theorem dX6_whoSat_28 : decode cX6_whoSat 28 = .ok (.ifCond .ne 10, 3) := by decide +kernel
theorem dX6_whoSat_31 : decode cX6_whoSat 31 = .ok (.aload_n 0, 1) := by decide +kernel
theorem dX6_whoSat_32 : decode cX6_whoSat 32 = .ok (.bipush (-2), 2) := by decide +kernel
theorem dX6_whoSat_34 : decode cX6_whoSat 34 = .ok (.invokevirtual 48, 3) := by decide +kernel
theorem dX6_whoSat_37 : decode cX6_whoSat 37 = .ok (.ireturn, 1) := by decide +kernel
theorem dX6_whoSat_38 : decode cX6_whoSat 38 = .ok (.iconst 0, 1) := by decide +kernel
theorem dX6_whoSat_39 : decode cX6_whoSat 39 = .ok (.istore 4, 2) := by decide +kernel
theorem dX6_whoSat_41 : decode cX6_whoSat 41 = .ok (.iconst 0, 1) := by decide +kernel
theorem dX6_whoSat_42 : decode cX6_whoSat 42 = .ok (.istore 5, 2) := by decide +kernel
theorem dX6_whoSat_44 : decode cX6_whoSat 44 = .ok (.iload 5, 2) := by decide +kernel
theorem dX6_whoSat_46 : decode cX6_whoSat 46 = .ok (.iload_n 3, 1) := by decide +kernel
theorem dX6_whoSat_47 : decode cX6_whoSat 47 = .ok (.ifCond .ne 8, 3) := by decide +kernel
theorem dX6_whoSat_50 : decode cX6_whoSat 50 = .ok (.bipush 6, 2) := by decide +kernel
theorem dX6_whoSat_52 : decode cX6_whoSat 52 = .ok (.goto 5, 3) := by decide +kernel
theorem dX6_whoSat_55 : decode cX6_whoSat 55 = .ok (.bipush 10, 2) := by decide +kernel
theorem dX6_whoSat_57 : decode cX6_whoSat 57 = .ok (.if_icmp .ge 110, 3) := by decide +kernel
theorem dX6_whoSat_60 : decode cX6_whoSat 60 = .ok (.iconst 1, 1) := by decide +kernel
theorem dX6_whoSat_61 : decode cX6_whoSat 61 = .ok (.istore 6, 2) := by decide +kernel
theorem dX6_whoSat_63 : decode cX6_whoSat 63 = .ok (.aload_n 0, 1) := by decide +kernel
theorem dX6_whoSat_64 : decode cX6_whoSat 64 = .ok (.getfield 9, 3) := by decide +kernel
theorem dX6_whoSat_67 : decode cX6_whoSat 67 = .ok (.aload_n 0, 1) := by decide +kernel
theorem dX6_whoSat_68 : decode cX6_whoSat 68 = .ok (.getfield 13, 3) := by decide +kernel
theorem dX6_whoSat_71 : decode cX6_whoSat 71 = .ok (.invokestatic 130, 3) := by decide +kernel
theorem dX6_whoSat_74 : decode cX6_whoSat 74 = .ok (.aload_n 0, 1) := by decide +kernel
theorem dX6_whoSat_75 : decode cX6_whoSat 75 = .ok (.getfield 13, 3) := by decide +kernel
theorem dX6_whoSat_78 : decode cX6_whoSat 78 = .ok (.iload_n 2, 1) := by decide +kernel
theorem dX6_whoSat_79 : decode cX6_whoSat 79 = .ok (.iload_n 3, 1) := by decide +kernel
theorem dX6_whoSat_80 : decode cX6_whoSat 80 = .ok (.invokestatic 56, 3) := by decide +kernel
theorem dX6_whoSat_83 : decode cX6_whoSat 83 = .ok (.iload 5, 2) := by decide +kernel
theorem dX6_whoSat_85 : decode cX6_whoSat 85 = .ok (.iastore, 1) := by decide +kernel
theorem dX6_whoSat_86 : decode cX6_whoSat 86 = .ok (.iconst 0, 1) := by decide +kernel
theorem dX6_whoSat_87 : decode cX6_whoSat 87 = .ok (.istore 7, 2) := by decide +kernel
theorem dX6_whoSat_89 : decode cX6_whoSat 89 = .ok (.iload 7, 2) := by decide +kernel
theorem dX6_whoSat_91 : decode cX6_whoSat 91 = .ok (.aload_n 0, 1) := by decide +kernel
theorem dX6_whoSat_92 : decode cX6_whoSat 92 = .ok (.getfield 185, 3) := by decide +kernel
theorem dX6_whoSat_95 : decode cX6_whoSat 95 = .ok (.if_icmp .ge 48, 3) := by decide +kernel
theorem dX6_whoSat_98 : decode cX6_whoSat 98 = .ok (.iload 6, 2) := by decide +kernel
theorem dX6_whoSat_100 : decode cX6_whoSat 100 = .ok (.aload_n 0, 1) := by decide +kernel
theorem dX6_whoSat_101 : decode cX6_whoSat 101 = .ok (.getfield 13, 3) := by decide +kernel
theorem dX6_whoSat_104 : decode cX6_whoSat 104 = .ok (.iload_n 1, 1) := by decide +kernel
theorem dX6_whoSat_105 : decode cX6_whoSat 105 = .ok (.invokestatic 88, 3) := by decide +kernel
theorem dX6_whoSat_108 : decode cX6_whoSat 108 = .ok (.aload_n 0, 1) := by decide +kernel
theorem dX6_whoSat_109 : decode cX6_whoSat 109 = .ok (.getfield 31, 3) := by decide +kernel
theorem dX6_whoSat_112 : decode cX6_whoSat 112 = .ok (.iload 7, 2) := by decide +kernel
theorem dX6_whoSat_114 : decode cX6_whoSat 114 = .ok (.iaload, 1) := by decide +kernel
theorem dX6_whoSat_115 : decode cX6_whoSat 115 = .ok (.if_icmp .ne 7, 3) := by decide +kernel
theorem dX6_whoSat_118 : decode cX6_whoSat 118 = .ok (.iconst 1, 1) := by decide +kernel
theorem dX6_whoSat_119 : decode cX6_whoSat 119 = .ok (.goto 4, 3) := by decide +kernel
theorem dX6_whoSat_122 : decode cX6_whoSat 122 = .ok (.iconst 0, 1) := by decide +kernel
theorem dX6_whoSat_123 : decode cX6_whoSat 123 = .ok (.iand, 1) := by decide +kernel
theorem dX6_whoSat_124 : decode cX6_whoSat 124 = .ok (.istore 6, 2) := by decide +kernel
theorem dX6_whoSat_126 : decode cX6_whoSat 126 = .ok (.aload_n 0, 1) := by decide +kernel
theorem dX6_whoSat_127 : decode cX6_whoSat 127 = .ok (.aload_n 0, 1) := by decide +kernel
theorem dX6_whoSat_128 : decode cX6_whoSat 128 = .ok (.getfield 13, 3) := by decide +kernel
theorem dX6_whoSat_131 : decode cX6_whoSat 131 = .ok (.iconst 0, 1) := by decide +kernel
theorem dX6_whoSat_132 : decode cX6_whoSat 132 = .ok (.invokevirtual 84, 3) := by decide +kernel
theorem dX6_whoSat_135 : decode cX6_whoSat 135 = .ok (.istore 8, 2) := by decide +kernel
theorem dX6_whoSat_137 : decode cX6_whoSat 137 = .ok (.iinc 7 1, 3) := by decide +kernel
theorem dX6_whoSat_140 : decode cX6_whoSat 140 = .ok (.goto (-51), 3) := by decide +kernel
theorem dX6_whoSat_143 : decode cX6_whoSat 143 = .ok (.iload 4, 2) := by decide +kernel
theorem dX6_whoSat_145 : decode cX6_whoSat 145 = .ok (.iload 6, 2) := by decide +kernel
theorem dX6_whoSat_147 : decode cX6_whoSat 147 = .ok (.ifCond .eq 10, 3) := by decide +kernel
theorem dX6_whoSat_150 : decode cX6_whoSat 150 = .ok (.iconst 1, 1) := by decide +kernel
theorem dX6_whoSat_151 : decode cX6_whoSat 151 = .ok (.iload 5, 2) := by decide +kernel
theorem dX6_whoSat_153 : decode cX6_whoSat 153 = .ok (.ishl, 1) := by decide +kernel
theorem dX6_whoSat_154 : decode cX6_whoSat 154 = .ok (.goto 4, 3) := by decide +kernel
theorem dX6_whoSat_157 : decode cX6_whoSat 157 = .ok (.iconst 0, 1) := by decide +kernel
theorem dX6_whoSat_158 : decode cX6_whoSat 158 = .ok (.ior, 1) := by decide +kernel
theorem dX6_whoSat_159 : decode cX6_whoSat 159 = .ok (.istore 4, 2) := by decide +kernel
theorem dX6_whoSat_161 : decode cX6_whoSat 161 = .ok (.iinc 5 1, 3) := by decide +kernel
theorem dX6_whoSat_164 : decode cX6_whoSat 164 = .ok (.goto (-120), 3) := by decide +kernel
theorem dX6_whoSat_167 : decode cX6_whoSat 167 = .ok (.iload 4, 2) := by decide +kernel
theorem dX6_whoSat_169 : decode cX6_whoSat 169 = .ok (.ireturn, 1) := by decide +kernel
theorem dX6_row_0 : decode cX6_row 0 = .ok (.iload_n 1, 1) := by decide +kernel
theorem dX6_row_1 : decode cX6_row 1 = .ok (.iconst 0, 1) := by decide +kernel
theorem dX6_row_2 : decode cX6_row 2 = .ok (.bipush 99, 2) := by decide +kernel
theorem dX6_row_4 : decode cX6_row 4 = .ok (.invokestatic 137, 3) := by decide +kernel
theorem dX6_row_7 : decode cX6_row 7 = .ok (.istore_n 2, 1) := by decide +kernel
theorem dX6_row_8 : decode cX6_row 8 = .ok (.iload_n 2, 1) := by decide +kernel
theorem dX6_row_9 : decode cX6_row 9 = .ok (.ifCond .ne 15, 3) := by decide +kernel
theorem dX6_row_12 : decode cX6_row 12 = .ok (.aload_n 0, 1) := by decide +kernel
theorem dX6_row_13 : decode cX6_row 13 = .ok (.getfield 185, 3) := by decide +kernel
theorem dX6_row_16 : decode cX6_row 16 = .ok (.bipush 16, 2) := by decide +kernel
theorem dX6_row_18 : decode cX6_row 18 = .ok (.if_icmp .ne 6, 3) := by decide +kernel
theorem dX6_row_21 : decode cX6_row 21 = .ok (.bipush (-6), 2) := by decide +kernel
theorem dX6_row_23 : decode cX6_row 23 = .ok (.istore_n 2, 1) := by decide +kernel
theorem dX6_row_24 : decode cX6_row 24 = .ok (.iload_n 2, 1) := by decide +kernel
theorem dX6_row_25 : decode cX6_row 25 = .ok (.ifCond .eq 9, 3) := by decide +kernel
theorem dX6_row_28 : decode cX6_row 28 = .ok (.aload_n 0, 1) := by decide +kernel
theorem dX6_row_29 : decode cX6_row 29 = .ok (.iload_n 2, 1) := by decide +kernel
theorem dX6_row_30 : decode cX6_row 30 = .ok (.invokevirtual 48, 3) := by decide +kernel
theorem dX6_row_33 : decode cX6_row 33 = .ok (.ireturn, 1) := by decide +kernel
theorem dX6_row_34 : decode cX6_row 34 = .ok (.aload_n 0, 1) := by decide +kernel
theorem dX6_row_35 : decode cX6_row 35 = .ok (.getfield 31, 3) := by decide +kernel
theorem dX6_row_38 : decode cX6_row 38 = .ok (.aload_n 0, 1) := by decide +kernel
theorem dX6_row_39 : decode cX6_row 39 = .ok (.getfield 185, 3) := by decide +kernel
theorem dX6_row_42 : decode cX6_row 42 = .ok (.iload_n 1, 1) := by decide +kernel
theorem dX6_row_43 : decode cX6_row 43 = .ok (.iastore, 1) := by decide +kernel
theorem dX6_row_44 : decode cX6_row 44 = .ok (.aload_n 0, 1) := by decide +kernel
theorem dX6_row_45 : decode cX6_row 45 = .ok (.dup, 1) := by decide +kernel
theorem dX6_row_46 : decode cX6_row 46 = .ok (.getfield 185, 3) := by decide +kernel
theorem dX6_row_49 : decode cX6_row 49 = .ok (.iconst 1, 1) := by decide +kernel
theorem dX6_row_50 : decode cX6_row 50 = .ok (.iadd, 1) := by decide +kernel
theorem dX6_row_51 : decode cX6_row 51 = .ok (.putfield 185, 3) := by decide +kernel
theorem dX6_row_54 : decode cX6_row 54 = .ok (.aload_n 0, 1) := by decide +kernel
theorem dX6_row_55 : decode cX6_row 55 = .ok (.getfield 185, 3) := by decide +kernel
theorem dX6_row_58 : decode cX6_row 58 = .ok (.ireturn, 1) := by decide +kernel
theorem dX6_judge_0 : decode cX6_judge 0 = .ok (.aload_n 0, 1) := by decide +kernel
theorem dX6_judge_1 : decode cX6_judge 1 = .ok (.getfield 185, 3) := by decide +kernel
theorem dX6_judge_4 : decode cX6_judge 4 = .ok (.istore_n 1, 1) := by decide +kernel
theorem dX6_judge_5 : decode cX6_judge 5 = .ok (.aload_n 0, 1) := by decide +kernel
theorem dX6_judge_6 : decode cX6_judge 6 = .ok (.iconst 0, 1) := by decide +kernel
theorem dX6_judge_7 : decode cX6_judge 7 = .ok (.putfield 185, 3) := by decide +kernel
theorem dX6_judge_10 : decode cX6_judge 10 = .ok (.aload_n 0, 1) := by decide +kernel
theorem dX6_judge_11 : decode cX6_judge 11 = .ok (.getfield 9, 3) := by decide +kernel
theorem dX6_judge_14 : decode cX6_judge 14 = .ok (.aload_n 0, 1) := by decide +kernel
theorem dX6_judge_15 : decode cX6_judge 15 = .ok (.getfield 13, 3) := by decide +kernel
theorem dX6_judge_18 : decode cX6_judge 18 = .ok (.invokestatic 130, 3) := by decide +kernel
theorem dX6_judge_21 : decode cX6_judge 21 = .ok (.iconst 0, 1) := by decide +kernel
theorem dX6_judge_22 : decode cX6_judge 22 = .ok (.istore_n 2, 1) := by decide +kernel
theorem dX6_judge_23 : decode cX6_judge 23 = .ok (.iload_n 2, 1) := by decide +kernel
theorem dX6_judge_24 : decode cX6_judge 24 = .ok (.iload_n 1, 1) := by decide +kernel
theorem dX6_judge_25 : decode cX6_judge 25 = .ok (.if_icmp .ge 29, 3) := by decide +kernel
theorem dX6_judge_28 : decode cX6_judge 28 = .ok (.aload_n 0, 1) := by decide +kernel
theorem dX6_judge_29 : decode cX6_judge 29 = .ok (.aload_n 0, 1) := by decide +kernel
theorem dX6_judge_30 : decode cX6_judge 30 = .ok (.getfield 13, 3) := by decide +kernel
theorem dX6_judge_33 : decode cX6_judge 33 = .ok (.iconst 0, 1) := by decide +kernel
theorem dX6_judge_34 : decode cX6_judge 34 = .ok (.invokevirtual 84, 3) := by decide +kernel
theorem dX6_judge_37 : decode cX6_judge 37 = .ok (.aload_n 0, 1) := by decide +kernel
theorem dX6_judge_38 : decode cX6_judge 38 = .ok (.getfield 31, 3) := by decide +kernel
theorem dX6_judge_41 : decode cX6_judge 41 = .ok (.iload_n 2, 1) := by decide +kernel
theorem dX6_judge_42 : decode cX6_judge 42 = .ok (.iaload, 1) := by decide +kernel
theorem dX6_judge_43 : decode cX6_judge 43 = .ok (.if_icmp .eq 5, 3) := by decide +kernel
theorem dX6_judge_46 : decode cX6_judge 46 = .ok (.iload_n 2, 1) := by decide +kernel
theorem dX6_judge_47 : decode cX6_judge 47 = .ok (.ireturn, 1) := by decide +kernel
theorem dX6_judge_48 : decode cX6_judge 48 = .ok (.iinc 2 1, 3) := by decide +kernel
theorem dX6_judge_51 : decode cX6_judge 51 = .ok (.goto (-28), 3) := by decide +kernel
theorem dX6_judge_54 : decode cX6_judge 54 = .ok (.bipush (-9), 2) := by decide +kernel
theorem dX6_judge_56 : decode cX6_judge 56 = .ok (.ireturn, 1) := by decide +kernel
theorem dX6_clear_0 : decode cX6_clear 0 = .ok (.aload_n 0, 1) := by decide +kernel
theorem dX6_clear_1 : decode cX6_clear 1 = .ok (.getfield 185, 3) := by decide +kernel
theorem dX6_clear_4 : decode cX6_clear 4 = .ok (.istore_n 1, 1) := by decide +kernel
theorem dX6_clear_5 : decode cX6_clear 5 = .ok (.aload_n 0, 1) := by decide +kernel
theorem dX6_clear_6 : decode cX6_clear 6 = .ok (.iconst 0, 1) := by decide +kernel
theorem dX6_clear_7 : decode cX6_clear 7 = .ok (.putfield 185, 3) := by decide +kernel
theorem dX6_clear_10 : decode cX6_clear 10 = .ok (.iload_n 1, 1) := by decide +kernel
theorem dX6_clear_11 : decode cX6_clear 11 = .ok (.ireturn, 1) := by decide +kernel
theorem dX6_drawn_0 : decode cX6_drawn 0 = .ok (.aload_n 0, 1) := by decide +kernel
theorem dX6_drawn_1 : decode cX6_drawn 1 = .ok (.aload_n 0, 1) := by decide +kernel
theorem dX6_drawn_2 : decode cX6_drawn 2 = .ok (.getfield 188, 3) := by decide +kernel
theorem dX6_drawn_5 : decode cX6_drawn 5 = .ok (.ldc 191, 2) := by decide +kernel
theorem dX6_drawn_7 : decode cX6_drawn 7 = .ok (.imul, 1) := by decide +kernel
theorem dX6_drawn_8 : decode cX6_drawn 8 = .ok (.ldc 192, 2) := by decide +kernel
theorem dX6_drawn_10 : decode cX6_drawn 10 = .ok (.iadd, 1) := by decide +kernel
theorem dX6_drawn_11 : decode cX6_drawn 11 = .ok (.putfield 188, 3) := by decide +kernel
theorem dX6_drawn_14 : decode cX6_drawn 14 = .ok (.aload_n 0, 1) := by decide +kernel
theorem dX6_drawn_15 : decode cX6_drawn 15 = .ok (.getfield 188, 3) := by decide +kernel
theorem dX6_drawn_18 : decode cX6_drawn 18 = .ok (.ldc 193, 2) := by decide +kernel
theorem dX6_drawn_20 : decode cX6_drawn 20 = .ok (.iand, 1) := by decide +kernel
theorem dX6_drawn_21 : decode cX6_drawn 21 = .ok (.sipush 256, 3) := by decide +kernel
theorem dX6_drawn_24 : decode cX6_drawn 24 = .ok (.idiv, 1) := by decide +kernel
theorem dX6_drawn_25 : decode cX6_drawn 25 = .ok (.iload_n 1, 1) := by decide +kernel
theorem dX6_drawn_26 : decode cX6_drawn 26 = .ok (.irem, 1) := by decide +kernel
theorem dX6_drawn_27 : decode cX6_drawn 27 = .ok (.ireturn, 1) := by decide +kernel
theorem dX6_lots_0 : decode cX6_lots 0 = .ok (.iload_n 1, 1) := by decide +kernel
theorem dX6_lots_1 : decode cX6_lots 1 = .ok (.iconst 1, 1) := by decide +kernel
theorem dX6_lots_2 : decode cX6_lots 2 = .ok (.if_icmp .ge 10, 3) := by decide +kernel
theorem dX6_lots_5 : decode cX6_lots 5 = .ok (.aload_n 0, 1) := by decide +kernel
theorem dX6_lots_6 : decode cX6_lots 6 = .ok (.bipush (-4), 2) := by decide +kernel
theorem dX6_lots_8 : decode cX6_lots 8 = .ok (.invokevirtual 48, 3) := by decide +kernel
theorem dX6_lots_11 : decode cX6_lots 11 = .ok (.ireturn, 1) := by decide +kernel
theorem dX6_lots_12 : decode cX6_lots 12 = .ok (.iload_n 1, 1) := by decide +kernel
theorem dX6_lots_13 : decode cX6_lots 13 = .ok (.bipush 20, 2) := by decide +kernel
theorem dX6_lots_15 : decode cX6_lots 15 = .ok (.if_icmp .le 10, 3) := by decide +kernel
theorem dX6_lots_18 : decode cX6_lots 18 = .ok (.aload_n 0, 1) := by decide +kernel
theorem dX6_lots_19 : decode cX6_lots 19 = .ok (.bipush (-6), 2) := by decide +kernel
theorem dX6_lots_21 : decode cX6_lots 21 = .ok (.invokevirtual 48, 3) := by decide +kernel
theorem dX6_lots_24 : decode cX6_lots 24 = .ok (.ireturn, 1) := by decide +kernel
theorem dX6_lots_25 : decode cX6_lots 25 = .ok (.iload_n 3, 1) := by decide +kernel
theorem dX6_lots_26 : decode cX6_lots 26 = .ok (.iconst 0, 1) := by decide +kernel
theorem dX6_lots_27 : decode cX6_lots 27 = .ok (.iconst 1, 1) := by decide +kernel
theorem dX6_lots_28 : decode cX6_lots 28 = .ok (.invokestatic 52, 3) := by decide +kernel
theorem dX6_lots_31 : decode cX6_lots 31 = .ok (.ifCond .ne 10, 3) := by decide +kernel
theorem dX6_lots_34 : decode cX6_lots 34 = .ok (.aload_n 0, 1) := by decide +kernel
theorem dX6_lots_35 : decode cX6_lots 35 = .ok (.bipush (-2), 2) := by decide +kernel
theorem dX6_lots_37 : decode cX6_lots 37 = .ok (.invokevirtual 48, 3) := by decide +kernel
theorem dX6_lots_40 : decode cX6_lots 40 = .ok (.ireturn, 1) := by decide +kernel
theorem dX6_lots_41 : decode cX6_lots 41 = .ok (.aload_n 0, 1) := by decide +kernel
theorem dX6_lots_42 : decode cX6_lots 42 = .ok (.iload_n 2, 1) := by decide +kernel
theorem dX6_lots_43 : decode cX6_lots 43 = .ok (.putfield 188, 3) := by decide +kernel
theorem dX6_lots_46 : decode cX6_lots 46 = .ok (.iconst 0, 1) := by decide +kernel
theorem dX6_lots_47 : decode cX6_lots 47 = .ok (.istore 4, 2) := by decide +kernel
theorem dX6_lots_49 : decode cX6_lots 49 = .ok (.iconst 0, 1) := by decide +kernel
theorem dX6_lots_50 : decode cX6_lots 50 = .ok (.istore 5, 2) := by decide +kernel
theorem dX6_lots_52 : decode cX6_lots 52 = .ok (.iload 5, 2) := by decide +kernel
theorem dX6_lots_54 : decode cX6_lots 54 = .ok (.iload_n 1, 1) := by decide +kernel
theorem dX6_lots_55 : decode cX6_lots 55 = .ok (.if_icmp .ge 106, 3) := by decide +kernel
theorem dX6_lots_58 : decode cX6_lots 58 = .ok (.aload_n 0, 1) := by decide +kernel
theorem dX6_lots_59 : decode cX6_lots 59 = .ok (.getfield 9, 3) := by decide +kernel
theorem dX6_lots_62 : decode cX6_lots 62 = .ok (.aload_n 0, 1) := by decide +kernel
theorem dX6_lots_63 : decode cX6_lots 63 = .ok (.getfield 13, 3) := by decide +kernel
theorem dX6_lots_66 : decode cX6_lots 66 = .ok (.invokestatic 130, 3) := by decide +kernel
theorem dX6_lots_69 : decode cX6_lots 69 = .ok (.iconst 0, 1) := by decide +kernel
theorem dX6_lots_70 : decode cX6_lots 70 = .ok (.istore 6, 2) := by decide +kernel
theorem dX6_lots_72 : decode cX6_lots 72 = .ok (.iload 6, 2) := by decide +kernel
theorem dX6_lots_74 : decode cX6_lots 74 = .ok (.aload_n 0, 1) := by decide +kernel
theorem dX6_lots_75 : decode cX6_lots 75 = .ok (.getfield 9, 3) := by decide +kernel
theorem dX6_lots_78 : decode cX6_lots 78 = .ok (.iconst 0, 1) := by decide +kernel
theorem dX6_lots_79 : decode cX6_lots 79 = .ok (.iaload, 1) := by decide +kernel
theorem dX6_lots_80 : decode cX6_lots 80 = .ok (.if_icmp .ge 42, 3) := by decide +kernel
theorem dX6_lots_83 : decode cX6_lots 83 = .ok (.iconst 0, 1) := by decide +kernel
theorem dX6_lots_84 : decode cX6_lots 84 = .ok (.istore 7, 2) := by decide +kernel
theorem dX6_lots_86 : decode cX6_lots 86 = .ok (.iload 7, 2) := by decide +kernel
theorem dX6_lots_88 : decode cX6_lots 88 = .ok (.iconst 3, 1) := by decide +kernel
theorem dX6_lots_89 : decode cX6_lots 89 = .ok (.if_icmp .ge 27, 3) := by decide +kernel
theorem dX6_lots_92 : decode cX6_lots 92 = .ok (.aload_n 0, 1) := by decide +kernel
theorem dX6_lots_93 : decode cX6_lots 93 = .ok (.getfield 13, 3) := by decide +kernel
theorem dX6_lots_96 : decode cX6_lots 96 = .ok (.iload 6, 2) := by decide +kernel
theorem dX6_lots_98 : decode cX6_lots 98 = .ok (.iload 7, 2) := by decide +kernel
theorem dX6_lots_100 : decode cX6_lots 100 = .ok (.invokestatic 60, 3) := by decide +kernel
theorem dX6_lots_103 : decode cX6_lots 103 = .ok (.aload_n 0, 1) := by decide +kernel
theorem dX6_lots_104 : decode cX6_lots 104 = .ok (.bipush 31, 2) := by decide +kernel
theorem dX6_lots_106 : decode cX6_lots 106 = .ok (.invokevirtual 194, 3) := by decide +kernel
theorem dX6_lots_109 : decode cX6_lots 109 = .ok (.iastore, 1) := by decide +kernel
theorem dX6_lots_110 : decode cX6_lots 110 = .ok (.iinc 7 1, 3) := by decide +kernel
theorem dX6_lots_113 : decode cX6_lots 113 = .ok (.goto (-27), 3) := by decide +kernel
theorem dX6_lots_116 : decode cX6_lots 116 = .ok (.iinc 6 1, 3) := by decide +kernel
theorem dX6_lots_119 : decode cX6_lots 119 = .ok (.goto (-47), 3) := by decide +kernel
theorem dX6_lots_122 : decode cX6_lots 122 = .ok (.aload_n 0, 1) := by decide +kernel
theorem dX6_lots_123 : decode cX6_lots 123 = .ok (.aload_n 0, 1) := by decide +kernel
theorem dX6_lots_124 : decode cX6_lots 124 = .ok (.getfield 13, 3) := by decide +kernel
theorem dX6_lots_127 : decode cX6_lots 127 = .ok (.bipush 10, 2) := by decide +kernel
theorem dX6_lots_129 : decode cX6_lots 129 = .ok (.invokevirtual 124, 3) := by decide +kernel
theorem dX6_lots_132 : decode cX6_lots 132 = .ok (.istore 6, 2) := by decide +kernel
theorem dX6_lots_134 : decode cX6_lots 134 = .ok (.iload 4, 2) := by decide +kernel
theorem dX6_lots_136 : decode cX6_lots 136 = .ok (.iload_n 3, 1) := by decide +kernel
theorem dX6_lots_137 : decode cX6_lots 137 = .ok (.ifCond .ne 8, 3) := by decide +kernel
theorem dX6_lots_140 : decode cX6_lots 140 = .ok (.iload 6, 2) := by decide +kernel
theorem dX6_lots_142 : decode cX6_lots 142 = .ok (.goto 10, 3) := by decide +kernel
theorem dX6_lots_145 : decode cX6_lots 145 = .ok (.aload_n 0, 1) := by decide +kernel
theorem dX6_lots_146 : decode cX6_lots 146 = .ok (.getfield 13, 3) := by decide +kernel
theorem dX6_lots_149 : decode cX6_lots 149 = .ok (.invokestatic 182, 3) := by decide +kernel
theorem dX6_lots_152 : decode cX6_lots 152 = .ok (.iadd, 1) := by decide +kernel
theorem dX6_lots_153 : decode cX6_lots 153 = .ok (.istore 4, 2) := by decide +kernel
theorem dX6_lots_155 : decode cX6_lots 155 = .ok (.iinc 5 1, 3) := by decide +kernel
theorem dX6_lots_158 : decode cX6_lots 158 = .ok (.goto (-106), 3) := by decide +kernel
theorem dX6_lots_161 : decode cX6_lots 161 = .ok (.iload 4, 2) := by decide +kernel
theorem dX6_lots_163 : decode cX6_lots 163 = .ok (.ireturn, 1) := by decide +kernel
theorem dX6_image_0 : decode cX6_image 0 = .ok (.aload_n 0, 1) := by decide +kernel
theorem dX6_image_1 : decode cX6_image 1 = .ok (.getfield 9, 3) := by decide +kernel
theorem dX6_image_4 : decode cX6_image 4 = .ok (.aload_n 0, 1) := by decide +kernel
theorem dX6_image_5 : decode cX6_image 5 = .ok (.getfield 16, 3) := by decide +kernel
theorem dX6_image_8 : decode cX6_image 8 = .ok (.invokestatic 130, 3) := by decide +kernel
theorem dX6_image_11 : decode cX6_image 11 = .ok (.aload_n 0, 1) := by decide +kernel
theorem dX6_image_12 : decode cX6_image 12 = .ok (.iconst 1, 1) := by decide +kernel
theorem dX6_image_13 : decode cX6_image 13 = .ok (.putfield 197, 3) := by decide +kernel
theorem dX6_image_16 : decode cX6_image 16 = .ok (.aload_n 0, 1) := by decide +kernel
theorem dX6_image_17 : decode cX6_image 17 = .ok (.getfield 9, 3) := by decide +kernel
theorem dX6_image_20 : decode cX6_image 20 = .ok (.iconst 4, 1) := by decide +kernel
theorem dX6_image_21 : decode cX6_image 21 = .ok (.iaload, 1) := by decide +kernel
theorem dX6_image_22 : decode cX6_image 22 = .ok (.ireturn, 1) := by decide +kernel
theorem dX6_on_0 : decode cX6_on 0 = .ok (.aload_n 0, 1) := by decide +kernel
theorem dX6_on_1 : decode cX6_on 1 = .ok (.getfield 197, 3) := by decide +kernel
theorem dX6_on_4 : decode cX6_on 4 = .ok (.ifCond .ne 10, 3) := by decide +kernel
theorem dX6_on_7 : decode cX6_on 7 = .ok (.aload_n 0, 1) := by decide +kernel
theorem dX6_on_8 : decode cX6_on 8 = .ok (.bipush (-3), 2) := by decide +kernel
theorem dX6_on_10 : decode cX6_on 10 = .ok (.invokevirtual 48, 3) := by decide +kernel
theorem dX6_on_13 : decode cX6_on 13 = .ok (.ireturn, 1) := by decide +kernel
theorem dX6_on_14 : decode cX6_on 14 = .ok (.aload_n 0, 1) := by decide +kernel
theorem dX6_on_15 : decode cX6_on 15 = .ok (.getfield 16, 3) := by decide +kernel
theorem dX6_on_18 : decode cX6_on 18 = .ok (.aload_n 0, 1) := by decide +kernel
theorem dX6_on_19 : decode cX6_on 19 = .ok (.getfield 9, 3) := by decide +kernel
theorem dX6_on_22 : decode cX6_on 22 = .ok (.invokestatic 130, 3) := by decide +kernel
theorem dX6_on_25 : decode cX6_on 25 = .ok (.aload_n 0, 1) := by decide +kernel
theorem dX6_on_26 : decode cX6_on 26 = .ok (.getfield 9, 3) := by decide +kernel
theorem dX6_on_29 : decode cX6_on 29 = .ok (.iconst 4, 1) := by decide +kernel
theorem dX6_on_30 : decode cX6_on 30 = .ok (.iaload, 1) := by decide +kernel
theorem dX6_on_31 : decode cX6_on 31 = .ok (.ireturn, 1) := by decide +kernel
theorem dX6_count_0 : decode cX6_count 0 = .ok (.iload_n 1, 1) := by decide +kernel
theorem dX6_count_1 : decode cX6_count 1 = .ok (.bipush 11, 2) := by decide +kernel
theorem dX6_count_3 : decode cX6_count 3 = .ok (.bipush 16, 2) := by decide +kernel
theorem dX6_count_5 : decode cX6_count 5 = .ok (.invokestatic 52, 3) := by decide +kernel
theorem dX6_count_8 : decode cX6_count 8 = .ok (.ifCond .eq 13, 3) := by decide +kernel
theorem dX6_count_11 : decode cX6_count 11 = .ok (.aload_n 0, 1) := by decide +kernel
theorem dX6_count_12 : decode cX6_count 12 = .ok (.getfield 34, 3) := by decide +kernel
theorem dX6_count_15 : decode cX6_count 15 = .ok (.iload_n 1, 1) := by decide +kernel
theorem dX6_count_16 : decode cX6_count 16 = .ok (.bipush 10, 2) := by decide +kernel
theorem dX6_count_18 : decode cX6_count 18 = .ok (.isub, 1) := by decide +kernel
theorem dX6_count_19 : decode cX6_count 19 = .ok (.iaload, 1) := by decide +kernel
theorem dX6_count_20 : decode cX6_count 20 = .ok (.ireturn, 1) := by decide +kernel
theorem dX6_count_21 : decode cX6_count 21 = .ok (.iload_n 1, 1) := by decide +kernel
theorem dX6_count_22 : decode cX6_count 22 = .ok (.tableswitch 99 0 7 #[46, 53, 60, 67, 74, 81, 89, 94], 46) := by decide +kernel
theorem dX6_count_68 : decode cX6_count 68 = .ok (.aload_n 0, 1) := by decide +kernel
theorem dX6_count_69 : decode cX6_count 69 = .ok (.getfield 9, 3) := by decide +kernel
theorem dX6_count_72 : decode cX6_count 72 = .ok (.iconst 0, 1) := by decide +kernel
theorem dX6_count_73 : decode cX6_count 73 = .ok (.iaload, 1) := by decide +kernel
theorem dX6_count_74 : decode cX6_count 74 = .ok (.ireturn, 1) := by decide +kernel
theorem dX6_count_75 : decode cX6_count 75 = .ok (.aload_n 0, 1) := by decide +kernel
theorem dX6_count_76 : decode cX6_count 76 = .ok (.getfield 9, 3) := by decide +kernel
theorem dX6_count_79 : decode cX6_count 79 = .ok (.iconst 1, 1) := by decide +kernel
theorem dX6_count_80 : decode cX6_count 80 = .ok (.iaload, 1) := by decide +kernel
theorem dX6_count_81 : decode cX6_count 81 = .ok (.ireturn, 1) := by decide +kernel
theorem dX6_count_82 : decode cX6_count 82 = .ok (.aload_n 0, 1) := by decide +kernel
theorem dX6_count_83 : decode cX6_count 83 = .ok (.getfield 9, 3) := by decide +kernel
theorem dX6_count_86 : decode cX6_count 86 = .ok (.iconst 4, 1) := by decide +kernel
theorem dX6_count_87 : decode cX6_count 87 = .ok (.iaload, 1) := by decide +kernel
theorem dX6_count_88 : decode cX6_count 88 = .ok (.ireturn, 1) := by decide +kernel
theorem dX6_count_89 : decode cX6_count 89 = .ok (.aload_n 0, 1) := by decide +kernel
theorem dX6_count_90 : decode cX6_count 90 = .ok (.getfield 9, 3) := by decide +kernel
theorem dX6_count_93 : decode cX6_count 93 = .ok (.iconst 2, 1) := by decide +kernel
theorem dX6_count_94 : decode cX6_count 94 = .ok (.iaload, 1) := by decide +kernel
theorem dX6_count_95 : decode cX6_count 95 = .ok (.ireturn, 1) := by decide +kernel
theorem dX6_count_96 : decode cX6_count 96 = .ok (.aload_n 0, 1) := by decide +kernel
theorem dX6_count_97 : decode cX6_count 97 = .ok (.getfield 9, 3) := by decide +kernel
theorem dX6_count_100 : decode cX6_count 100 = .ok (.iconst 3, 1) := by decide +kernel
theorem dX6_count_101 : decode cX6_count 101 = .ok (.iaload, 1) := by decide +kernel
theorem dX6_count_102 : decode cX6_count 102 = .ok (.ireturn, 1) := by decide +kernel
theorem dX6_count_103 : decode cX6_count 103 = .ok (.aload_n 0, 1) := by decide +kernel
theorem dX6_count_104 : decode cX6_count 104 = .ok (.getfield 9, 3) := by decide +kernel
theorem dX6_count_107 : decode cX6_count 107 = .ok (.invokestatic 182, 3) := by decide +kernel
theorem dX6_count_110 : decode cX6_count 110 = .ok (.ireturn, 1) := by decide +kernel
theorem dX6_count_111 : decode cX6_count 111 = .ok (.aload_n 0, 1) := by decide +kernel
theorem dX6_count_112 : decode cX6_count 112 = .ok (.getfield 185, 3) := by decide +kernel
theorem dX6_count_115 : decode cX6_count 115 = .ok (.ireturn, 1) := by decide +kernel
theorem dX6_count_116 : decode cX6_count 116 = .ok (.aload_n 0, 1) := by decide +kernel
theorem dX6_count_117 : decode cX6_count 117 = .ok (.getfield 91, 3) := by decide +kernel
theorem dX6_count_120 : decode cX6_count 120 = .ok (.ireturn, 1) := by decide +kernel
theorem dX6_count_121 : decode cX6_count 121 = .ok (.bipush (-9), 2) := by decide +kernel
theorem dX6_count_123 : decode cX6_count 123 = .ok (.ireturn, 1) := by decide +kernel
theorem dL_law_0 : decode cL_law 0 = .ok (.new 7, 3) := by decide +kernel
theorem dL_law_3 : decode cL_law 3 = .ok (.dup, 1) := by decide +kernel
theorem dL_law_4 : decode cL_law 4 = .ok (.invokespecial 9, 3) := by decide +kernel
theorem dL_law_7 : decode cL_law 7 = .ok (.astore_n 1, 1) := by decide +kernel
theorem dL_law_8 : decode cL_law 8 = .ok (.new 10, 3) := by decide +kernel
theorem dL_law_11 : decode cL_law 11 = .ok (.dup, 1) := by decide +kernel
theorem dL_law_12 : decode cL_law 12 = .ok (.invokespecial 12, 3) := by decide +kernel
theorem dL_law_15 : decode cL_law 15 = .ok (.astore_n 2, 1) := by decide +kernel
theorem dL_law_16 : decode cL_law 16 = .ok (.iconst 0, 1) := by decide +kernel
theorem dL_law_17 : decode cL_law 17 = .ok (.istore_n 3, 1) := by decide +kernel
theorem dL_law_18 : decode cL_law 18 = .ok (.iload_n 3, 1) := by decide +kernel
theorem dL_law_19 : decode cL_law 19 = .ok (.aload_n 0, 1) := by decide +kernel
theorem dL_law_20 : decode cL_law 20 = .ok (.arraylength, 1) := by decide +kernel
theorem dL_law_21 : decode cL_law 21 = .ok (.iconst 5, 1) := by decide +kernel
theorem dL_law_22 : decode cL_law 22 = .ok (.isub, 1) := by decide +kernel
theorem dL_law_23 : decode cL_law 23 = .ok (.if_icmp .gt 1199, 3) := by decide +kernel
theorem dL_law_26 : decode cL_law 26 = .ok (.aload_n 0, 1) := by decide +kernel
theorem dL_law_27 : decode cL_law 27 = .ok (.iload_n 3, 1) := by decide +kernel
theorem dL_law_28 : decode cL_law 28 = .ok (.iaload, 1) := by decide +kernel
theorem dL_law_29 : decode cL_law 29 = .ok (.bipush 63, 2) := by decide +kernel
theorem dL_law_31 : decode cL_law 31 = .ok (.iand, 1) := by decide +kernel
theorem dL_law_32 : decode cL_law 32 = .ok (.tableswitch 1184 0 37 #[168, 191, 204, 237, 270, 303, 326, 369, 392, 425, 468, 491, 534, 577, 600, 613, 636, 669, 702, 725, 748, 771, 804, 817, 830, 853, 866, 879, 922, 976, 1000, 1043, 1066, 1079, 1092, 1135, 1148, 1161], 168) := by decide +kernel
theorem dL_law_200 : decode cL_law 200 = .ok (.aload_n 1, 1) := by decide +kernel
theorem dL_law_201 : decode cL_law 201 = .ok (.aload_n 0, 1) := by decide +kernel
theorem dL_law_202 : decode cL_law 202 = .ok (.iload_n 3, 1) := by decide +kernel
theorem dL_law_203 : decode cL_law 203 = .ok (.iconst 1, 1) := by decide +kernel
theorem dL_law_204 : decode cL_law 204 = .ok (.iadd, 1) := by decide +kernel
theorem dL_law_205 : decode cL_law 205 = .ok (.iaload, 1) := by decide +kernel
theorem dL_law_206 : decode cL_law 206 = .ok (.invokevirtual 13, 3) := by decide +kernel
theorem dL_law_209 : decode cL_law 209 = .ok (.aload_n 2, 1) := by decide +kernel
theorem dL_law_210 : decode cL_law 210 = .ok (.aload_n 0, 1) := by decide +kernel
theorem dL_law_211 : decode cL_law 211 = .ok (.iload_n 3, 1) := by decide +kernel
theorem dL_law_212 : decode cL_law 212 = .ok (.iconst 1, 1) := by decide +kernel
theorem dL_law_213 : decode cL_law 213 = .ok (.iadd, 1) := by decide +kernel
theorem dL_law_214 : decode cL_law 214 = .ok (.iaload, 1) := by decide +kernel
theorem dL_law_215 : decode cL_law 215 = .ok (.invokevirtual 17, 3) := by decide +kernel
theorem dL_law_218 : decode cL_law 218 = .ok (.if_icmp .eq 998, 3) := by decide +kernel
theorem dL_law_221 : decode cL_law 221 = .ok (.iconst 0, 1) := by decide +kernel
theorem dL_law_222 : decode cL_law 222 = .ok (.ireturn, 1) := by decide +kernel
theorem dL_law_223 : decode cL_law 223 = .ok (.aload_n 1, 1) := by decide +kernel
theorem dL_law_224 : decode cL_law 224 = .ok (.invokevirtual 18, 3) := by decide +kernel
theorem dL_law_227 : decode cL_law 227 = .ok (.aload_n 2, 1) := by decide +kernel
theorem dL_law_228 : decode cL_law 228 = .ok (.invokevirtual 22, 3) := by decide +kernel
theorem dL_law_231 : decode cL_law 231 = .ok (.if_icmp .eq 985, 3) := by decide +kernel
theorem dL_law_234 : decode cL_law 234 = .ok (.iconst 0, 1) := by decide +kernel
theorem dL_law_235 : decode cL_law 235 = .ok (.ireturn, 1) := by decide +kernel
theorem dL_law_236 : decode cL_law 236 = .ok (.aload_n 1, 1) := by decide +kernel
theorem dL_law_237 : decode cL_law 237 = .ok (.aload_n 0, 1) := by decide +kernel
theorem dL_law_238 : decode cL_law 238 = .ok (.iload_n 3, 1) := by decide +kernel
theorem dL_law_239 : decode cL_law 239 = .ok (.iconst 1, 1) := by decide +kernel
theorem dL_law_240 : decode cL_law 240 = .ok (.iadd, 1) := by decide +kernel
theorem dL_law_241 : decode cL_law 241 = .ok (.iaload, 1) := by decide +kernel
theorem dL_law_242 : decode cL_law 242 = .ok (.aload_n 0, 1) := by decide +kernel
theorem dL_law_243 : decode cL_law 243 = .ok (.iload_n 3, 1) := by decide +kernel
theorem dL_law_244 : decode cL_law 244 = .ok (.iconst 2, 1) := by decide +kernel
theorem dL_law_245 : decode cL_law 245 = .ok (.iadd, 1) := by decide +kernel
theorem dL_law_246 : decode cL_law 246 = .ok (.iaload, 1) := by decide +kernel
theorem dL_law_247 : decode cL_law 247 = .ok (.invokevirtual 23, 3) := by decide +kernel
theorem dL_law_250 : decode cL_law 250 = .ok (.aload_n 2, 1) := by decide +kernel
theorem dL_law_251 : decode cL_law 251 = .ok (.aload_n 0, 1) := by decide +kernel
theorem dL_law_252 : decode cL_law 252 = .ok (.iload_n 3, 1) := by decide +kernel
theorem dL_law_253 : decode cL_law 253 = .ok (.iconst 1, 1) := by decide +kernel
theorem dL_law_254 : decode cL_law 254 = .ok (.iadd, 1) := by decide +kernel
theorem dL_law_255 : decode cL_law 255 = .ok (.iaload, 1) := by decide +kernel
theorem dL_law_256 : decode cL_law 256 = .ok (.aload_n 0, 1) := by decide +kernel
theorem dL_law_257 : decode cL_law 257 = .ok (.iload_n 3, 1) := by decide +kernel
theorem dL_law_258 : decode cL_law 258 = .ok (.iconst 2, 1) := by decide +kernel
theorem dL_law_259 : decode cL_law 259 = .ok (.iadd, 1) := by decide +kernel
theorem dL_law_260 : decode cL_law 260 = .ok (.iaload, 1) := by decide +kernel
theorem dL_law_261 : decode cL_law 261 = .ok (.invokevirtual 27, 3) := by decide +kernel
theorem dL_law_264 : decode cL_law 264 = .ok (.if_icmp .eq 952, 3) := by decide +kernel
theorem dL_law_267 : decode cL_law 267 = .ok (.iconst 0, 1) := by decide +kernel
theorem dL_law_268 : decode cL_law 268 = .ok (.ireturn, 1) := by decide +kernel
theorem dL_law_269 : decode cL_law 269 = .ok (.aload_n 1, 1) := by decide +kernel
theorem dL_law_270 : decode cL_law 270 = .ok (.aload_n 0, 1) := by decide +kernel
theorem dL_law_271 : decode cL_law 271 = .ok (.iload_n 3, 1) := by decide +kernel
theorem dL_law_272 : decode cL_law 272 = .ok (.iconst 1, 1) := by decide +kernel
theorem dL_law_273 : decode cL_law 273 = .ok (.iadd, 1) := by decide +kernel
theorem dL_law_274 : decode cL_law 274 = .ok (.iaload, 1) := by decide +kernel
theorem dL_law_275 : decode cL_law 275 = .ok (.aload_n 0, 1) := by decide +kernel
theorem dL_law_276 : decode cL_law 276 = .ok (.iload_n 3, 1) := by decide +kernel
theorem dL_law_277 : decode cL_law 277 = .ok (.iconst 2, 1) := by decide +kernel
theorem dL_law_278 : decode cL_law 278 = .ok (.iadd, 1) := by decide +kernel
theorem dL_law_279 : decode cL_law 279 = .ok (.iaload, 1) := by decide +kernel
theorem dL_law_280 : decode cL_law 280 = .ok (.invokevirtual 28, 3) := by decide +kernel
theorem dL_law_283 : decode cL_law 283 = .ok (.aload_n 2, 1) := by decide +kernel
theorem dL_law_284 : decode cL_law 284 = .ok (.aload_n 0, 1) := by decide +kernel
theorem dL_law_285 : decode cL_law 285 = .ok (.iload_n 3, 1) := by decide +kernel
theorem dL_law_286 : decode cL_law 286 = .ok (.iconst 1, 1) := by decide +kernel
theorem dL_law_287 : decode cL_law 287 = .ok (.iadd, 1) := by decide +kernel
theorem dL_law_288 : decode cL_law 288 = .ok (.iaload, 1) := by decide +kernel
theorem dL_law_289 : decode cL_law 289 = .ok (.aload_n 0, 1) := by decide +kernel
theorem dL_law_290 : decode cL_law 290 = .ok (.iload_n 3, 1) := by decide +kernel
theorem dL_law_291 : decode cL_law 291 = .ok (.iconst 2, 1) := by decide +kernel
theorem dL_law_292 : decode cL_law 292 = .ok (.iadd, 1) := by decide +kernel
theorem dL_law_293 : decode cL_law 293 = .ok (.iaload, 1) := by decide +kernel
theorem dL_law_294 : decode cL_law 294 = .ok (.invokevirtual 31, 3) := by decide +kernel
theorem dL_law_297 : decode cL_law 297 = .ok (.if_icmp .eq 919, 3) := by decide +kernel
theorem dL_law_300 : decode cL_law 300 = .ok (.iconst 0, 1) := by decide +kernel
theorem dL_law_301 : decode cL_law 301 = .ok (.ireturn, 1) := by decide +kernel
theorem dL_law_302 : decode cL_law 302 = .ok (.aload_n 1, 1) := by decide +kernel
theorem dL_law_303 : decode cL_law 303 = .ok (.aload_n 0, 1) := by decide +kernel
theorem dL_law_304 : decode cL_law 304 = .ok (.iload_n 3, 1) := by decide +kernel
theorem dL_law_305 : decode cL_law 305 = .ok (.iconst 1, 1) := by decide +kernel
theorem dL_law_306 : decode cL_law 306 = .ok (.iadd, 1) := by decide +kernel
theorem dL_law_307 : decode cL_law 307 = .ok (.iaload, 1) := by decide +kernel
theorem dL_law_308 : decode cL_law 308 = .ok (.aload_n 0, 1) := by decide +kernel
theorem dL_law_309 : decode cL_law 309 = .ok (.iload_n 3, 1) := by decide +kernel
theorem dL_law_310 : decode cL_law 310 = .ok (.iconst 2, 1) := by decide +kernel
theorem dL_law_311 : decode cL_law 311 = .ok (.iadd, 1) := by decide +kernel
theorem dL_law_312 : decode cL_law 312 = .ok (.iaload, 1) := by decide +kernel
theorem dL_law_313 : decode cL_law 313 = .ok (.invokevirtual 32, 3) := by decide +kernel
theorem dL_law_316 : decode cL_law 316 = .ok (.aload_n 2, 1) := by decide +kernel
theorem dL_law_317 : decode cL_law 317 = .ok (.aload_n 0, 1) := by decide +kernel
theorem dL_law_318 : decode cL_law 318 = .ok (.iload_n 3, 1) := by decide +kernel
theorem dL_law_319 : decode cL_law 319 = .ok (.iconst 1, 1) := by decide +kernel
theorem dL_law_320 : decode cL_law 320 = .ok (.iadd, 1) := by decide +kernel
theorem dL_law_321 : decode cL_law 321 = .ok (.iaload, 1) := by decide +kernel
theorem dL_law_322 : decode cL_law 322 = .ok (.aload_n 0, 1) := by decide +kernel
theorem dL_law_323 : decode cL_law 323 = .ok (.iload_n 3, 1) := by decide +kernel
theorem dL_law_324 : decode cL_law 324 = .ok (.iconst 2, 1) := by decide +kernel
theorem dL_law_325 : decode cL_law 325 = .ok (.iadd, 1) := by decide +kernel
theorem dL_law_326 : decode cL_law 326 = .ok (.iaload, 1) := by decide +kernel
theorem dL_law_327 : decode cL_law 327 = .ok (.invokevirtual 35, 3) := by decide +kernel
theorem dL_law_330 : decode cL_law 330 = .ok (.if_icmp .eq 886, 3) := by decide +kernel
theorem dL_law_333 : decode cL_law 333 = .ok (.iconst 0, 1) := by decide +kernel
theorem dL_law_334 : decode cL_law 334 = .ok (.ireturn, 1) := by decide +kernel
theorem dL_law_335 : decode cL_law 335 = .ok (.aload_n 1, 1) := by decide +kernel
theorem dL_law_336 : decode cL_law 336 = .ok (.aload_n 0, 1) := by decide +kernel
theorem dL_law_337 : decode cL_law 337 = .ok (.iload_n 3, 1) := by decide +kernel
theorem dL_law_338 : decode cL_law 338 = .ok (.iconst 1, 1) := by decide +kernel
theorem dL_law_339 : decode cL_law 339 = .ok (.iadd, 1) := by decide +kernel
theorem dL_law_340 : decode cL_law 340 = .ok (.iaload, 1) := by decide +kernel
theorem dL_law_341 : decode cL_law 341 = .ok (.invokevirtual 36, 3) := by decide +kernel
theorem dL_law_344 : decode cL_law 344 = .ok (.aload_n 2, 1) := by decide +kernel
theorem dL_law_345 : decode cL_law 345 = .ok (.aload_n 0, 1) := by decide +kernel
theorem dL_law_346 : decode cL_law 346 = .ok (.iload_n 3, 1) := by decide +kernel
theorem dL_law_347 : decode cL_law 347 = .ok (.iconst 1, 1) := by decide +kernel
theorem dL_law_348 : decode cL_law 348 = .ok (.iadd, 1) := by decide +kernel
theorem dL_law_349 : decode cL_law 349 = .ok (.iaload, 1) := by decide +kernel
theorem dL_law_350 : decode cL_law 350 = .ok (.invokevirtual 39, 3) := by decide +kernel
theorem dL_law_353 : decode cL_law 353 = .ok (.if_icmp .eq 863, 3) := by decide +kernel
theorem dL_law_356 : decode cL_law 356 = .ok (.iconst 0, 1) := by decide +kernel
theorem dL_law_357 : decode cL_law 357 = .ok (.ireturn, 1) := by decide +kernel
theorem dL_law_358 : decode cL_law 358 = .ok (.aload_n 1, 1) := by decide +kernel
theorem dL_law_359 : decode cL_law 359 = .ok (.aload_n 0, 1) := by decide +kernel
theorem dL_law_360 : decode cL_law 360 = .ok (.iload_n 3, 1) := by decide +kernel
theorem dL_law_361 : decode cL_law 361 = .ok (.iconst 1, 1) := by decide +kernel
theorem dL_law_362 : decode cL_law 362 = .ok (.iadd, 1) := by decide +kernel
theorem dL_law_363 : decode cL_law 363 = .ok (.iaload, 1) := by decide +kernel
theorem dL_law_364 : decode cL_law 364 = .ok (.aload_n 0, 1) := by decide +kernel
theorem dL_law_365 : decode cL_law 365 = .ok (.iload_n 3, 1) := by decide +kernel
theorem dL_law_366 : decode cL_law 366 = .ok (.iconst 2, 1) := by decide +kernel
theorem dL_law_367 : decode cL_law 367 = .ok (.iadd, 1) := by decide +kernel
theorem dL_law_368 : decode cL_law 368 = .ok (.iaload, 1) := by decide +kernel
theorem dL_law_369 : decode cL_law 369 = .ok (.aload_n 0, 1) := by decide +kernel
theorem dL_law_370 : decode cL_law 370 = .ok (.iload_n 3, 1) := by decide +kernel
theorem dL_law_371 : decode cL_law 371 = .ok (.iconst 3, 1) := by decide +kernel
theorem dL_law_372 : decode cL_law 372 = .ok (.iadd, 1) := by decide +kernel
theorem dL_law_373 : decode cL_law 373 = .ok (.iaload, 1) := by decide +kernel
theorem dL_law_374 : decode cL_law 374 = .ok (.invokevirtual 40, 3) := by decide +kernel
theorem dL_law_377 : decode cL_law 377 = .ok (.aload_n 2, 1) := by decide +kernel
theorem dL_law_378 : decode cL_law 378 = .ok (.aload_n 0, 1) := by decide +kernel
theorem dL_law_379 : decode cL_law 379 = .ok (.iload_n 3, 1) := by decide +kernel
theorem dL_law_380 : decode cL_law 380 = .ok (.iconst 1, 1) := by decide +kernel
theorem dL_law_381 : decode cL_law 381 = .ok (.iadd, 1) := by decide +kernel
theorem dL_law_382 : decode cL_law 382 = .ok (.iaload, 1) := by decide +kernel
theorem dL_law_383 : decode cL_law 383 = .ok (.aload_n 0, 1) := by decide +kernel
theorem dL_law_384 : decode cL_law 384 = .ok (.iload_n 3, 1) := by decide +kernel
theorem dL_law_385 : decode cL_law 385 = .ok (.iconst 2, 1) := by decide +kernel
theorem dL_law_386 : decode cL_law 386 = .ok (.iadd, 1) := by decide +kernel
theorem dL_law_387 : decode cL_law 387 = .ok (.iaload, 1) := by decide +kernel
theorem dL_law_388 : decode cL_law 388 = .ok (.aload_n 0, 1) := by decide +kernel
theorem dL_law_389 : decode cL_law 389 = .ok (.iload_n 3, 1) := by decide +kernel
theorem dL_law_390 : decode cL_law 390 = .ok (.iconst 3, 1) := by decide +kernel
theorem dL_law_391 : decode cL_law 391 = .ok (.iadd, 1) := by decide +kernel
theorem dL_law_392 : decode cL_law 392 = .ok (.iaload, 1) := by decide +kernel
theorem dL_law_393 : decode cL_law 393 = .ok (.invokevirtual 44, 3) := by decide +kernel
theorem dL_law_396 : decode cL_law 396 = .ok (.if_icmp .eq 820, 3) := by decide +kernel
theorem dL_law_399 : decode cL_law 399 = .ok (.iconst 0, 1) := by decide +kernel
theorem dL_law_400 : decode cL_law 400 = .ok (.ireturn, 1) := by decide +kernel
theorem dL_law_401 : decode cL_law 401 = .ok (.aload_n 1, 1) := by decide +kernel
theorem dL_law_402 : decode cL_law 402 = .ok (.aload_n 0, 1) := by decide +kernel
theorem dL_law_403 : decode cL_law 403 = .ok (.iload_n 3, 1) := by decide +kernel
theorem dL_law_404 : decode cL_law 404 = .ok (.iconst 1, 1) := by decide +kernel
theorem dL_law_405 : decode cL_law 405 = .ok (.iadd, 1) := by decide +kernel
theorem dL_law_406 : decode cL_law 406 = .ok (.iaload, 1) := by decide +kernel
theorem dL_law_407 : decode cL_law 407 = .ok (.invokevirtual 45, 3) := by decide +kernel
theorem dL_law_410 : decode cL_law 410 = .ok (.aload_n 2, 1) := by decide +kernel
theorem dL_law_411 : decode cL_law 411 = .ok (.aload_n 0, 1) := by decide +kernel
theorem dL_law_412 : decode cL_law 412 = .ok (.iload_n 3, 1) := by decide +kernel
theorem dL_law_413 : decode cL_law 413 = .ok (.iconst 1, 1) := by decide +kernel
theorem dL_law_414 : decode cL_law 414 = .ok (.iadd, 1) := by decide +kernel
theorem dL_law_415 : decode cL_law 415 = .ok (.iaload, 1) := by decide +kernel
theorem dL_law_416 : decode cL_law 416 = .ok (.invokevirtual 48, 3) := by decide +kernel
theorem dL_law_419 : decode cL_law 419 = .ok (.if_icmp .eq 797, 3) := by decide +kernel
theorem dL_law_422 : decode cL_law 422 = .ok (.iconst 0, 1) := by decide +kernel
theorem dL_law_423 : decode cL_law 423 = .ok (.ireturn, 1) := by decide +kernel
theorem dL_law_424 : decode cL_law 424 = .ok (.aload_n 1, 1) := by decide +kernel
theorem dL_law_425 : decode cL_law 425 = .ok (.aload_n 0, 1) := by decide +kernel
theorem dL_law_426 : decode cL_law 426 = .ok (.iload_n 3, 1) := by decide +kernel
theorem dL_law_427 : decode cL_law 427 = .ok (.iconst 1, 1) := by decide +kernel
theorem dL_law_428 : decode cL_law 428 = .ok (.iadd, 1) := by decide +kernel
theorem dL_law_429 : decode cL_law 429 = .ok (.iaload, 1) := by decide +kernel
theorem dL_law_430 : decode cL_law 430 = .ok (.aload_n 0, 1) := by decide +kernel
theorem dL_law_431 : decode cL_law 431 = .ok (.iload_n 3, 1) := by decide +kernel
theorem dL_law_432 : decode cL_law 432 = .ok (.iconst 2, 1) := by decide +kernel
theorem dL_law_433 : decode cL_law 433 = .ok (.iadd, 1) := by decide +kernel
theorem dL_law_434 : decode cL_law 434 = .ok (.iaload, 1) := by decide +kernel
theorem dL_law_435 : decode cL_law 435 = .ok (.invokevirtual 49, 3) := by decide +kernel
theorem dL_law_438 : decode cL_law 438 = .ok (.aload_n 2, 1) := by decide +kernel
theorem dL_law_439 : decode cL_law 439 = .ok (.aload_n 0, 1) := by decide +kernel
theorem dL_law_440 : decode cL_law 440 = .ok (.iload_n 3, 1) := by decide +kernel
theorem dL_law_441 : decode cL_law 441 = .ok (.iconst 1, 1) := by decide +kernel
theorem dL_law_442 : decode cL_law 442 = .ok (.iadd, 1) := by decide +kernel
theorem dL_law_443 : decode cL_law 443 = .ok (.iaload, 1) := by decide +kernel
theorem dL_law_444 : decode cL_law 444 = .ok (.aload_n 0, 1) := by decide +kernel
theorem dL_law_445 : decode cL_law 445 = .ok (.iload_n 3, 1) := by decide +kernel
theorem dL_law_446 : decode cL_law 446 = .ok (.iconst 2, 1) := by decide +kernel
theorem dL_law_447 : decode cL_law 447 = .ok (.iadd, 1) := by decide +kernel
theorem dL_law_448 : decode cL_law 448 = .ok (.iaload, 1) := by decide +kernel
theorem dL_law_449 : decode cL_law 449 = .ok (.invokevirtual 52, 3) := by decide +kernel
theorem dL_law_452 : decode cL_law 452 = .ok (.if_icmp .eq 764, 3) := by decide +kernel
theorem dL_law_455 : decode cL_law 455 = .ok (.iconst 0, 1) := by decide +kernel
theorem dL_law_456 : decode cL_law 456 = .ok (.ireturn, 1) := by decide +kernel
theorem dL_law_457 : decode cL_law 457 = .ok (.aload_n 1, 1) := by decide +kernel
theorem dL_law_458 : decode cL_law 458 = .ok (.aload_n 0, 1) := by decide +kernel
theorem dL_law_459 : decode cL_law 459 = .ok (.iload_n 3, 1) := by decide +kernel
theorem dL_law_460 : decode cL_law 460 = .ok (.iconst 1, 1) := by decide +kernel
theorem dL_law_461 : decode cL_law 461 = .ok (.iadd, 1) := by decide +kernel
theorem dL_law_462 : decode cL_law 462 = .ok (.iaload, 1) := by decide +kernel
theorem dL_law_463 : decode cL_law 463 = .ok (.aload_n 0, 1) := by decide +kernel
theorem dL_law_464 : decode cL_law 464 = .ok (.iload_n 3, 1) := by decide +kernel
theorem dL_law_465 : decode cL_law 465 = .ok (.iconst 2, 1) := by decide +kernel
theorem dL_law_466 : decode cL_law 466 = .ok (.iadd, 1) := by decide +kernel
theorem dL_law_467 : decode cL_law 467 = .ok (.iaload, 1) := by decide +kernel
theorem dL_law_468 : decode cL_law 468 = .ok (.aload_n 0, 1) := by decide +kernel
theorem dL_law_469 : decode cL_law 469 = .ok (.iload_n 3, 1) := by decide +kernel
theorem dL_law_470 : decode cL_law 470 = .ok (.iconst 3, 1) := by decide +kernel
theorem dL_law_471 : decode cL_law 471 = .ok (.iadd, 1) := by decide +kernel
theorem dL_law_472 : decode cL_law 472 = .ok (.iaload, 1) := by decide +kernel
theorem dL_law_473 : decode cL_law 473 = .ok (.invokevirtual 53, 3) := by decide +kernel
theorem dL_law_476 : decode cL_law 476 = .ok (.aload_n 2, 1) := by decide +kernel
theorem dL_law_477 : decode cL_law 477 = .ok (.aload_n 0, 1) := by decide +kernel
theorem dL_law_478 : decode cL_law 478 = .ok (.iload_n 3, 1) := by decide +kernel
theorem dL_law_479 : decode cL_law 479 = .ok (.iconst 1, 1) := by decide +kernel
theorem dL_law_480 : decode cL_law 480 = .ok (.iadd, 1) := by decide +kernel
theorem dL_law_481 : decode cL_law 481 = .ok (.iaload, 1) := by decide +kernel
theorem dL_law_482 : decode cL_law 482 = .ok (.aload_n 0, 1) := by decide +kernel
theorem dL_law_483 : decode cL_law 483 = .ok (.iload_n 3, 1) := by decide +kernel
theorem dL_law_484 : decode cL_law 484 = .ok (.iconst 2, 1) := by decide +kernel
theorem dL_law_485 : decode cL_law 485 = .ok (.iadd, 1) := by decide +kernel
theorem dL_law_486 : decode cL_law 486 = .ok (.iaload, 1) := by decide +kernel
theorem dL_law_487 : decode cL_law 487 = .ok (.aload_n 0, 1) := by decide +kernel
theorem dL_law_488 : decode cL_law 488 = .ok (.iload_n 3, 1) := by decide +kernel
theorem dL_law_489 : decode cL_law 489 = .ok (.iconst 3, 1) := by decide +kernel
theorem dL_law_490 : decode cL_law 490 = .ok (.iadd, 1) := by decide +kernel
theorem dL_law_491 : decode cL_law 491 = .ok (.iaload, 1) := by decide +kernel
theorem dL_law_492 : decode cL_law 492 = .ok (.invokevirtual 56, 3) := by decide +kernel
theorem dL_law_495 : decode cL_law 495 = .ok (.if_icmp .eq 721, 3) := by decide +kernel
theorem dL_law_498 : decode cL_law 498 = .ok (.iconst 0, 1) := by decide +kernel
theorem dL_law_499 : decode cL_law 499 = .ok (.ireturn, 1) := by decide +kernel
theorem dL_law_500 : decode cL_law 500 = .ok (.aload_n 1, 1) := by decide +kernel
theorem dL_law_501 : decode cL_law 501 = .ok (.aload_n 0, 1) := by decide +kernel
theorem dL_law_502 : decode cL_law 502 = .ok (.iload_n 3, 1) := by decide +kernel
theorem dL_law_503 : decode cL_law 503 = .ok (.iconst 1, 1) := by decide +kernel
theorem dL_law_504 : decode cL_law 504 = .ok (.iadd, 1) := by decide +kernel
theorem dL_law_505 : decode cL_law 505 = .ok (.iaload, 1) := by decide +kernel
theorem dL_law_506 : decode cL_law 506 = .ok (.invokevirtual 57, 3) := by decide +kernel
theorem dL_law_509 : decode cL_law 509 = .ok (.aload_n 2, 1) := by decide +kernel
theorem dL_law_510 : decode cL_law 510 = .ok (.aload_n 0, 1) := by decide +kernel
theorem dL_law_511 : decode cL_law 511 = .ok (.iload_n 3, 1) := by decide +kernel
theorem dL_law_512 : decode cL_law 512 = .ok (.iconst 1, 1) := by decide +kernel
theorem dL_law_513 : decode cL_law 513 = .ok (.iadd, 1) := by decide +kernel
theorem dL_law_514 : decode cL_law 514 = .ok (.iaload, 1) := by decide +kernel
theorem dL_law_515 : decode cL_law 515 = .ok (.invokevirtual 60, 3) := by decide +kernel
theorem dL_law_518 : decode cL_law 518 = .ok (.if_icmp .eq 698, 3) := by decide +kernel
theorem dL_law_521 : decode cL_law 521 = .ok (.iconst 0, 1) := by decide +kernel
theorem dL_law_522 : decode cL_law 522 = .ok (.ireturn, 1) := by decide +kernel
theorem dL_law_523 : decode cL_law 523 = .ok (.aload_n 1, 1) := by decide +kernel
theorem dL_law_524 : decode cL_law 524 = .ok (.aload_n 0, 1) := by decide +kernel
theorem dL_law_525 : decode cL_law 525 = .ok (.iload_n 3, 1) := by decide +kernel
theorem dL_law_526 : decode cL_law 526 = .ok (.iconst 1, 1) := by decide +kernel
theorem dL_law_527 : decode cL_law 527 = .ok (.iadd, 1) := by decide +kernel
theorem dL_law_528 : decode cL_law 528 = .ok (.iaload, 1) := by decide +kernel
theorem dL_law_529 : decode cL_law 529 = .ok (.aload_n 0, 1) := by decide +kernel
theorem dL_law_530 : decode cL_law 530 = .ok (.iload_n 3, 1) := by decide +kernel
theorem dL_law_531 : decode cL_law 531 = .ok (.iconst 2, 1) := by decide +kernel
theorem dL_law_532 : decode cL_law 532 = .ok (.iadd, 1) := by decide +kernel
theorem dL_law_533 : decode cL_law 533 = .ok (.iaload, 1) := by decide +kernel
theorem dL_law_534 : decode cL_law 534 = .ok (.aload_n 0, 1) := by decide +kernel
theorem dL_law_535 : decode cL_law 535 = .ok (.iload_n 3, 1) := by decide +kernel
theorem dL_law_536 : decode cL_law 536 = .ok (.iconst 3, 1) := by decide +kernel
theorem dL_law_537 : decode cL_law 537 = .ok (.iadd, 1) := by decide +kernel
theorem dL_law_538 : decode cL_law 538 = .ok (.iaload, 1) := by decide +kernel
theorem dL_law_539 : decode cL_law 539 = .ok (.invokevirtual 61, 3) := by decide +kernel
theorem dL_law_542 : decode cL_law 542 = .ok (.aload_n 2, 1) := by decide +kernel
theorem dL_law_543 : decode cL_law 543 = .ok (.aload_n 0, 1) := by decide +kernel
theorem dL_law_544 : decode cL_law 544 = .ok (.iload_n 3, 1) := by decide +kernel
theorem dL_law_545 : decode cL_law 545 = .ok (.iconst 1, 1) := by decide +kernel
theorem dL_law_546 : decode cL_law 546 = .ok (.iadd, 1) := by decide +kernel
theorem dL_law_547 : decode cL_law 547 = .ok (.iaload, 1) := by decide +kernel
theorem dL_law_548 : decode cL_law 548 = .ok (.aload_n 0, 1) := by decide +kernel
theorem dL_law_549 : decode cL_law 549 = .ok (.iload_n 3, 1) := by decide +kernel
theorem dL_law_550 : decode cL_law 550 = .ok (.iconst 2, 1) := by decide +kernel
theorem dL_law_551 : decode cL_law 551 = .ok (.iadd, 1) := by decide +kernel
theorem dL_law_552 : decode cL_law 552 = .ok (.iaload, 1) := by decide +kernel
theorem dL_law_553 : decode cL_law 553 = .ok (.aload_n 0, 1) := by decide +kernel
theorem dL_law_554 : decode cL_law 554 = .ok (.iload_n 3, 1) := by decide +kernel
theorem dL_law_555 : decode cL_law 555 = .ok (.iconst 3, 1) := by decide +kernel
theorem dL_law_556 : decode cL_law 556 = .ok (.iadd, 1) := by decide +kernel
theorem dL_law_557 : decode cL_law 557 = .ok (.iaload, 1) := by decide +kernel
theorem dL_law_558 : decode cL_law 558 = .ok (.invokevirtual 64, 3) := by decide +kernel
theorem dL_law_561 : decode cL_law 561 = .ok (.if_icmp .eq 655, 3) := by decide +kernel
theorem dL_law_564 : decode cL_law 564 = .ok (.iconst 0, 1) := by decide +kernel
theorem dL_law_565 : decode cL_law 565 = .ok (.ireturn, 1) := by decide +kernel
theorem dL_law_566 : decode cL_law 566 = .ok (.aload_n 1, 1) := by decide +kernel
theorem dL_law_567 : decode cL_law 567 = .ok (.aload_n 0, 1) := by decide +kernel
theorem dL_law_568 : decode cL_law 568 = .ok (.iload_n 3, 1) := by decide +kernel
theorem dL_law_569 : decode cL_law 569 = .ok (.iconst 1, 1) := by decide +kernel
theorem dL_law_570 : decode cL_law 570 = .ok (.iadd, 1) := by decide +kernel
theorem dL_law_571 : decode cL_law 571 = .ok (.iaload, 1) := by decide +kernel
theorem dL_law_572 : decode cL_law 572 = .ok (.aload_n 0, 1) := by decide +kernel
theorem dL_law_573 : decode cL_law 573 = .ok (.iload_n 3, 1) := by decide +kernel
theorem dL_law_574 : decode cL_law 574 = .ok (.iconst 2, 1) := by decide +kernel
theorem dL_law_575 : decode cL_law 575 = .ok (.iadd, 1) := by decide +kernel
theorem dL_law_576 : decode cL_law 576 = .ok (.iaload, 1) := by decide +kernel
theorem dL_law_577 : decode cL_law 577 = .ok (.aload_n 0, 1) := by decide +kernel
theorem dL_law_578 : decode cL_law 578 = .ok (.iload_n 3, 1) := by decide +kernel
theorem dL_law_579 : decode cL_law 579 = .ok (.iconst 3, 1) := by decide +kernel
theorem dL_law_580 : decode cL_law 580 = .ok (.iadd, 1) := by decide +kernel
theorem dL_law_581 : decode cL_law 581 = .ok (.iaload, 1) := by decide +kernel
theorem dL_law_582 : decode cL_law 582 = .ok (.invokevirtual 65, 3) := by decide +kernel
theorem dL_law_585 : decode cL_law 585 = .ok (.aload_n 2, 1) := by decide +kernel
theorem dL_law_586 : decode cL_law 586 = .ok (.aload_n 0, 1) := by decide +kernel
theorem dL_law_587 : decode cL_law 587 = .ok (.iload_n 3, 1) := by decide +kernel
theorem dL_law_588 : decode cL_law 588 = .ok (.iconst 1, 1) := by decide +kernel
theorem dL_law_589 : decode cL_law 589 = .ok (.iadd, 1) := by decide +kernel
theorem dL_law_590 : decode cL_law 590 = .ok (.iaload, 1) := by decide +kernel
theorem dL_law_591 : decode cL_law 591 = .ok (.aload_n 0, 1) := by decide +kernel
theorem dL_law_592 : decode cL_law 592 = .ok (.iload_n 3, 1) := by decide +kernel
theorem dL_law_593 : decode cL_law 593 = .ok (.iconst 2, 1) := by decide +kernel
theorem dL_law_594 : decode cL_law 594 = .ok (.iadd, 1) := by decide +kernel
theorem dL_law_595 : decode cL_law 595 = .ok (.iaload, 1) := by decide +kernel
theorem dL_law_596 : decode cL_law 596 = .ok (.aload_n 0, 1) := by decide +kernel
theorem dL_law_597 : decode cL_law 597 = .ok (.iload_n 3, 1) := by decide +kernel
theorem dL_law_598 : decode cL_law 598 = .ok (.iconst 3, 1) := by decide +kernel
theorem dL_law_599 : decode cL_law 599 = .ok (.iadd, 1) := by decide +kernel
theorem dL_law_600 : decode cL_law 600 = .ok (.iaload, 1) := by decide +kernel
theorem dL_law_601 : decode cL_law 601 = .ok (.invokevirtual 68, 3) := by decide +kernel
theorem dL_law_604 : decode cL_law 604 = .ok (.if_icmp .eq 612, 3) := by decide +kernel
theorem dL_law_607 : decode cL_law 607 = .ok (.iconst 0, 1) := by decide +kernel
theorem dL_law_608 : decode cL_law 608 = .ok (.ireturn, 1) := by decide +kernel
theorem dL_law_609 : decode cL_law 609 = .ok (.aload_n 1, 1) := by decide +kernel
theorem dL_law_610 : decode cL_law 610 = .ok (.aload_n 0, 1) := by decide +kernel
theorem dL_law_611 : decode cL_law 611 = .ok (.iload_n 3, 1) := by decide +kernel
theorem dL_law_612 : decode cL_law 612 = .ok (.iconst 1, 1) := by decide +kernel
theorem dL_law_613 : decode cL_law 613 = .ok (.iadd, 1) := by decide +kernel
theorem dL_law_614 : decode cL_law 614 = .ok (.iaload, 1) := by decide +kernel
theorem dL_law_615 : decode cL_law 615 = .ok (.invokevirtual 69, 3) := by decide +kernel
theorem dL_law_618 : decode cL_law 618 = .ok (.aload_n 2, 1) := by decide +kernel
theorem dL_law_619 : decode cL_law 619 = .ok (.aload_n 0, 1) := by decide +kernel
theorem dL_law_620 : decode cL_law 620 = .ok (.iload_n 3, 1) := by decide +kernel
theorem dL_law_621 : decode cL_law 621 = .ok (.iconst 1, 1) := by decide +kernel
theorem dL_law_622 : decode cL_law 622 = .ok (.iadd, 1) := by decide +kernel
theorem dL_law_623 : decode cL_law 623 = .ok (.iaload, 1) := by decide +kernel
theorem dL_law_624 : decode cL_law 624 = .ok (.invokevirtual 72, 3) := by decide +kernel
theorem dL_law_627 : decode cL_law 627 = .ok (.if_icmp .eq 589, 3) := by decide +kernel
theorem dL_law_630 : decode cL_law 630 = .ok (.iconst 0, 1) := by decide +kernel
theorem dL_law_631 : decode cL_law 631 = .ok (.ireturn, 1) := by decide +kernel
theorem dL_law_632 : decode cL_law 632 = .ok (.aload_n 1, 1) := by decide +kernel
theorem dL_law_633 : decode cL_law 633 = .ok (.invokevirtual 73, 3) := by decide +kernel
theorem dL_law_636 : decode cL_law 636 = .ok (.aload_n 2, 1) := by decide +kernel
theorem dL_law_637 : decode cL_law 637 = .ok (.invokevirtual 76, 3) := by decide +kernel
theorem dL_law_640 : decode cL_law 640 = .ok (.if_icmp .eq 576, 3) := by decide +kernel
theorem dL_law_643 : decode cL_law 643 = .ok (.iconst 0, 1) := by decide +kernel
theorem dL_law_644 : decode cL_law 644 = .ok (.ireturn, 1) := by decide +kernel
theorem dL_law_645 : decode cL_law 645 = .ok (.aload_n 1, 1) := by decide +kernel
theorem dL_law_646 : decode cL_law 646 = .ok (.aload_n 0, 1) := by decide +kernel
theorem dL_law_647 : decode cL_law 647 = .ok (.iload_n 3, 1) := by decide +kernel
theorem dL_law_648 : decode cL_law 648 = .ok (.iconst 1, 1) := by decide +kernel
theorem dL_law_649 : decode cL_law 649 = .ok (.iadd, 1) := by decide +kernel
theorem dL_law_650 : decode cL_law 650 = .ok (.iaload, 1) := by decide +kernel
theorem dL_law_651 : decode cL_law 651 = .ok (.invokevirtual 77, 3) := by decide +kernel
theorem dL_law_654 : decode cL_law 654 = .ok (.aload_n 2, 1) := by decide +kernel
theorem dL_law_655 : decode cL_law 655 = .ok (.aload_n 0, 1) := by decide +kernel
theorem dL_law_656 : decode cL_law 656 = .ok (.iload_n 3, 1) := by decide +kernel
theorem dL_law_657 : decode cL_law 657 = .ok (.iconst 1, 1) := by decide +kernel
theorem dL_law_658 : decode cL_law 658 = .ok (.iadd, 1) := by decide +kernel
theorem dL_law_659 : decode cL_law 659 = .ok (.iaload, 1) := by decide +kernel
theorem dL_law_660 : decode cL_law 660 = .ok (.invokevirtual 80, 3) := by decide +kernel
theorem dL_law_663 : decode cL_law 663 = .ok (.if_icmp .eq 553, 3) := by decide +kernel
theorem dL_law_666 : decode cL_law 666 = .ok (.iconst 0, 1) := by decide +kernel
theorem dL_law_667 : decode cL_law 667 = .ok (.ireturn, 1) := by decide +kernel
theorem dL_law_668 : decode cL_law 668 = .ok (.aload_n 1, 1) := by decide +kernel
theorem dL_law_669 : decode cL_law 669 = .ok (.aload_n 0, 1) := by decide +kernel
theorem dL_law_670 : decode cL_law 670 = .ok (.iload_n 3, 1) := by decide +kernel
theorem dL_law_671 : decode cL_law 671 = .ok (.iconst 1, 1) := by decide +kernel
theorem dL_law_672 : decode cL_law 672 = .ok (.iadd, 1) := by decide +kernel
theorem dL_law_673 : decode cL_law 673 = .ok (.iaload, 1) := by decide +kernel
theorem dL_law_674 : decode cL_law 674 = .ok (.aload_n 0, 1) := by decide +kernel
theorem dL_law_675 : decode cL_law 675 = .ok (.iload_n 3, 1) := by decide +kernel
theorem dL_law_676 : decode cL_law 676 = .ok (.iconst 2, 1) := by decide +kernel
theorem dL_law_677 : decode cL_law 677 = .ok (.iadd, 1) := by decide +kernel
theorem dL_law_678 : decode cL_law 678 = .ok (.iaload, 1) := by decide +kernel
theorem dL_law_679 : decode cL_law 679 = .ok (.invokevirtual 81, 3) := by decide +kernel
theorem dL_law_682 : decode cL_law 682 = .ok (.aload_n 2, 1) := by decide +kernel
theorem dL_law_683 : decode cL_law 683 = .ok (.aload_n 0, 1) := by decide +kernel
theorem dL_law_684 : decode cL_law 684 = .ok (.iload_n 3, 1) := by decide +kernel
theorem dL_law_685 : decode cL_law 685 = .ok (.iconst 1, 1) := by decide +kernel
theorem dL_law_686 : decode cL_law 686 = .ok (.iadd, 1) := by decide +kernel
theorem dL_law_687 : decode cL_law 687 = .ok (.iaload, 1) := by decide +kernel
theorem dL_law_688 : decode cL_law 688 = .ok (.aload_n 0, 1) := by decide +kernel
theorem dL_law_689 : decode cL_law 689 = .ok (.iload_n 3, 1) := by decide +kernel
theorem dL_law_690 : decode cL_law 690 = .ok (.iconst 2, 1) := by decide +kernel
theorem dL_law_691 : decode cL_law 691 = .ok (.iadd, 1) := by decide +kernel
theorem dL_law_692 : decode cL_law 692 = .ok (.iaload, 1) := by decide +kernel
theorem dL_law_693 : decode cL_law 693 = .ok (.invokevirtual 84, 3) := by decide +kernel
theorem dL_law_696 : decode cL_law 696 = .ok (.if_icmp .eq 520, 3) := by decide +kernel
theorem dL_law_699 : decode cL_law 699 = .ok (.iconst 0, 1) := by decide +kernel
theorem dL_law_700 : decode cL_law 700 = .ok (.ireturn, 1) := by decide +kernel
theorem dL_law_701 : decode cL_law 701 = .ok (.aload_n 1, 1) := by decide +kernel
theorem dL_law_702 : decode cL_law 702 = .ok (.aload_n 0, 1) := by decide +kernel
theorem dL_law_703 : decode cL_law 703 = .ok (.iload_n 3, 1) := by decide +kernel
theorem dL_law_704 : decode cL_law 704 = .ok (.iconst 1, 1) := by decide +kernel
theorem dL_law_705 : decode cL_law 705 = .ok (.iadd, 1) := by decide +kernel
theorem dL_law_706 : decode cL_law 706 = .ok (.iaload, 1) := by decide +kernel
theorem dL_law_707 : decode cL_law 707 = .ok (.aload_n 0, 1) := by decide +kernel
theorem dL_law_708 : decode cL_law 708 = .ok (.iload_n 3, 1) := by decide +kernel
theorem dL_law_709 : decode cL_law 709 = .ok (.iconst 2, 1) := by decide +kernel
theorem dL_law_710 : decode cL_law 710 = .ok (.iadd, 1) := by decide +kernel
theorem dL_law_711 : decode cL_law 711 = .ok (.iaload, 1) := by decide +kernel
theorem dL_law_712 : decode cL_law 712 = .ok (.invokevirtual 85, 3) := by decide +kernel
theorem dL_law_715 : decode cL_law 715 = .ok (.aload_n 2, 1) := by decide +kernel
theorem dL_law_716 : decode cL_law 716 = .ok (.aload_n 0, 1) := by decide +kernel
theorem dL_law_717 : decode cL_law 717 = .ok (.iload_n 3, 1) := by decide +kernel
theorem dL_law_718 : decode cL_law 718 = .ok (.iconst 1, 1) := by decide +kernel
theorem dL_law_719 : decode cL_law 719 = .ok (.iadd, 1) := by decide +kernel
theorem dL_law_720 : decode cL_law 720 = .ok (.iaload, 1) := by decide +kernel
theorem dL_law_721 : decode cL_law 721 = .ok (.aload_n 0, 1) := by decide +kernel
theorem dL_law_722 : decode cL_law 722 = .ok (.iload_n 3, 1) := by decide +kernel
theorem dL_law_723 : decode cL_law 723 = .ok (.iconst 2, 1) := by decide +kernel
theorem dL_law_724 : decode cL_law 724 = .ok (.iadd, 1) := by decide +kernel
theorem dL_law_725 : decode cL_law 725 = .ok (.iaload, 1) := by decide +kernel
theorem dL_law_726 : decode cL_law 726 = .ok (.invokevirtual 88, 3) := by decide +kernel
theorem dL_law_729 : decode cL_law 729 = .ok (.if_icmp .eq 487, 3) := by decide +kernel
theorem dL_law_732 : decode cL_law 732 = .ok (.iconst 0, 1) := by decide +kernel
theorem dL_law_733 : decode cL_law 733 = .ok (.ireturn, 1) := by decide +kernel
theorem dL_law_734 : decode cL_law 734 = .ok (.aload_n 1, 1) := by decide +kernel
theorem dL_law_735 : decode cL_law 735 = .ok (.aload_n 0, 1) := by decide +kernel
theorem dL_law_736 : decode cL_law 736 = .ok (.iload_n 3, 1) := by decide +kernel
theorem dL_law_737 : decode cL_law 737 = .ok (.iconst 1, 1) := by decide +kernel
theorem dL_law_738 : decode cL_law 738 = .ok (.iadd, 1) := by decide +kernel
theorem dL_law_739 : decode cL_law 739 = .ok (.iaload, 1) := by decide +kernel
theorem dL_law_740 : decode cL_law 740 = .ok (.invokevirtual 89, 3) := by decide +kernel
theorem dL_law_743 : decode cL_law 743 = .ok (.aload_n 2, 1) := by decide +kernel
theorem dL_law_744 : decode cL_law 744 = .ok (.aload_n 0, 1) := by decide +kernel
theorem dL_law_745 : decode cL_law 745 = .ok (.iload_n 3, 1) := by decide +kernel
theorem dL_law_746 : decode cL_law 746 = .ok (.iconst 1, 1) := by decide +kernel
theorem dL_law_747 : decode cL_law 747 = .ok (.iadd, 1) := by decide +kernel
theorem dL_law_748 : decode cL_law 748 = .ok (.iaload, 1) := by decide +kernel
theorem dL_law_749 : decode cL_law 749 = .ok (.invokevirtual 92, 3) := by decide +kernel
theorem dL_law_752 : decode cL_law 752 = .ok (.if_icmp .eq 464, 3) := by decide +kernel
theorem dL_law_755 : decode cL_law 755 = .ok (.iconst 0, 1) := by decide +kernel
theorem dL_law_756 : decode cL_law 756 = .ok (.ireturn, 1) := by decide +kernel
theorem dL_law_757 : decode cL_law 757 = .ok (.aload_n 1, 1) := by decide +kernel
theorem dL_law_758 : decode cL_law 758 = .ok (.aload_n 0, 1) := by decide +kernel
theorem dL_law_759 : decode cL_law 759 = .ok (.iload_n 3, 1) := by decide +kernel
theorem dL_law_760 : decode cL_law 760 = .ok (.iconst 1, 1) := by decide +kernel
theorem dL_law_761 : decode cL_law 761 = .ok (.iadd, 1) := by decide +kernel
theorem dL_law_762 : decode cL_law 762 = .ok (.iaload, 1) := by decide +kernel
theorem dL_law_763 : decode cL_law 763 = .ok (.invokevirtual 93, 3) := by decide +kernel
theorem dL_law_766 : decode cL_law 766 = .ok (.aload_n 2, 1) := by decide +kernel
theorem dL_law_767 : decode cL_law 767 = .ok (.aload_n 0, 1) := by decide +kernel
theorem dL_law_768 : decode cL_law 768 = .ok (.iload_n 3, 1) := by decide +kernel
theorem dL_law_769 : decode cL_law 769 = .ok (.iconst 1, 1) := by decide +kernel
theorem dL_law_770 : decode cL_law 770 = .ok (.iadd, 1) := by decide +kernel
theorem dL_law_771 : decode cL_law 771 = .ok (.iaload, 1) := by decide +kernel
theorem dL_law_772 : decode cL_law 772 = .ok (.invokevirtual 96, 3) := by decide +kernel
theorem dL_law_775 : decode cL_law 775 = .ok (.if_icmp .eq 441, 3) := by decide +kernel
theorem dL_law_778 : decode cL_law 778 = .ok (.iconst 0, 1) := by decide +kernel
theorem dL_law_779 : decode cL_law 779 = .ok (.ireturn, 1) := by decide +kernel
theorem dL_law_780 : decode cL_law 780 = .ok (.aload_n 1, 1) := by decide +kernel
theorem dL_law_781 : decode cL_law 781 = .ok (.aload_n 0, 1) := by decide +kernel
theorem dL_law_782 : decode cL_law 782 = .ok (.iload_n 3, 1) := by decide +kernel
theorem dL_law_783 : decode cL_law 783 = .ok (.iconst 1, 1) := by decide +kernel
theorem dL_law_784 : decode cL_law 784 = .ok (.iadd, 1) := by decide +kernel
theorem dL_law_785 : decode cL_law 785 = .ok (.iaload, 1) := by decide +kernel
theorem dL_law_786 : decode cL_law 786 = .ok (.invokevirtual 97, 3) := by decide +kernel
theorem dL_law_789 : decode cL_law 789 = .ok (.aload_n 2, 1) := by decide +kernel
theorem dL_law_790 : decode cL_law 790 = .ok (.aload_n 0, 1) := by decide +kernel
theorem dL_law_791 : decode cL_law 791 = .ok (.iload_n 3, 1) := by decide +kernel
theorem dL_law_792 : decode cL_law 792 = .ok (.iconst 1, 1) := by decide +kernel
theorem dL_law_793 : decode cL_law 793 = .ok (.iadd, 1) := by decide +kernel
theorem dL_law_794 : decode cL_law 794 = .ok (.iaload, 1) := by decide +kernel
theorem dL_law_795 : decode cL_law 795 = .ok (.invokevirtual 100, 3) := by decide +kernel
theorem dL_law_798 : decode cL_law 798 = .ok (.if_icmp .eq 418, 3) := by decide +kernel
theorem dL_law_801 : decode cL_law 801 = .ok (.iconst 0, 1) := by decide +kernel
theorem dL_law_802 : decode cL_law 802 = .ok (.ireturn, 1) := by decide +kernel
theorem dL_law_803 : decode cL_law 803 = .ok (.aload_n 1, 1) := by decide +kernel
theorem dL_law_804 : decode cL_law 804 = .ok (.aload_n 0, 1) := by decide +kernel
theorem dL_law_805 : decode cL_law 805 = .ok (.iload_n 3, 1) := by decide +kernel
theorem dL_law_806 : decode cL_law 806 = .ok (.iconst 1, 1) := by decide +kernel
theorem dL_law_807 : decode cL_law 807 = .ok (.iadd, 1) := by decide +kernel
theorem dL_law_808 : decode cL_law 808 = .ok (.iaload, 1) := by decide +kernel
theorem dL_law_809 : decode cL_law 809 = .ok (.aload_n 0, 1) := by decide +kernel
theorem dL_law_810 : decode cL_law 810 = .ok (.iload_n 3, 1) := by decide +kernel
theorem dL_law_811 : decode cL_law 811 = .ok (.iconst 2, 1) := by decide +kernel
theorem dL_law_812 : decode cL_law 812 = .ok (.iadd, 1) := by decide +kernel
theorem dL_law_813 : decode cL_law 813 = .ok (.iaload, 1) := by decide +kernel
theorem dL_law_814 : decode cL_law 814 = .ok (.invokevirtual 101, 3) := by decide +kernel
theorem dL_law_817 : decode cL_law 817 = .ok (.aload_n 2, 1) := by decide +kernel
theorem dL_law_818 : decode cL_law 818 = .ok (.aload_n 0, 1) := by decide +kernel
theorem dL_law_819 : decode cL_law 819 = .ok (.iload_n 3, 1) := by decide +kernel
theorem dL_law_820 : decode cL_law 820 = .ok (.iconst 1, 1) := by decide +kernel
theorem dL_law_821 : decode cL_law 821 = .ok (.iadd, 1) := by decide +kernel
theorem dL_law_822 : decode cL_law 822 = .ok (.iaload, 1) := by decide +kernel
theorem dL_law_823 : decode cL_law 823 = .ok (.aload_n 0, 1) := by decide +kernel
theorem dL_law_824 : decode cL_law 824 = .ok (.iload_n 3, 1) := by decide +kernel
theorem dL_law_825 : decode cL_law 825 = .ok (.iconst 2, 1) := by decide +kernel
theorem dL_law_826 : decode cL_law 826 = .ok (.iadd, 1) := by decide +kernel
theorem dL_law_827 : decode cL_law 827 = .ok (.iaload, 1) := by decide +kernel
theorem dL_law_828 : decode cL_law 828 = .ok (.invokevirtual 104, 3) := by decide +kernel
theorem dL_law_831 : decode cL_law 831 = .ok (.if_icmp .eq 385, 3) := by decide +kernel
theorem dL_law_834 : decode cL_law 834 = .ok (.iconst 0, 1) := by decide +kernel
theorem dL_law_835 : decode cL_law 835 = .ok (.ireturn, 1) := by decide +kernel
theorem dL_law_836 : decode cL_law 836 = .ok (.aload_n 1, 1) := by decide +kernel
theorem dL_law_837 : decode cL_law 837 = .ok (.invokevirtual 105, 3) := by decide +kernel
theorem dL_law_840 : decode cL_law 840 = .ok (.aload_n 2, 1) := by decide +kernel
theorem dL_law_841 : decode cL_law 841 = .ok (.invokevirtual 108, 3) := by decide +kernel
theorem dL_law_844 : decode cL_law 844 = .ok (.if_icmp .eq 372, 3) := by decide +kernel
theorem dL_law_847 : decode cL_law 847 = .ok (.iconst 0, 1) := by decide +kernel
theorem dL_law_848 : decode cL_law 848 = .ok (.ireturn, 1) := by decide +kernel
theorem dL_law_849 : decode cL_law 849 = .ok (.aload_n 1, 1) := by decide +kernel
theorem dL_law_850 : decode cL_law 850 = .ok (.invokevirtual 109, 3) := by decide +kernel
theorem dL_law_853 : decode cL_law 853 = .ok (.aload_n 2, 1) := by decide +kernel
theorem dL_law_854 : decode cL_law 854 = .ok (.invokevirtual 112, 3) := by decide +kernel
theorem dL_law_857 : decode cL_law 857 = .ok (.if_icmp .eq 359, 3) := by decide +kernel
theorem dL_law_860 : decode cL_law 860 = .ok (.iconst 0, 1) := by decide +kernel
theorem dL_law_861 : decode cL_law 861 = .ok (.ireturn, 1) := by decide +kernel
theorem dL_law_862 : decode cL_law 862 = .ok (.aload_n 1, 1) := by decide +kernel
theorem dL_law_863 : decode cL_law 863 = .ok (.aload_n 0, 1) := by decide +kernel
theorem dL_law_864 : decode cL_law 864 = .ok (.iload_n 3, 1) := by decide +kernel
theorem dL_law_865 : decode cL_law 865 = .ok (.iconst 1, 1) := by decide +kernel
theorem dL_law_866 : decode cL_law 866 = .ok (.iadd, 1) := by decide +kernel
theorem dL_law_867 : decode cL_law 867 = .ok (.iaload, 1) := by decide +kernel
theorem dL_law_868 : decode cL_law 868 = .ok (.invokevirtual 113, 3) := by decide +kernel
theorem dL_law_871 : decode cL_law 871 = .ok (.aload_n 2, 1) := by decide +kernel
theorem dL_law_872 : decode cL_law 872 = .ok (.aload_n 0, 1) := by decide +kernel
theorem dL_law_873 : decode cL_law 873 = .ok (.iload_n 3, 1) := by decide +kernel
theorem dL_law_874 : decode cL_law 874 = .ok (.iconst 1, 1) := by decide +kernel
theorem dL_law_875 : decode cL_law 875 = .ok (.iadd, 1) := by decide +kernel
theorem dL_law_876 : decode cL_law 876 = .ok (.iaload, 1) := by decide +kernel
theorem dL_law_877 : decode cL_law 877 = .ok (.invokevirtual 116, 3) := by decide +kernel
theorem dL_law_880 : decode cL_law 880 = .ok (.if_icmp .eq 336, 3) := by decide +kernel
theorem dL_law_883 : decode cL_law 883 = .ok (.iconst 0, 1) := by decide +kernel
theorem dL_law_884 : decode cL_law 884 = .ok (.ireturn, 1) := by decide +kernel
theorem dL_law_885 : decode cL_law 885 = .ok (.aload_n 1, 1) := by decide +kernel
theorem dL_law_886 : decode cL_law 886 = .ok (.invokevirtual 117, 3) := by decide +kernel
theorem dL_law_889 : decode cL_law 889 = .ok (.aload_n 2, 1) := by decide +kernel
theorem dL_law_890 : decode cL_law 890 = .ok (.invokevirtual 120, 3) := by decide +kernel
theorem dL_law_893 : decode cL_law 893 = .ok (.if_icmp .eq 323, 3) := by decide +kernel
theorem dL_law_896 : decode cL_law 896 = .ok (.iconst 0, 1) := by decide +kernel
theorem dL_law_897 : decode cL_law 897 = .ok (.ireturn, 1) := by decide +kernel
theorem dL_law_898 : decode cL_law 898 = .ok (.aload_n 1, 1) := by decide +kernel
theorem dL_law_899 : decode cL_law 899 = .ok (.invokevirtual 121, 3) := by decide +kernel
theorem dL_law_902 : decode cL_law 902 = .ok (.aload_n 2, 1) := by decide +kernel
theorem dL_law_903 : decode cL_law 903 = .ok (.invokevirtual 124, 3) := by decide +kernel
theorem dL_law_906 : decode cL_law 906 = .ok (.if_icmp .eq 310, 3) := by decide +kernel
theorem dL_law_909 : decode cL_law 909 = .ok (.iconst 0, 1) := by decide +kernel
theorem dL_law_910 : decode cL_law 910 = .ok (.ireturn, 1) := by decide +kernel
theorem dL_law_911 : decode cL_law 911 = .ok (.aload_n 1, 1) := by decide +kernel
theorem dL_law_912 : decode cL_law 912 = .ok (.aload_n 0, 1) := by decide +kernel
theorem dL_law_913 : decode cL_law 913 = .ok (.iload_n 3, 1) := by decide +kernel
theorem dL_law_914 : decode cL_law 914 = .ok (.iconst 1, 1) := by decide +kernel
theorem dL_law_915 : decode cL_law 915 = .ok (.iadd, 1) := by decide +kernel
theorem dL_law_916 : decode cL_law 916 = .ok (.iaload, 1) := by decide +kernel
theorem dL_law_917 : decode cL_law 917 = .ok (.aload_n 0, 1) := by decide +kernel
theorem dL_law_918 : decode cL_law 918 = .ok (.iload_n 3, 1) := by decide +kernel
theorem dL_law_919 : decode cL_law 919 = .ok (.iconst 2, 1) := by decide +kernel
theorem dL_law_920 : decode cL_law 920 = .ok (.iadd, 1) := by decide +kernel
theorem dL_law_921 : decode cL_law 921 = .ok (.iaload, 1) := by decide +kernel
theorem dL_law_922 : decode cL_law 922 = .ok (.aload_n 0, 1) := by decide +kernel
theorem dL_law_923 : decode cL_law 923 = .ok (.iload_n 3, 1) := by decide +kernel
theorem dL_law_924 : decode cL_law 924 = .ok (.iconst 3, 1) := by decide +kernel
theorem dL_law_925 : decode cL_law 925 = .ok (.iadd, 1) := by decide +kernel
theorem dL_law_926 : decode cL_law 926 = .ok (.iaload, 1) := by decide +kernel
theorem dL_law_927 : decode cL_law 927 = .ok (.invokevirtual 125, 3) := by decide +kernel
theorem dL_law_930 : decode cL_law 930 = .ok (.aload_n 2, 1) := by decide +kernel
theorem dL_law_931 : decode cL_law 931 = .ok (.aload_n 0, 1) := by decide +kernel
theorem dL_law_932 : decode cL_law 932 = .ok (.iload_n 3, 1) := by decide +kernel
theorem dL_law_933 : decode cL_law 933 = .ok (.iconst 1, 1) := by decide +kernel
theorem dL_law_934 : decode cL_law 934 = .ok (.iadd, 1) := by decide +kernel
theorem dL_law_935 : decode cL_law 935 = .ok (.iaload, 1) := by decide +kernel
theorem dL_law_936 : decode cL_law 936 = .ok (.aload_n 0, 1) := by decide +kernel
theorem dL_law_937 : decode cL_law 937 = .ok (.iload_n 3, 1) := by decide +kernel
theorem dL_law_938 : decode cL_law 938 = .ok (.iconst 2, 1) := by decide +kernel
theorem dL_law_939 : decode cL_law 939 = .ok (.iadd, 1) := by decide +kernel
theorem dL_law_940 : decode cL_law 940 = .ok (.iaload, 1) := by decide +kernel
theorem dL_law_941 : decode cL_law 941 = .ok (.aload_n 0, 1) := by decide +kernel
theorem dL_law_942 : decode cL_law 942 = .ok (.iload_n 3, 1) := by decide +kernel
theorem dL_law_943 : decode cL_law 943 = .ok (.iconst 3, 1) := by decide +kernel
theorem dL_law_944 : decode cL_law 944 = .ok (.iadd, 1) := by decide +kernel
theorem dL_law_945 : decode cL_law 945 = .ok (.iaload, 1) := by decide +kernel
theorem dL_law_946 : decode cL_law 946 = .ok (.invokevirtual 128, 3) := by decide +kernel
theorem dL_law_949 : decode cL_law 949 = .ok (.if_icmp .eq 267, 3) := by decide +kernel
theorem dL_law_952 : decode cL_law 952 = .ok (.iconst 0, 1) := by decide +kernel
theorem dL_law_953 : decode cL_law 953 = .ok (.ireturn, 1) := by decide +kernel
theorem dL_law_954 : decode cL_law 954 = .ok (.aload_n 1, 1) := by decide +kernel
theorem dL_law_955 : decode cL_law 955 = .ok (.aload_n 0, 1) := by decide +kernel
theorem dL_law_956 : decode cL_law 956 = .ok (.iload_n 3, 1) := by decide +kernel
theorem dL_law_957 : decode cL_law 957 = .ok (.iconst 1, 1) := by decide +kernel
theorem dL_law_958 : decode cL_law 958 = .ok (.iadd, 1) := by decide +kernel
theorem dL_law_959 : decode cL_law 959 = .ok (.iaload, 1) := by decide +kernel
theorem dL_law_960 : decode cL_law 960 = .ok (.aload_n 0, 1) := by decide +kernel
theorem dL_law_961 : decode cL_law 961 = .ok (.iload_n 3, 1) := by decide +kernel
theorem dL_law_962 : decode cL_law 962 = .ok (.iconst 2, 1) := by decide +kernel
theorem dL_law_963 : decode cL_law 963 = .ok (.iadd, 1) := by decide +kernel
theorem dL_law_964 : decode cL_law 964 = .ok (.iaload, 1) := by decide +kernel
theorem dL_law_965 : decode cL_law 965 = .ok (.aload_n 0, 1) := by decide +kernel
theorem dL_law_966 : decode cL_law 966 = .ok (.iload_n 3, 1) := by decide +kernel
theorem dL_law_967 : decode cL_law 967 = .ok (.iconst 3, 1) := by decide +kernel
theorem dL_law_968 : decode cL_law 968 = .ok (.iadd, 1) := by decide +kernel
theorem dL_law_969 : decode cL_law 969 = .ok (.iaload, 1) := by decide +kernel
theorem dL_law_970 : decode cL_law 970 = .ok (.aload_n 0, 1) := by decide +kernel
theorem dL_law_971 : decode cL_law 971 = .ok (.iload_n 3, 1) := by decide +kernel
theorem dL_law_972 : decode cL_law 972 = .ok (.iconst 4, 1) := by decide +kernel
theorem dL_law_973 : decode cL_law 973 = .ok (.iadd, 1) := by decide +kernel
theorem dL_law_974 : decode cL_law 974 = .ok (.iaload, 1) := by decide +kernel
theorem dL_law_975 : decode cL_law 975 = .ok (.invokevirtual 129, 3) := by decide +kernel
theorem dL_law_978 : decode cL_law 978 = .ok (.aload_n 2, 1) := by decide +kernel
theorem dL_law_979 : decode cL_law 979 = .ok (.aload_n 0, 1) := by decide +kernel
theorem dL_law_980 : decode cL_law 980 = .ok (.iload_n 3, 1) := by decide +kernel
theorem dL_law_981 : decode cL_law 981 = .ok (.iconst 1, 1) := by decide +kernel
theorem dL_law_982 : decode cL_law 982 = .ok (.iadd, 1) := by decide +kernel
theorem dL_law_983 : decode cL_law 983 = .ok (.iaload, 1) := by decide +kernel
theorem dL_law_984 : decode cL_law 984 = .ok (.aload_n 0, 1) := by decide +kernel
theorem dL_law_985 : decode cL_law 985 = .ok (.iload_n 3, 1) := by decide +kernel
theorem dL_law_986 : decode cL_law 986 = .ok (.iconst 2, 1) := by decide +kernel
theorem dL_law_987 : decode cL_law 987 = .ok (.iadd, 1) := by decide +kernel
theorem dL_law_988 : decode cL_law 988 = .ok (.iaload, 1) := by decide +kernel
theorem dL_law_989 : decode cL_law 989 = .ok (.aload_n 0, 1) := by decide +kernel
theorem dL_law_990 : decode cL_law 990 = .ok (.iload_n 3, 1) := by decide +kernel
theorem dL_law_991 : decode cL_law 991 = .ok (.iconst 3, 1) := by decide +kernel
theorem dL_law_992 : decode cL_law 992 = .ok (.iadd, 1) := by decide +kernel
theorem dL_law_993 : decode cL_law 993 = .ok (.iaload, 1) := by decide +kernel
theorem dL_law_994 : decode cL_law 994 = .ok (.aload_n 0, 1) := by decide +kernel
theorem dL_law_995 : decode cL_law 995 = .ok (.iload_n 3, 1) := by decide +kernel
theorem dL_law_996 : decode cL_law 996 = .ok (.iconst 4, 1) := by decide +kernel
theorem dL_law_997 : decode cL_law 997 = .ok (.iadd, 1) := by decide +kernel
theorem dL_law_998 : decode cL_law 998 = .ok (.iaload, 1) := by decide +kernel
theorem dL_law_999 : decode cL_law 999 = .ok (.invokevirtual 133, 3) := by decide +kernel
theorem dL_law_1002 : decode cL_law 1002 = .ok (.lcmp, 1) := by decide +kernel
theorem dL_law_1003 : decode cL_law 1003 = .ok (.ifCond .eq 213, 3) := by decide +kernel
theorem dL_law_1006 : decode cL_law 1006 = .ok (.iconst 0, 1) := by decide +kernel
theorem dL_law_1007 : decode cL_law 1007 = .ok (.ireturn, 1) := by decide +kernel
theorem dL_law_1008 : decode cL_law 1008 = .ok (.aload_n 1, 1) := by decide +kernel
theorem dL_law_1009 : decode cL_law 1009 = .ok (.aload_n 0, 1) := by decide +kernel
theorem dL_law_1010 : decode cL_law 1010 = .ok (.iload_n 3, 1) := by decide +kernel
theorem dL_law_1011 : decode cL_law 1011 = .ok (.iconst 1, 1) := by decide +kernel
theorem dL_law_1012 : decode cL_law 1012 = .ok (.iadd, 1) := by decide +kernel
theorem dL_law_1013 : decode cL_law 1013 = .ok (.iaload, 1) := by decide +kernel
theorem dL_law_1014 : decode cL_law 1014 = .ok (.invokevirtual 134, 3) := by decide +kernel
theorem dL_law_1017 : decode cL_law 1017 = .ok (.aload_n 2, 1) := by decide +kernel
theorem dL_law_1018 : decode cL_law 1018 = .ok (.aload_n 0, 1) := by decide +kernel
theorem dL_law_1019 : decode cL_law 1019 = .ok (.iload_n 3, 1) := by decide +kernel
theorem dL_law_1020 : decode cL_law 1020 = .ok (.iconst 1, 1) := by decide +kernel
theorem dL_law_1021 : decode cL_law 1021 = .ok (.iadd, 1) := by decide +kernel
theorem dL_law_1022 : decode cL_law 1022 = .ok (.iaload, 1) := by decide +kernel
theorem dL_law_1023 : decode cL_law 1023 = .ok (.invokevirtual 138, 3) := by decide +kernel
theorem dL_law_1026 : decode cL_law 1026 = .ok (.lcmp, 1) := by decide +kernel
theorem dL_law_1027 : decode cL_law 1027 = .ok (.ifCond .eq 189, 3) := by decide +kernel
theorem dL_law_1030 : decode cL_law 1030 = .ok (.iconst 0, 1) := by decide +kernel
theorem dL_law_1031 : decode cL_law 1031 = .ok (.ireturn, 1) := by decide +kernel
theorem dL_law_1032 : decode cL_law 1032 = .ok (.aload_n 1, 1) := by decide +kernel
theorem dL_law_1033 : decode cL_law 1033 = .ok (.aload_n 0, 1) := by decide +kernel
theorem dL_law_1034 : decode cL_law 1034 = .ok (.iload_n 3, 1) := by decide +kernel
theorem dL_law_1035 : decode cL_law 1035 = .ok (.iconst 1, 1) := by decide +kernel
theorem dL_law_1036 : decode cL_law 1036 = .ok (.iadd, 1) := by decide +kernel
theorem dL_law_1037 : decode cL_law 1037 = .ok (.iaload, 1) := by decide +kernel
theorem dL_law_1038 : decode cL_law 1038 = .ok (.aload_n 0, 1) := by decide +kernel
theorem dL_law_1039 : decode cL_law 1039 = .ok (.iload_n 3, 1) := by decide +kernel
theorem dL_law_1040 : decode cL_law 1040 = .ok (.iconst 2, 1) := by decide +kernel
theorem dL_law_1041 : decode cL_law 1041 = .ok (.iadd, 1) := by decide +kernel
theorem dL_law_1042 : decode cL_law 1042 = .ok (.iaload, 1) := by decide +kernel
theorem dL_law_1043 : decode cL_law 1043 = .ok (.aload_n 0, 1) := by decide +kernel
theorem dL_law_1044 : decode cL_law 1044 = .ok (.iload_n 3, 1) := by decide +kernel
theorem dL_law_1045 : decode cL_law 1045 = .ok (.iconst 3, 1) := by decide +kernel
theorem dL_law_1046 : decode cL_law 1046 = .ok (.iadd, 1) := by decide +kernel
theorem dL_law_1047 : decode cL_law 1047 = .ok (.iaload, 1) := by decide +kernel
theorem dL_law_1048 : decode cL_law 1048 = .ok (.invokevirtual 139, 3) := by decide +kernel
theorem dL_law_1051 : decode cL_law 1051 = .ok (.aload_n 2, 1) := by decide +kernel
theorem dL_law_1052 : decode cL_law 1052 = .ok (.aload_n 0, 1) := by decide +kernel
theorem dL_law_1053 : decode cL_law 1053 = .ok (.iload_n 3, 1) := by decide +kernel
theorem dL_law_1054 : decode cL_law 1054 = .ok (.iconst 1, 1) := by decide +kernel
theorem dL_law_1055 : decode cL_law 1055 = .ok (.iadd, 1) := by decide +kernel
theorem dL_law_1056 : decode cL_law 1056 = .ok (.iaload, 1) := by decide +kernel
theorem dL_law_1057 : decode cL_law 1057 = .ok (.aload_n 0, 1) := by decide +kernel
theorem dL_law_1058 : decode cL_law 1058 = .ok (.iload_n 3, 1) := by decide +kernel
theorem dL_law_1059 : decode cL_law 1059 = .ok (.iconst 2, 1) := by decide +kernel
theorem dL_law_1060 : decode cL_law 1060 = .ok (.iadd, 1) := by decide +kernel
theorem dL_law_1061 : decode cL_law 1061 = .ok (.iaload, 1) := by decide +kernel
theorem dL_law_1062 : decode cL_law 1062 = .ok (.aload_n 0, 1) := by decide +kernel
theorem dL_law_1063 : decode cL_law 1063 = .ok (.iload_n 3, 1) := by decide +kernel
theorem dL_law_1064 : decode cL_law 1064 = .ok (.iconst 3, 1) := by decide +kernel
theorem dL_law_1065 : decode cL_law 1065 = .ok (.iadd, 1) := by decide +kernel
theorem dL_law_1066 : decode cL_law 1066 = .ok (.iaload, 1) := by decide +kernel
theorem dL_law_1067 : decode cL_law 1067 = .ok (.invokevirtual 142, 3) := by decide +kernel
theorem dL_law_1070 : decode cL_law 1070 = .ok (.if_icmp .eq 146, 3) := by decide +kernel
theorem dL_law_1073 : decode cL_law 1073 = .ok (.iconst 0, 1) := by decide +kernel
theorem dL_law_1074 : decode cL_law 1074 = .ok (.ireturn, 1) := by decide +kernel
theorem dL_law_1075 : decode cL_law 1075 = .ok (.aload_n 1, 1) := by decide +kernel
theorem dL_law_1076 : decode cL_law 1076 = .ok (.aload_n 0, 1) := by decide +kernel
theorem dL_law_1077 : decode cL_law 1077 = .ok (.iload_n 3, 1) := by decide +kernel
theorem dL_law_1078 : decode cL_law 1078 = .ok (.iconst 1, 1) := by decide +kernel
theorem dL_law_1079 : decode cL_law 1079 = .ok (.iadd, 1) := by decide +kernel
theorem dL_law_1080 : decode cL_law 1080 = .ok (.iaload, 1) := by decide +kernel
theorem dL_law_1081 : decode cL_law 1081 = .ok (.invokevirtual 143, 3) := by decide +kernel
theorem dL_law_1084 : decode cL_law 1084 = .ok (.aload_n 2, 1) := by decide +kernel
theorem dL_law_1085 : decode cL_law 1085 = .ok (.aload_n 0, 1) := by decide +kernel
theorem dL_law_1086 : decode cL_law 1086 = .ok (.iload_n 3, 1) := by decide +kernel
theorem dL_law_1087 : decode cL_law 1087 = .ok (.iconst 1, 1) := by decide +kernel
theorem dL_law_1088 : decode cL_law 1088 = .ok (.iadd, 1) := by decide +kernel
theorem dL_law_1089 : decode cL_law 1089 = .ok (.iaload, 1) := by decide +kernel
theorem dL_law_1090 : decode cL_law 1090 = .ok (.invokevirtual 146, 3) := by decide +kernel
theorem dL_law_1093 : decode cL_law 1093 = .ok (.if_icmp .eq 123, 3) := by decide +kernel
theorem dL_law_1096 : decode cL_law 1096 = .ok (.iconst 0, 1) := by decide +kernel
theorem dL_law_1097 : decode cL_law 1097 = .ok (.ireturn, 1) := by decide +kernel
theorem dL_law_1098 : decode cL_law 1098 = .ok (.aload_n 1, 1) := by decide +kernel
theorem dL_law_1099 : decode cL_law 1099 = .ok (.invokevirtual 147, 3) := by decide +kernel
theorem dL_law_1102 : decode cL_law 1102 = .ok (.aload_n 2, 1) := by decide +kernel
theorem dL_law_1103 : decode cL_law 1103 = .ok (.invokevirtual 150, 3) := by decide +kernel
theorem dL_law_1106 : decode cL_law 1106 = .ok (.if_icmp .eq 110, 3) := by decide +kernel
theorem dL_law_1109 : decode cL_law 1109 = .ok (.iconst 0, 1) := by decide +kernel
theorem dL_law_1110 : decode cL_law 1110 = .ok (.ireturn, 1) := by decide +kernel
theorem dL_law_1111 : decode cL_law 1111 = .ok (.aload_n 1, 1) := by decide +kernel
theorem dL_law_1112 : decode cL_law 1112 = .ok (.invokevirtual 151, 3) := by decide +kernel
theorem dL_law_1115 : decode cL_law 1115 = .ok (.aload_n 2, 1) := by decide +kernel
theorem dL_law_1116 : decode cL_law 1116 = .ok (.invokevirtual 154, 3) := by decide +kernel
theorem dL_law_1119 : decode cL_law 1119 = .ok (.if_icmp .eq 97, 3) := by decide +kernel
theorem dL_law_1122 : decode cL_law 1122 = .ok (.iconst 0, 1) := by decide +kernel
theorem dL_law_1123 : decode cL_law 1123 = .ok (.ireturn, 1) := by decide +kernel
theorem dL_law_1124 : decode cL_law 1124 = .ok (.aload_n 1, 1) := by decide +kernel
theorem dL_law_1125 : decode cL_law 1125 = .ok (.aload_n 0, 1) := by decide +kernel
theorem dL_law_1126 : decode cL_law 1126 = .ok (.iload_n 3, 1) := by decide +kernel
theorem dL_law_1127 : decode cL_law 1127 = .ok (.iconst 1, 1) := by decide +kernel
theorem dL_law_1128 : decode cL_law 1128 = .ok (.iadd, 1) := by decide +kernel
theorem dL_law_1129 : decode cL_law 1129 = .ok (.iaload, 1) := by decide +kernel
theorem dL_law_1130 : decode cL_law 1130 = .ok (.aload_n 0, 1) := by decide +kernel
theorem dL_law_1131 : decode cL_law 1131 = .ok (.iload_n 3, 1) := by decide +kernel
theorem dL_law_1132 : decode cL_law 1132 = .ok (.iconst 2, 1) := by decide +kernel
theorem dL_law_1133 : decode cL_law 1133 = .ok (.iadd, 1) := by decide +kernel
theorem dL_law_1134 : decode cL_law 1134 = .ok (.iaload, 1) := by decide +kernel
theorem dL_law_1135 : decode cL_law 1135 = .ok (.aload_n 0, 1) := by decide +kernel
theorem dL_law_1136 : decode cL_law 1136 = .ok (.iload_n 3, 1) := by decide +kernel
theorem dL_law_1137 : decode cL_law 1137 = .ok (.iconst 3, 1) := by decide +kernel
theorem dL_law_1138 : decode cL_law 1138 = .ok (.iadd, 1) := by decide +kernel
theorem dL_law_1139 : decode cL_law 1139 = .ok (.iaload, 1) := by decide +kernel
theorem dL_law_1140 : decode cL_law 1140 = .ok (.invokevirtual 155, 3) := by decide +kernel
theorem dL_law_1143 : decode cL_law 1143 = .ok (.aload_n 2, 1) := by decide +kernel
theorem dL_law_1144 : decode cL_law 1144 = .ok (.aload_n 0, 1) := by decide +kernel
theorem dL_law_1145 : decode cL_law 1145 = .ok (.iload_n 3, 1) := by decide +kernel
theorem dL_law_1146 : decode cL_law 1146 = .ok (.iconst 1, 1) := by decide +kernel
theorem dL_law_1147 : decode cL_law 1147 = .ok (.iadd, 1) := by decide +kernel
theorem dL_law_1148 : decode cL_law 1148 = .ok (.iaload, 1) := by decide +kernel
theorem dL_law_1149 : decode cL_law 1149 = .ok (.aload_n 0, 1) := by decide +kernel
theorem dL_law_1150 : decode cL_law 1150 = .ok (.iload_n 3, 1) := by decide +kernel
theorem dL_law_1151 : decode cL_law 1151 = .ok (.iconst 2, 1) := by decide +kernel
theorem dL_law_1152 : decode cL_law 1152 = .ok (.iadd, 1) := by decide +kernel
theorem dL_law_1153 : decode cL_law 1153 = .ok (.iaload, 1) := by decide +kernel
theorem dL_law_1154 : decode cL_law 1154 = .ok (.aload_n 0, 1) := by decide +kernel
theorem dL_law_1155 : decode cL_law 1155 = .ok (.iload_n 3, 1) := by decide +kernel
theorem dL_law_1156 : decode cL_law 1156 = .ok (.iconst 3, 1) := by decide +kernel
theorem dL_law_1157 : decode cL_law 1157 = .ok (.iadd, 1) := by decide +kernel
theorem dL_law_1158 : decode cL_law 1158 = .ok (.iaload, 1) := by decide +kernel
theorem dL_law_1159 : decode cL_law 1159 = .ok (.invokevirtual 158, 3) := by decide +kernel
theorem dL_law_1162 : decode cL_law 1162 = .ok (.if_icmp .eq 54, 3) := by decide +kernel
theorem dL_law_1165 : decode cL_law 1165 = .ok (.iconst 0, 1) := by decide +kernel
theorem dL_law_1166 : decode cL_law 1166 = .ok (.ireturn, 1) := by decide +kernel
theorem dL_law_1167 : decode cL_law 1167 = .ok (.aload_n 1, 1) := by decide +kernel
theorem dL_law_1168 : decode cL_law 1168 = .ok (.invokevirtual 159, 3) := by decide +kernel
theorem dL_law_1171 : decode cL_law 1171 = .ok (.aload_n 2, 1) := by decide +kernel
theorem dL_law_1172 : decode cL_law 1172 = .ok (.invokevirtual 162, 3) := by decide +kernel
theorem dL_law_1175 : decode cL_law 1175 = .ok (.if_icmp .eq 41, 3) := by decide +kernel
theorem dL_law_1178 : decode cL_law 1178 = .ok (.iconst 0, 1) := by decide +kernel
theorem dL_law_1179 : decode cL_law 1179 = .ok (.ireturn, 1) := by decide +kernel
theorem dL_law_1180 : decode cL_law 1180 = .ok (.aload_n 1, 1) := by decide +kernel
theorem dL_law_1181 : decode cL_law 1181 = .ok (.invokevirtual 163, 3) := by decide +kernel
theorem dL_law_1184 : decode cL_law 1184 = .ok (.aload_n 2, 1) := by decide +kernel
theorem dL_law_1185 : decode cL_law 1185 = .ok (.invokevirtual 166, 3) := by decide +kernel
theorem dL_law_1188 : decode cL_law 1188 = .ok (.if_icmp .eq 28, 3) := by decide +kernel
theorem dL_law_1191 : decode cL_law 1191 = .ok (.iconst 0, 1) := by decide +kernel
theorem dL_law_1192 : decode cL_law 1192 = .ok (.ireturn, 1) := by decide +kernel
theorem dL_law_1193 : decode cL_law 1193 = .ok (.aload_n 1, 1) := by decide +kernel
theorem dL_law_1194 : decode cL_law 1194 = .ok (.aload_n 0, 1) := by decide +kernel
theorem dL_law_1195 : decode cL_law 1195 = .ok (.iload_n 3, 1) := by decide +kernel
theorem dL_law_1196 : decode cL_law 1196 = .ok (.iconst 1, 1) := by decide +kernel
theorem dL_law_1197 : decode cL_law 1197 = .ok (.iadd, 1) := by decide +kernel
theorem dL_law_1198 : decode cL_law 1198 = .ok (.iaload, 1) := by decide +kernel
theorem dL_law_1199 : decode cL_law 1199 = .ok (.invokevirtual 167, 3) := by decide +kernel
theorem dL_law_1202 : decode cL_law 1202 = .ok (.aload_n 2, 1) := by decide +kernel
theorem dL_law_1203 : decode cL_law 1203 = .ok (.aload_n 0, 1) := by decide +kernel
theorem dL_law_1204 : decode cL_law 1204 = .ok (.iload_n 3, 1) := by decide +kernel
theorem dL_law_1205 : decode cL_law 1205 = .ok (.iconst 1, 1) := by decide +kernel
theorem dL_law_1206 : decode cL_law 1206 = .ok (.iadd, 1) := by decide +kernel
theorem dL_law_1207 : decode cL_law 1207 = .ok (.iaload, 1) := by decide +kernel
theorem dL_law_1208 : decode cL_law 1208 = .ok (.invokevirtual 170, 3) := by decide +kernel
theorem dL_law_1211 : decode cL_law 1211 = .ok (.if_icmp .eq 5, 3) := by decide +kernel
theorem dL_law_1214 : decode cL_law 1214 = .ok (.iconst 0, 1) := by decide +kernel
theorem dL_law_1215 : decode cL_law 1215 = .ok (.ireturn, 1) := by decide +kernel
theorem dL_law_1216 : decode cL_law 1216 = .ok (.iinc 3 5, 3) := by decide +kernel
theorem dL_law_1219 : decode cL_law 1219 = .ok (.goto (-1201), 3) := by decide +kernel
theorem dL_law_1222 : decode cL_law 1222 = .ok (.iconst 1, 1) := by decide +kernel
theorem dL_law_1223 : decode cL_law 1223 = .ok (.ireturn, 1) := by decide +kernel
theorem dJ0_length_8abf5_0 : decode cJ0_length_8abf5 0 = .ok (.aload_n 0, 1) := by decide +kernel
theorem dJ0_length_8abf5_1 : decode cJ0_length_8abf5 1 = .ok (.getfield 9, 3) := by decide +kernel
theorem dJ0_length_8abf5_4 : decode cJ0_length_8abf5 4 = .ok (.arraylength, 1) := by decide +kernel
theorem dJ0_length_8abf5_5 : decode cJ0_length_8abf5 5 = .ok (.aload_n 0, 1) := by decide +kernel
theorem dJ0_length_8abf5_6 : decode cJ0_length_8abf5 6 = .ok (.invokevirtual 335, 3) := by decide +kernel
theorem dJ0_length_8abf5_9 : decode cJ0_length_8abf5 9 = .ok (.ishr, 1) := by decide +kernel
theorem dJ0_length_8abf5_10 : decode cJ0_length_8abf5 10 = .ok (.ireturn, 1) := by decide +kernel
theorem dJ0_isEmpty_aae02_0 : decode cJ0_isEmpty_aae02 0 = .ok (.aload_n 0, 1) := by decide +kernel
theorem dJ0_isEmpty_aae02_1 : decode cJ0_isEmpty_aae02 1 = .ok (.getfield 9, 3) := by decide +kernel
theorem dJ0_isEmpty_aae02_4 : decode cJ0_isEmpty_aae02 4 = .ok (.arraylength, 1) := by decide +kernel
theorem dJ0_isEmpty_aae02_5 : decode cJ0_isEmpty_aae02 5 = .ok (.ifCond .ne 7, 3) := by decide +kernel
theorem dJ0_isEmpty_aae02_8 : decode cJ0_isEmpty_aae02 8 = .ok (.iconst 1, 1) := by decide +kernel
theorem dJ0_isEmpty_aae02_9 : decode cJ0_isEmpty_aae02 9 = .ok (.goto 4, 3) := by decide +kernel
theorem dJ0_isEmpty_aae02_12 : decode cJ0_isEmpty_aae02 12 = .ok (.iconst 0, 1) := by decide +kernel
theorem dJ0_isEmpty_aae02_13 : decode cJ0_isEmpty_aae02 13 = .ok (.ireturn, 1) := by decide +kernel
theorem dJ0_charAt_5068e_0 : decode cJ0_charAt_5068e 0 = .ok (.aload_n 0, 1) := by decide +kernel
theorem dJ0_charAt_5068e_1 : decode cJ0_charAt_5068e 1 = .ok (.invokevirtual 492, 3) := by decide +kernel
theorem dJ0_charAt_5068e_4 : decode cJ0_charAt_5068e 4 = .ok (.ifCond .eq 12, 3) := by decide +kernel
theorem dJ0_charAt_5068e_7 : decode cJ0_charAt_5068e 7 = .ok (.aload_n 0, 1) := by decide +kernel
theorem dJ0_charAt_5068e_8 : decode cJ0_charAt_5068e 8 = .ok (.getfield 9, 3) := by decide +kernel
theorem dJ0_charAt_5068e_11 : decode cJ0_charAt_5068e 11 = .ok (.iload_n 1, 1) := by decide +kernel
theorem dJ0_charAt_5068e_12 : decode cJ0_charAt_5068e 12 = .ok (.invokestatic 495, 3) := by decide +kernel
theorem dJ0_charAt_5068e_15 : decode cJ0_charAt_5068e 15 = .ok (.ireturn, 1) := by decide +kernel
theorem dJ0_charAt_5068e_16 : decode cJ0_charAt_5068e 16 = .ok (.aload_n 0, 1) := by decide +kernel
theorem dJ0_charAt_5068e_17 : decode cJ0_charAt_5068e 17 = .ok (.getfield 9, 3) := by decide +kernel
theorem dJ0_charAt_5068e_20 : decode cJ0_charAt_5068e 20 = .ok (.iload_n 1, 1) := by decide +kernel
theorem dJ0_charAt_5068e_21 : decode cJ0_charAt_5068e 21 = .ok (.invokestatic 498, 3) := by decide +kernel
theorem dJ0_charAt_5068e_24 : decode cJ0_charAt_5068e 24 = .ok (.ireturn, 1) := by decide +kernel
theorem dJ0_indexOf_0f7a4_0 : decode cJ0_indexOf_0f7a4 0 = .ok (.aload_n 0, 1) := by decide +kernel
theorem dJ0_indexOf_0f7a4_1 : decode cJ0_indexOf_0f7a4 1 = .ok (.iload_n 1, 1) := by decide +kernel
theorem dJ0_indexOf_0f7a4_2 : decode cJ0_indexOf_0f7a4 2 = .ok (.iconst 0, 1) := by decide +kernel
theorem dJ0_indexOf_0f7a4_3 : decode cJ0_indexOf_0f7a4 3 = .ok (.invokevirtual 633, 3) := by decide +kernel
theorem dJ0_indexOf_0f7a4_6 : decode cJ0_indexOf_0f7a4 6 = .ok (.ireturn, 1) := by decide +kernel
theorem dJ0_indexOf_7cf53_0 : decode cJ0_indexOf_7cf53 0 = .ok (.aload_n 0, 1) := by decide +kernel
theorem dJ0_indexOf_7cf53_1 : decode cJ0_indexOf_7cf53 1 = .ok (.invokevirtual 492, 3) := by decide +kernel
theorem dJ0_indexOf_7cf53_4 : decode cJ0_indexOf_7cf53 4 = .ok (.ifCond .eq 19, 3) := by decide +kernel
theorem dJ0_indexOf_7cf53_7 : decode cJ0_indexOf_7cf53 7 = .ok (.aload_n 0, 1) := by decide +kernel
theorem dJ0_indexOf_7cf53_8 : decode cJ0_indexOf_7cf53 8 = .ok (.getfield 9, 3) := by decide +kernel
theorem dJ0_indexOf_7cf53_11 : decode cJ0_indexOf_7cf53 11 = .ok (.iload_n 1, 1) := by decide +kernel
theorem dJ0_indexOf_7cf53_12 : decode cJ0_indexOf_7cf53 12 = .ok (.iload_n 2, 1) := by decide +kernel
theorem dJ0_indexOf_7cf53_13 : decode cJ0_indexOf_7cf53 13 = .ok (.aload_n 0, 1) := by decide +kernel
theorem dJ0_indexOf_7cf53_14 : decode cJ0_indexOf_7cf53 14 = .ok (.invokevirtual 505, 3) := by decide +kernel
theorem dJ0_indexOf_7cf53_17 : decode cJ0_indexOf_7cf53 17 = .ok (.invokestatic 637, 3) := by decide +kernel
theorem dJ0_indexOf_7cf53_20 : decode cJ0_indexOf_7cf53 20 = .ok (.goto 16, 3) := by decide +kernel
theorem dJ0_indexOf_7cf53_23 : decode cJ0_indexOf_7cf53 23 = .ok (.aload_n 0, 1) := by decide +kernel
theorem dJ0_indexOf_7cf53_24 : decode cJ0_indexOf_7cf53 24 = .ok (.getfield 9, 3) := by decide +kernel
theorem dJ0_indexOf_7cf53_27 : decode cJ0_indexOf_7cf53 27 = .ok (.iload_n 1, 1) := by decide +kernel
theorem dJ0_indexOf_7cf53_28 : decode cJ0_indexOf_7cf53 28 = .ok (.iload_n 2, 1) := by decide +kernel
theorem dJ0_indexOf_7cf53_29 : decode cJ0_indexOf_7cf53 29 = .ok (.aload_n 0, 1) := by decide +kernel
theorem dJ0_indexOf_7cf53_30 : decode cJ0_indexOf_7cf53 30 = .ok (.invokevirtual 505, 3) := by decide +kernel
theorem dJ0_indexOf_7cf53_33 : decode cJ0_indexOf_7cf53 33 = .ok (.invokestatic 640, 3) := by decide +kernel
theorem dJ0_indexOf_7cf53_36 : decode cJ0_indexOf_7cf53 36 = .ok (.ireturn, 1) := by decide +kernel
theorem dJ0_coder_7d493_0 : decode cJ0_coder_7d493 0 = .ok (.getstatic 38, 3) := by decide +kernel
theorem dJ0_coder_7d493_3 : decode cJ0_coder_7d493 3 = .ok (.ifCond .eq 10, 3) := by decide +kernel
theorem dJ0_coder_7d493_6 : decode cJ0_coder_7d493 6 = .ok (.aload_n 0, 1) := by decide +kernel
theorem dJ0_coder_7d493_7 : decode cJ0_coder_7d493 7 = .ok (.getfield 15, 3) := by decide +kernel
theorem dJ0_coder_7d493_10 : decode cJ0_coder_7d493 10 = .ok (.goto 4, 3) := by decide +kernel
theorem dJ0_coder_7d493_13 : decode cJ0_coder_7d493 13 = .ok (.iconst 1, 1) := by decide +kernel
theorem dJ0_coder_7d493_14 : decode cJ0_coder_7d493 14 = .ok (.ireturn, 1) := by decide +kernel
theorem dJ0_isLatin1_aae02_0 : decode cJ0_isLatin1_aae02 0 = .ok (.getstatic 38, 3) := by decide +kernel
theorem dJ0_isLatin1_aae02_3 : decode cJ0_isLatin1_aae02 3 = .ok (.ifCond .eq 14, 3) := by decide +kernel
theorem dJ0_isLatin1_aae02_6 : decode cJ0_isLatin1_aae02 6 = .ok (.aload_n 0, 1) := by decide +kernel
theorem dJ0_isLatin1_aae02_7 : decode cJ0_isLatin1_aae02 7 = .ok (.getfield 15, 3) := by decide +kernel
theorem dJ0_isLatin1_aae02_10 : decode cJ0_isLatin1_aae02 10 = .ok (.ifCond .ne 7, 3) := by decide +kernel
theorem dJ0_isLatin1_aae02_13 : decode cJ0_isLatin1_aae02 13 = .ok (.iconst 1, 1) := by decide +kernel
theorem dJ0_isLatin1_aae02_14 : decode cJ0_isLatin1_aae02 14 = .ok (.goto 4, 3) := by decide +kernel
theorem dJ0_isLatin1_aae02_17 : decode cJ0_isLatin1_aae02 17 = .ok (.iconst 0, 1) := by decide +kernel
theorem dJ0_isLatin1_aae02_18 : decode cJ0_isLatin1_aae02 18 = .ok (.ireturn, 1) := by decide +kernel
theorem dJ0_checkIndex_df160_0 : decode cJ0_checkIndex_df160 0 = .ok (.iload_n 0, 1) := by decide +kernel
theorem dJ0_checkIndex_df160_1 : decode cJ0_checkIndex_df160 1 = .ok (.iload_n 1, 1) := by decide +kernel
theorem dJ0_checkIndex_df160_2 : decode cJ0_checkIndex_df160 2 = .ok (.getstatic 1053, 3) := by decide +kernel
theorem dJ0_checkIndex_df160_5 : decode cJ0_checkIndex_df160 5 = .ok (.invokestatic 1059, 3) := by decide +kernel
theorem dJ0_checkIndex_df160_8 : decode cJ0_checkIndex_df160 8 = .ok (.pop, 1) := by decide +kernel
theorem dJ0_checkIndex_df160_9 : decode cJ0_checkIndex_df160 9 = .ok (.return_, 1) := by decide +kernel
theorem dJ1_charAt_3b067_0 : decode cJ1_charAt_3b067 0 = .ok (.iload_n 1, 1) := by decide +kernel
theorem dJ1_charAt_3b067_1 : decode cJ1_charAt_3b067 1 = .ok (.aload_n 0, 1) := by decide +kernel
theorem dJ1_charAt_3b067_2 : decode cJ1_charAt_3b067 2 = .ok (.arraylength, 1) := by decide +kernel
theorem dJ1_charAt_3b067_3 : decode cJ1_charAt_3b067 3 = .ok (.invokestatic 9, 3) := by decide +kernel
theorem dJ1_charAt_3b067_6 : decode cJ1_charAt_3b067 6 = .ok (.aload_n 0, 1) := by decide +kernel
theorem dJ1_charAt_3b067_7 : decode cJ1_charAt_3b067 7 = .ok (.iload_n 1, 1) := by decide +kernel
theorem dJ1_charAt_3b067_8 : decode cJ1_charAt_3b067 8 = .ok (.baload, 1) := by decide +kernel
theorem dJ1_charAt_3b067_9 : decode cJ1_charAt_3b067 9 = .ok (.sipush 255, 3) := by decide +kernel
theorem dJ1_charAt_3b067_12 : decode cJ1_charAt_3b067 12 = .ok (.iand, 1) := by decide +kernel
theorem dJ1_charAt_3b067_13 : decode cJ1_charAt_3b067 13 = .ok (.i2c, 1) := by decide +kernel
theorem dJ1_charAt_3b067_14 : decode cJ1_charAt_3b067 14 = .ok (.ireturn, 1) := by decide +kernel
theorem dJ1_canEncode_9a6ad_0 : decode cJ1_canEncode_9a6ad 0 = .ok (.iload_n 0, 1) := by decide +kernel
theorem dJ1_canEncode_9a6ad_1 : decode cJ1_canEncode_9a6ad 1 = .ok (.ifCond .lt 14, 3) := by decide +kernel
theorem dJ1_canEncode_9a6ad_4 : decode cJ1_canEncode_9a6ad 4 = .ok (.iload_n 0, 1) := by decide +kernel
theorem dJ1_canEncode_9a6ad_5 : decode cJ1_canEncode_9a6ad 5 = .ok (.sipush 255, 3) := by decide +kernel
theorem dJ1_canEncode_9a6ad_8 : decode cJ1_canEncode_9a6ad 8 = .ok (.if_icmp .gt 7, 3) := by decide +kernel
theorem dJ1_canEncode_9a6ad_11 : decode cJ1_canEncode_9a6ad 11 = .ok (.iconst 1, 1) := by decide +kernel
theorem dJ1_canEncode_9a6ad_12 : decode cJ1_canEncode_9a6ad 12 = .ok (.goto 4, 3) := by decide +kernel
theorem dJ1_canEncode_9a6ad_15 : decode cJ1_canEncode_9a6ad 15 = .ok (.iconst 0, 1) := by decide +kernel
theorem dJ1_canEncode_9a6ad_16 : decode cJ1_canEncode_9a6ad 16 = .ok (.ireturn, 1) := by decide +kernel
theorem dJ1_indexOf_4cfef_0 : decode cJ1_indexOf_4cfef 0 = .ok (.iload_n 1, 1) := by decide +kernel
theorem dJ1_indexOf_4cfef_1 : decode cJ1_indexOf_4cfef 1 = .ok (.invokestatic 88, 3) := by decide +kernel
theorem dJ1_indexOf_4cfef_4 : decode cJ1_indexOf_4cfef 4 = .ok (.ifCond .ne 5, 3) := by decide +kernel
theorem dJ1_indexOf_4cfef_7 : decode cJ1_indexOf_4cfef 7 = .ok (.iconst (-1), 1) := by decide +kernel
theorem dJ1_indexOf_4cfef_8 : decode cJ1_indexOf_4cfef 8 = .ok (.ireturn, 1) := by decide +kernel
theorem dJ1_indexOf_4cfef_9 : decode cJ1_indexOf_4cfef 9 = .ok (.iload_n 2, 1) := by decide +kernel
theorem dJ1_indexOf_4cfef_10 : decode cJ1_indexOf_4cfef 10 = .ok (.iconst 0, 1) := by decide +kernel
theorem dJ1_indexOf_4cfef_11 : decode cJ1_indexOf_4cfef 11 = .ok (.invokestatic 92, 3) := by decide +kernel
theorem dJ1_indexOf_4cfef_14 : decode cJ1_indexOf_4cfef 14 = .ok (.istore_n 2, 1) := by decide +kernel
theorem dJ1_indexOf_4cfef_15 : decode cJ1_indexOf_4cfef 15 = .ok (.iload_n 3, 1) := by decide +kernel
theorem dJ1_indexOf_4cfef_16 : decode cJ1_indexOf_4cfef 16 = .ok (.aload_n 0, 1) := by decide +kernel
theorem dJ1_indexOf_4cfef_17 : decode cJ1_indexOf_4cfef 17 = .ok (.arraylength, 1) := by decide +kernel
theorem dJ1_indexOf_4cfef_18 : decode cJ1_indexOf_4cfef 18 = .ok (.invokestatic 38, 3) := by decide +kernel
theorem dJ1_indexOf_4cfef_21 : decode cJ1_indexOf_4cfef 21 = .ok (.istore_n 3, 1) := by decide +kernel
theorem dJ1_indexOf_4cfef_22 : decode cJ1_indexOf_4cfef 22 = .ok (.iload_n 2, 1) := by decide +kernel
theorem dJ1_indexOf_4cfef_23 : decode cJ1_indexOf_4cfef 23 = .ok (.iload_n 3, 1) := by decide +kernel
theorem dJ1_indexOf_4cfef_24 : decode cJ1_indexOf_4cfef 24 = .ok (.if_icmp .lt 5, 3) := by decide +kernel
theorem dJ1_indexOf_4cfef_27 : decode cJ1_indexOf_4cfef 27 = .ok (.iconst (-1), 1) := by decide +kernel
theorem dJ1_indexOf_4cfef_28 : decode cJ1_indexOf_4cfef 28 = .ok (.ireturn, 1) := by decide +kernel
theorem dJ1_indexOf_4cfef_29 : decode cJ1_indexOf_4cfef 29 = .ok (.aload_n 0, 1) := by decide +kernel
theorem dJ1_indexOf_4cfef_30 : decode cJ1_indexOf_4cfef 30 = .ok (.iload_n 1, 1) := by decide +kernel
theorem dJ1_indexOf_4cfef_31 : decode cJ1_indexOf_4cfef 31 = .ok (.iload_n 2, 1) := by decide +kernel
theorem dJ1_indexOf_4cfef_32 : decode cJ1_indexOf_4cfef 32 = .ok (.iload_n 3, 1) := by decide +kernel
theorem dJ1_indexOf_4cfef_33 : decode cJ1_indexOf_4cfef 33 = .ok (.invokestatic 95, 3) := by decide +kernel
theorem dJ1_indexOf_4cfef_36 : decode cJ1_indexOf_4cfef 36 = .ok (.ireturn, 1) := by decide +kernel
theorem dJ1_indexOfChar_4cfef_0 : decode cJ1_indexOfChar_4cfef 0 = .ok (.iload_n 1, 1) := by decide +kernel
theorem dJ1_indexOfChar_4cfef_1 : decode cJ1_indexOfChar_4cfef 1 = .ok (.i2b, 1) := by decide +kernel
theorem dJ1_indexOfChar_4cfef_2 : decode cJ1_indexOfChar_4cfef 2 = .ok (.istore 4, 2) := by decide +kernel
theorem dJ1_indexOfChar_4cfef_4 : decode cJ1_indexOfChar_4cfef 4 = .ok (.iload_n 2, 1) := by decide +kernel
theorem dJ1_indexOfChar_4cfef_5 : decode cJ1_indexOfChar_4cfef 5 = .ok (.istore 5, 2) := by decide +kernel
theorem dJ1_indexOfChar_4cfef_7 : decode cJ1_indexOfChar_4cfef 7 = .ok (.iload 5, 2) := by decide +kernel
theorem dJ1_indexOfChar_4cfef_9 : decode cJ1_indexOfChar_4cfef 9 = .ok (.iload_n 3, 1) := by decide +kernel
theorem dJ1_indexOfChar_4cfef_10 : decode cJ1_indexOfChar_4cfef 10 = .ok (.if_icmp .ge 21, 3) := by decide +kernel
theorem dJ1_indexOfChar_4cfef_13 : decode cJ1_indexOfChar_4cfef 13 = .ok (.aload_n 0, 1) := by decide +kernel
theorem dJ1_indexOfChar_4cfef_14 : decode cJ1_indexOfChar_4cfef 14 = .ok (.iload 5, 2) := by decide +kernel
theorem dJ1_indexOfChar_4cfef_16 : decode cJ1_indexOfChar_4cfef 16 = .ok (.baload, 1) := by decide +kernel
theorem dJ1_indexOfChar_4cfef_17 : decode cJ1_indexOfChar_4cfef 17 = .ok (.iload 4, 2) := by decide +kernel
theorem dJ1_indexOfChar_4cfef_19 : decode cJ1_indexOfChar_4cfef 19 = .ok (.if_icmp .ne 6, 3) := by decide +kernel
theorem dJ1_indexOfChar_4cfef_22 : decode cJ1_indexOfChar_4cfef 22 = .ok (.iload 5, 2) := by decide +kernel
theorem dJ1_indexOfChar_4cfef_24 : decode cJ1_indexOfChar_4cfef 24 = .ok (.ireturn, 1) := by decide +kernel
theorem dJ1_indexOfChar_4cfef_25 : decode cJ1_indexOfChar_4cfef 25 = .ok (.iinc 5 1, 3) := by decide +kernel
theorem dJ1_indexOfChar_4cfef_28 : decode cJ1_indexOfChar_4cfef 28 = .ok (.goto (-21), 3) := by decide +kernel
theorem dJ1_indexOfChar_4cfef_31 : decode cJ1_indexOfChar_4cfef 31 = .ok (.iconst (-1), 1) := by decide +kernel
theorem dJ1_indexOfChar_4cfef_32 : decode cJ1_indexOfChar_4cfef 32 = .ok (.ireturn, 1) := by decide +kernel
theorem dJ3_checkIndex_8e157_0 : decode cJ3_checkIndex_8e157 0 = .ok (.iload_n 0, 1) := by decide +kernel
theorem dJ3_checkIndex_8e157_1 : decode cJ3_checkIndex_8e157 1 = .ok (.ifCond .lt 8, 3) := by decide +kernel
theorem dJ3_checkIndex_8e157_4 : decode cJ3_checkIndex_8e157 4 = .ok (.iload_n 0, 1) := by decide +kernel
theorem dJ3_checkIndex_8e157_5 : decode cJ3_checkIndex_8e157 5 = .ok (.iload_n 1, 1) := by decide +kernel
theorem dJ3_checkIndex_8e157_6 : decode cJ3_checkIndex_8e157 6 = .ok (.if_icmp .lt 10, 3) := by decide +kernel
theorem dJ3_checkIndex_8e157_9 : decode cJ3_checkIndex_8e157 9 = .ok (.aload_n 2, 1) := by decide +kernel
theorem dJ3_checkIndex_8e157_10 : decode cJ3_checkIndex_8e157 10 = .ok (.iload_n 0, 1) := by decide +kernel
theorem dJ3_checkIndex_8e157_11 : decode cJ3_checkIndex_8e157 11 = .ok (.iload_n 1, 1) := by decide +kernel
theorem dJ3_checkIndex_8e157_12 : decode cJ3_checkIndex_8e157 12 = .ok (.invokestatic 95, 3) := by decide +kernel
theorem dJ3_checkIndex_8e157_15 : decode cJ3_checkIndex_8e157 15 = .ok (.athrow, 1) := by decide +kernel
theorem dJ3_checkIndex_8e157_16 : decode cJ3_checkIndex_8e157 16 = .ok (.iload_n 0, 1) := by decide +kernel
theorem dJ3_checkIndex_8e157_17 : decode cJ3_checkIndex_8e157 17 = .ok (.ireturn, 1) := by decide +kernel
end
section
/-! BASE: the words that are kept; what a method is -/
/-- the tables' words that stay true as the machine warms -/
def zts : List Cond := lw_tbl.filter goodWord
theorem zmem {w : Cond} (i : Nat) (h : lw_tbl[i]? = some w) (hg : goodWord w = true) : w ∈ zts := List.mem_filter.mpr ⟨List.mem_of_getElem? h, hg⟩
theorem zts_good {w : Cond} (h : w ∈ zts) : goodWord w = true := (List.mem_filter.mp h).2
theorem zts_in {w : Cond} (h : w ∈ zts) : w ∈ lw_tbl := (List.mem_filter.mp h).1
/-- a method: its name, code, locals, what it answers -/
abbrev zM : Type := MethodName × ByteArray × Nat × Option FieldType
end
section
/-! WORDS: the methods, their words among the tables', the fields, the links: by program -/
def zGC (M : zM) (k : Nat) : Prop := Cond.code M.1 M.2.1 M.2.2.1 M.2.2.2 ∈ zts ∧ Cond.initialized M.1.cls ∈ zts ∧ (M.1.cls ≠ "java/lang/invoke/MethodHandle" ∧ M.1.cls ≠ "java/lang/invoke/VarHandle" ∧ (parseMethodDescriptor M.1.desc).map (fun d => d.parameters.length) = some k)
def zGV (M : zM) (k : Nat) : Prop := zGC M k ∧ Cond.instanceMethod M.1 ∈ zts ∧ Cond.selects M.1.cls M.1 M.1 ∈ zts
def zGS (M : zM) (k : Nat) : Prop := zGC M k ∧ Cond.static M.1 ∈ zts
theorem zgoodIn (M : zM) {k : Nat} (h : zGC M k) : GoodIn zts (Cond.code M.1 M.2.1 M.2.2.1 M.2.2.2 :: zts) := by
  intro w hw
  have hm : w ∈ zts := by
    rcases List.mem_cons.mp hw with e | h2
    · rw [e]; exact h.1
    · exact h2
  exact ⟨hm, good_of_word (zts_good hm)⟩
abbrev mX0_ofLetter : zM := (yX0_ofLetter, cX0_ofLetter, 1, (some .int))
theorem zg_X0_ofLetter : zGS mX0_ofLetter 1 := ⟨⟨zmem 322 (by decide +kernel) rfl, zmem 46 (by decide +kernel) rfl, by decide +kernel⟩, zmem 321 (by decide +kernel) rfl⟩
abbrev mX0_growing : zM := (yX0_growing, cX0_growing, 3, (some .int))
theorem zg_X0_growing : zGS mX0_growing 3 := ⟨⟨zmem 490 (by decide +kernel) rfl, zmem 46 (by decide +kernel) rfl, by decide +kernel⟩, zmem 489 (by decide +kernel) rfl⟩
abbrev mX0_giving : zM := (yX0_giving, cX0_giving, 6, (some .int))
theorem zg_X0_giving : zGS mX0_giving 3 := ⟨⟨zmem 493 (by decide +kernel) rfl, zmem 46 (by decide +kernel) rfl, by decide +kernel⟩, zmem 492 (by decide +kernel) rfl⟩
abbrev mX0_tiring : zM := (yX0_tiring, cX0_tiring, 1, (some .int))
theorem zg_X0_tiring : zGS mX0_tiring 1 := ⟨⟨zmem 498 (by decide +kernel) rfl, zmem 46 (by decide +kernel) rfl, by decide +kernel⟩, zmem 497 (by decide +kernel) rfl⟩
abbrev mX1_init : zM := (yX1_init, cX1_init, 1, none)
abbrev mX1_become : zM := (yX1_become, cX1_become, 2, none)
theorem zg_X1_become : zGV mX1_become 1 := ⟨⟨zmem 244 (by decide +kernel) rfl, zmem 36 (by decide +kernel) rfl, by decide +kernel⟩, zmem 242 (by decide +kernel) rfl, zmem 243 (by decide +kernel) rfl⟩
abbrev mX1_hasFarm : zM := (yX1_hasFarm, cX1_hasFarm, 2, (some .boolean))
theorem zg_X1_hasFarm : zGV mX1_hasFarm 1 := ⟨⟨zmem 429 (by decide +kernel) rfl, zmem 36 (by decide +kernel) rfl, by decide +kernel⟩, zmem 427 (by decide +kernel) rfl, zmem 428 (by decide +kernel) rfl⟩
abbrev mX1_hasFarmer : zM := (yX1_hasFarmer, cX1_hasFarmer, 2, (some .boolean))
theorem zg_X1_hasFarmer : zGV mX1_hasFarmer 1 := ⟨⟨zmem 425 (by decide +kernel) rfl, zmem 36 (by decide +kernel) rfl, by decide +kernel⟩, zmem 423 (by decide +kernel) rfl, zmem 424 (by decide +kernel) rfl⟩
abbrev mX1_hasSort : zM := (yX1_hasSort, cX1_hasSort, 1, (some .boolean))
theorem zg_X1_hasSort : zGS mX1_hasSort 1 := ⟨⟨zmem 446 (by decide +kernel) rfl, zmem 36 (by decide +kernel) rfl, by decide +kernel⟩, zmem 445 (by decide +kernel) rfl⟩
abbrev mX1_hasYears : zM := (yX1_hasYears, cX1_hasYears, 2, (some .boolean))
theorem zg_X1_hasYears : zGV mX1_hasYears 1 := ⟨⟨zmem 457 (by decide +kernel) rfl, zmem 36 (by decide +kernel) rfl, by decide +kernel⟩, zmem 455 (by decide +kernel) rfl, zmem 456 (by decide +kernel) rfl⟩
abbrev mX1_heartOf : zM := (yX1_heartOf, cX1_heartOf, 4, (some .int))
theorem zg_X1_heartOf : zGV mX1_heartOf 2 := ⟨⟨zmem 473 (by decide +kernel) rfl, zmem 36 (by decide +kernel) rfl, by decide +kernel⟩, zmem 471 (by decide +kernel) rfl, zmem 472 (by decide +kernel) rfl⟩
abbrev mX1_setHeart : zM := (yX1_setHeart, cX1_setHeart, 5, none)
theorem zg_X1_setHeart : zGV mX1_setHeart 3 := ⟨⟨zmem 410 (by decide +kernel) rfl, zmem 36 (by decide +kernel) rfl, by decide +kernel⟩, zmem 408 (by decide +kernel) rfl, zmem 409 (by decide +kernel) rfl⟩
abbrev mX1_addFarm : zM := (yX1_addFarm, cX1_addFarm, 4, none)
theorem zg_X1_addFarm : zGV mX1_addFarm 3 := ⟨⟨zmem 406 (by decide +kernel) rfl, zmem 36 (by decide +kernel) rfl, by decide +kernel⟩, zmem 404 (by decide +kernel) rfl, zmem 405 (by decide +kernel) rfl⟩
abbrev mX1_addFarmer : zM := (yX1_addFarmer, cX1_addFarmer, 3, none)
theorem zg_X1_addFarmer : zGV mX1_addFarmer 2 := ⟨⟨zmem 418 (by decide +kernel) rfl, zmem 36 (by decide +kernel) rfl, by decide +kernel⟩, zmem 416 (by decide +kernel) rfl, zmem 417 (by decide +kernel) rfl⟩
abbrev mX1_seat : zM := (yX1_seat, cX1_seat, 4, none)
theorem zg_X1_seat : zGV mX1_seat 2 := ⟨⟨zmem 433 (by decide +kernel) rfl, zmem 36 (by decide +kernel) rfl, by decide +kernel⟩, zmem 431 (by decide +kernel) rfl, zmem 432 (by decide +kernel) rfl⟩
abbrev mX1_exchange : zM := (yX1_exchange, cX1_exchange, 4, none)
theorem zg_X1_exchange : zGV mX1_exchange 2 := ⟨⟨zmem 664 (by decide +kernel) rfl, zmem 36 (by decide +kernel) rfl, by decide +kernel⟩, zmem 662 (by decide +kernel) rfl, zmem 663 (by decide +kernel) rfl⟩
abbrev mX1_tenantOf : zM := (yX1_tenantOf, cX1_tenantOf, 3, (some .int))
theorem zg_X1_tenantOf : zGV mX1_tenantOf 1 := ⟨⟨zmem 437 (by decide +kernel) rfl, zmem 36 (by decide +kernel) rfl, by decide +kernel⟩, zmem 435 (by decide +kernel) rfl, zmem 436 (by decide +kernel) rfl⟩
abbrev mX1_greenOf : zM := (yX1_greenOf, cX1_greenOf, 2, (some .int))
theorem zg_X1_greenOf : zGV mX1_greenOf 1 := ⟨⟨zmem 520 (by decide +kernel) rfl, zmem 36 (by decide +kernel) rfl, by decide +kernel⟩, zmem 518 (by decide +kernel) rfl, zmem 519 (by decide +kernel) rfl⟩
abbrev mX1_greenOfAll : zM := (yX1_greenOfAll, cX1_greenOfAll, 3, (some .int))
theorem zg_X1_greenOfAll : zGV mX1_greenOfAll 0 := ⟨⟨zmem 801 (by decide +kernel) rfl, zmem 36 (by decide +kernel) rfl, by decide +kernel⟩, zmem 799 (by decide +kernel) rfl, zmem 800 (by decide +kernel) rfl⟩
abbrev mX1_greenestFarm : zM := (yX1_greenestFarm, cX1_greenestFarm, 3, (some .int))
theorem zg_X1_greenestFarm : zGV mX1_greenestFarm 0 := ⟨⟨zmem 599 (by decide +kernel) rfl, zmem 36 (by decide +kernel) rfl, by decide +kernel⟩, zmem 597 (by decide +kernel) rfl, zmem 598 (by decide +kernel) rfl⟩
abbrev mX1_mostGreen : zM := (yX1_mostGreen, cX1_mostGreen, 2, (some .int))
theorem zg_X1_mostGreen : zGV mX1_mostGreen 0 := ⟨⟨zmem 759 (by decide +kernel) rfl, zmem 36 (by decide +kernel) rfl, by decide +kernel⟩, zmem 757 (by decide +kernel) rfl, zmem 758 (by decide +kernel) rfl⟩
abbrev mX1_leastGreen : zM := (yX1_leastGreen, cX1_leastGreen, 3, (some .int))
theorem zg_X1_leastGreen : zGV mX1_leastGreen 0 := ⟨⟨zmem 764 (by decide +kernel) rfl, zmem 36 (by decide +kernel) rfl, by decide +kernel⟩, zmem 762 (by decide +kernel) rfl, zmem 763 (by decide +kernel) rfl⟩
abbrev mX1_firstBarrenFarm : zM := (yX1_firstBarrenFarm, cX1_firstBarrenFarm, 2, (some .int))
theorem zg_X1_firstBarrenFarm : zGV mX1_firstBarrenFarm 0 := ⟨⟨zmem 617 (by decide +kernel) rfl, zmem 36 (by decide +kernel) rfl, by decide +kernel⟩, zmem 615 (by decide +kernel) rfl, zmem 616 (by decide +kernel) rfl⟩
abbrev mX1_freeFarms : zM := (yX1_freeFarms, cX1_freeFarms, 3, (some .int))
theorem zg_X1_freeFarms : zGV mX1_freeFarms 0 := ⟨⟨zmem 465 (by decide +kernel) rfl, zmem 36 (by decide +kernel) rfl, by decide +kernel⟩, zmem 463 (by decide +kernel) rfl, zmem 464 (by decide +kernel) rfl⟩
abbrev mX1_idleFarmers : zM := (yX1_idleFarmers, cX1_idleFarmers, 3, (some .int))
theorem zg_X1_idleFarmers : zGV mX1_idleFarmers 0 := ⟨⟨zmem 743 (by decide +kernel) rfl, zmem 36 (by decide +kernel) rfl, by decide +kernel⟩, zmem 741 (by decide +kernel) rfl, zmem 742 (by decide +kernel) rfl⟩
abbrev mX1_wornFarmers : zM := (yX1_wornFarmers, cX1_wornFarmers, 3, (some .int))
theorem zg_X1_wornFarmers : zGV mX1_wornFarmers 0 := ⟨⟨zmem 747 (by decide +kernel) rfl, zmem 36 (by decide +kernel) rfl, by decide +kernel⟩, zmem 745 (by decide +kernel) rfl, zmem 746 (by decide +kernel) rfl⟩
abbrev mX1_isWorn : zM := (yX1_isWorn, cX1_isWorn, 2, (some .boolean))
theorem zg_X1_isWorn : zGV mX1_isWorn 1 := ⟨⟨zmem 483 (by decide +kernel) rfl, zmem 36 (by decide +kernel) rfl, by decide +kernel⟩, zmem 481 (by decide +kernel) rfl, zmem 482 (by decide +kernel) rfl⟩
abbrev mX1_grownAt : zM := (yX1_grownAt, cX1_grownAt, 3, (some .int))
theorem zg_X1_grownAt : zGV mX1_grownAt 2 := ⟨⟨zmem 535 (by decide +kernel) rfl, zmem 36 (by decide +kernel) rfl, by decide +kernel⟩, zmem 533 (by decide +kernel) rfl, zmem 534 (by decide +kernel) rfl⟩
abbrev mX1_grownNow : zM := (yX1_grownNow, cX1_grownNow, 2, (some .int))
theorem zg_X1_grownNow : zGV mX1_grownNow 1 := ⟨⟨zmem 531 (by decide +kernel) rfl, zmem 36 (by decide +kernel) rfl, by decide +kernel⟩, zmem 529 (by decide +kernel) rfl, zmem 530 (by decide +kernel) rfl⟩
abbrev mX1_feedingKind : zM := (yX1_feedingKind, cX1_feedingKind, 4, (some .int))
theorem zg_X1_feedingKind : zGV mX1_feedingKind 1 := ⟨⟨zmem 705 (by decide +kernel) rfl, zmem 36 (by decide +kernel) rfl, by decide +kernel⟩, zmem 703 (by decide +kernel) rfl, zmem 704 (by decide +kernel) rfl⟩
abbrev mX1_greenFedBy : zM := (yX1_greenFedBy, cX1_greenFedBy, 5, (some .int))
theorem zg_X1_greenFedBy : zGV mX1_greenFedBy 2 := ⟨⟨zmem 709 (by decide +kernel) rfl, zmem 36 (by decide +kernel) rfl, by decide +kernel⟩, zmem 707 (by decide +kernel) rfl, zmem 708 (by decide +kernel) rfl⟩
abbrev mX1_grownIn : zM := (yX1_grownIn, cX1_grownIn, 4, (some .int))
theorem zg_X1_grownIn : zGV mX1_grownIn 1 := ⟨⟨zmem 572 (by decide +kernel) rfl, zmem 36 (by decide +kernel) rfl, by decide +kernel⟩, zmem 570 (by decide +kernel) rfl, zmem 571 (by decide +kernel) rfl⟩
abbrev mX1_passYear : zM := (yX1_passYear, cX1_passYear, 3, none)
theorem zg_X1_passYear : zGV mX1_passYear 0 := ⟨⟨zmem 461 (by decide +kernel) rfl, zmem 36 (by decide +kernel) rfl, by decide +kernel⟩, zmem 459 (by decide +kernel) rfl, zmem 460 (by decide +kernel) rfl⟩
abbrev mX1_isAsFreshAs : zM := (yX1_isAsFreshAs, cX1_isAsFreshAs, 3, (some .boolean))
theorem zg_X1_isAsFreshAs : zGV mX1_isAsFreshAs 1 := ⟨⟨zmem 722 (by decide +kernel) rfl, zmem 36 (by decide +kernel) rfl, by decide +kernel⟩, zmem 720 (by decide +kernel) rfl, zmem 721 (by decide +kernel) rfl⟩
abbrev mX1_isSeatedAs : zM := (yX1_isSeatedAs, cX1_isSeatedAs, 3, (some .boolean))
theorem zg_X1_isSeatedAs : zGV mX1_isSeatedAs 1 := ⟨⟨zmem 734 (by decide +kernel) rfl, zmem 36 (by decide +kernel) rfl, by decide +kernel⟩, zmem 732 (by decide +kernel) rfl, zmem 733 (by decide +kernel) rfl⟩
abbrev mX1_lieUntilled : zM := (yX1_lieUntilled, cX1_lieUntilled, 3, none)
theorem zg_X1_lieUntilled : zGV mX1_lieUntilled 1 := ⟨⟨zmem 469 (by decide +kernel) rfl, zmem 36 (by decide +kernel) rfl, by decide +kernel⟩, zmem 468 (by decide +kernel) rfl, zmem 8 (by decide +kernel) rfl⟩
abbrev mX1_till : zM := (yX1_till, cX1_till, 6, none)
theorem zg_X1_till : zGV mX1_till 2 := ⟨⟨zmem 487 (by decide +kernel) rfl, zmem 36 (by decide +kernel) rfl, by decide +kernel⟩, zmem 486 (by decide +kernel) rfl, zmem 9 (by decide +kernel) rfl⟩
abbrev mX1_moveOn : zM := (yX1_moveOn, cX1_moveOn, 2, none)
theorem zg_X1_moveOn : zGV mX1_moveOn 0 := ⟨⟨zmem 504 (by decide +kernel) rfl, zmem 36 (by decide +kernel) rfl, by decide +kernel⟩, zmem 503 (by decide +kernel) rfl, zmem 10 (by decide +kernel) rfl⟩
abbrev mX1_asHeart : zM := (yX1_asHeart, cX1_asHeart, 1, (some .int))
theorem zg_X1_asHeart : zGS mX1_asHeart 1 := ⟨⟨zmem 476 (by decide +kernel) rfl, zmem 36 (by decide +kernel) rfl, by decide +kernel⟩, zmem 475 (by decide +kernel) rfl⟩
abbrev mX2_init : zM := (yX2_init, cX2_init, 1, none)
abbrev mX2_isFull : zM := (yX2_isFull, cX2_isFull, 1, (some .boolean))
theorem zg_X2_isFull : zGV mX2_isFull 0 := ⟨⟨zmem 222 (by decide +kernel) rfl, zmem 37 (by decide +kernel) rfl, by decide +kernel⟩, zmem 220 (by decide +kernel) rfl, zmem 221 (by decide +kernel) rfl⟩
abbrev mX2_add : zM := (yX2_add, cX2_add, 2, none)
theorem zg_X2_add : zGV mX2_add 1 := ⟨⟨zmem 236 (by decide +kernel) rfl, zmem 37 (by decide +kernel) rfl, by decide +kernel⟩, zmem 234 (by decide +kernel) rfl, zmem 235 (by decide +kernel) rfl⟩
abbrev mX2_tellTo : zM := (yX2_tellTo, cX2_tellTo, 5, (some .int))
theorem zg_X2_tellTo : zGV mX2_tellTo 1 := ⟨⟨zmem 251 (by decide +kernel) rfl, zmem 37 (by decide +kernel) rfl, by decide +kernel⟩, zmem 249 (by decide +kernel) rfl, zmem 250 (by decide +kernel) rfl⟩
abbrev mX2_placeOfWrongLetter : zM := (yX2_placeOfWrongLetter, cX2_placeOfWrongLetter, 4, (some .int))
theorem zg_X2_placeOfWrongLetter : zGV mX2_placeOfWrongLetter 0 := ⟨⟨zmem 255 (by decide +kernel) rfl, zmem 37 (by decide +kernel) rfl, by decide +kernel⟩, zmem 254 (by decide +kernel) rfl, zmem 1 (by decide +kernel) rfl⟩
abbrev mX2_shapeBehind : zM := (yX2_shapeBehind, cX2_shapeBehind, 1, (some (.object "java/lang/String")))
theorem zg_X2_shapeBehind : zGS mX2_shapeBehind 1 := ⟨⟨zmem 269 (by decide +kernel) rfl, zmem 37 (by decide +kernel) rfl, by decide +kernel⟩, zmem 268 (by decide +kernel) rfl⟩
abbrev mX2_fits : zM := (yX2_fits, cX2_fits, 2, (some .boolean))
theorem zg_X2_fits : zGS mX2_fits 2 := ⟨⟨zmem 319 (by decide +kernel) rfl, zmem 37 (by decide +kernel) rfl, by decide +kernel⟩, zmem 318 (by decide +kernel) rfl⟩
abbrev mX2_comes : zM := (yX2_comes, cX2_comes, 3, (some .boolean))
theorem zg_X2_comes : zGV mX2_comes 2 := ⟨⟨zmem 386 (by decide +kernel) rfl, zmem 37 (by decide +kernel) rfl, by decide +kernel⟩, zmem 385 (by decide +kernel) rfl, zmem 2 (by decide +kernel) rfl⟩
abbrev mX2_farmComes : zM := (yX2_farmComes, cX2_farmComes, 6, (some .boolean))
theorem zg_X2_farmComes : zGV mX2_farmComes 2 := ⟨⟨zmem 390 (by decide +kernel) rfl, zmem 37 (by decide +kernel) rfl, by decide +kernel⟩, zmem 389 (by decide +kernel) rfl, zmem 3 (by decide +kernel) rfl⟩
abbrev mX2_farmerComes : zM := (yX2_farmerComes, cX2_farmerComes, 3, (some .boolean))
theorem zg_X2_farmerComes : zGV mX2_farmerComes 2 := ⟨⟨zmem 414 (by decide +kernel) rfl, zmem 37 (by decide +kernel) rfl, by decide +kernel⟩, zmem 413 (by decide +kernel) rfl, zmem 7 (by decide +kernel) rfl⟩
abbrev mX2_seatComes : zM := (yX2_seatComes, cX2_seatComes, 3, (some .boolean))
theorem zg_X2_seatComes : zGS mX2_seatComes 3 := ⟨⟨zmem 421 (by decide +kernel) rfl, zmem 37 (by decide +kernel) rfl, by decide +kernel⟩, zmem 420 (by decide +kernel) rfl⟩
abbrev mX2_leaveComes : zM := (yX2_leaveComes, cX2_leaveComes, 2, (some .boolean))
theorem zg_X2_leaveComes : zGS mX2_leaveComes 2 := ⟨⟨zmem 440 (by decide +kernel) rfl, zmem 37 (by decide +kernel) rfl, by decide +kernel⟩, zmem 439 (by decide +kernel) rfl⟩
abbrev mX2_heartComes : zM := (yX2_heartComes, cX2_heartComes, 4, (some .boolean))
theorem zg_X2_heartComes : zGS mX2_heartComes 4 := ⟨⟨zmem 443 (by decide +kernel) rfl, zmem 37 (by decide +kernel) rfl, by decide +kernel⟩, zmem 442 (by decide +kernel) rfl⟩
abbrev mX2_stepComes : zM := (yX2_stepComes, cX2_stepComes, 2, (some .boolean))
theorem zg_X2_stepComes : zGS mX2_stepComes 2 := ⟨⟨zmem 450 (by decide +kernel) rfl, zmem 37 (by decide +kernel) rfl, by decide +kernel⟩, zmem 449 (by decide +kernel) rfl⟩
abbrev mX2_yearsCome : zM := (yX2_yearsCome, cX2_yearsCome, 3, (some .boolean))
theorem zg_X2_yearsCome : zGS mX2_yearsCome 2 := ⟨⟨zmem 453 (by decide +kernel) rfl, zmem 37 (by decide +kernel) rfl, by decide +kernel⟩, zmem 452 (by decide +kernel) rfl⟩
abbrev mX2_toldAt : zM := (yX2_toldAt, cX2_toldAt, 2, (some .int))
theorem zg_X2_toldAt : zGV mX2_toldAt 1 := ⟨⟨zmem 402 (by decide +kernel) rfl, zmem 37 (by decide +kernel) rfl, by decide +kernel⟩, zmem 401 (by decide +kernel) rfl, zmem 6 (by decide +kernel) rfl⟩
abbrev mX2_digit : zM := (yX2_digit, cX2_digit, 2, (some .int))
theorem zg_X2_digit : zGV mX2_digit 1 := ⟨⟨zmem 398 (by decide +kernel) rfl, zmem 37 (by decide +kernel) rfl, by decide +kernel⟩, zmem 397 (by decide +kernel) rfl, zmem 5 (by decide +kernel) rfl⟩
abbrev mX2_number : zM := (yX2_number, cX2_number, 2, (some .int))
theorem zg_X2_number : zGV mX2_number 1 := ⟨⟨zmem 394 (by decide +kernel) rfl, zmem 37 (by decide +kernel) rfl, by decide +kernel⟩, zmem 393 (by decide +kernel) rfl, zmem 4 (by decide +kernel) rfl⟩
abbrev mX3_init : zM := (yX3_init, cX3_init, 1, none)
abbrev mX3_after : zM := (yX3_after, cX3_after, 3, (some (.object "RotationOfFarmers$Land")))
theorem zg_X3_after : zGV mX3_after 2 := ⟨⟨zmem 581 (by decide +kernel) rfl, zmem 38 (by decide +kernel) rfl, by decide +kernel⟩, zmem 579 (by decide +kernel) rfl, zmem 580 (by decide +kernel) rfl⟩
abbrev mX3_suppose : zM := (yX3_suppose, cX3_suppose, 5, none)
theorem zg_X3_suppose : zGV mX3_suppose 4 := ⟨⟨zmem 810 (by decide +kernel) rfl, zmem 38 (by decide +kernel) rfl, by decide +kernel⟩, zmem 808 (by decide +kernel) rfl, zmem 809 (by decide +kernel) rfl⟩
abbrev mX3_lostYear : zM := (yX3_lostYear, cX3_lostYear, 3, (some .int))
theorem zg_X3_lostYear : zGV mX3_lostYear 1 := ⟨⟨zmem 612 (by decide +kernel) rfl, zmem 38 (by decide +kernel) rfl, by decide +kernel⟩, zmem 610 (by decide +kernel) rfl, zmem 611 (by decide +kernel) rfl⟩
abbrev mX3_lostFarm : zM := (yX3_lostFarm, cX3_lostFarm, 2, (some .int))
theorem zg_X3_lostFarm : zGV mX3_lostFarm 1 := ⟨⟨zmem 608 (by decide +kernel) rfl, zmem 38 (by decide +kernel) rfl, by decide +kernel⟩, zmem 606 (by decide +kernel) rfl, zmem 607 (by decide +kernel) rfl⟩
abbrev mX3_grownOfAll : zM := (yX3_grownOfAll, cX3_grownOfAll, 3, (some .int))
theorem zg_X3_grownOfAll : zGV mX3_grownOfAll 2 := ⟨⟨zmem 626 (by decide +kernel) rfl, zmem 38 (by decide +kernel) rfl, by decide +kernel⟩, zmem 624 (by decide +kernel) rfl, zmem 625 (by decide +kernel) rfl⟩
abbrev mX3_grownOn : zM := (yX3_grownOn, cX3_grownOn, 6, (some .int))
theorem zg_X3_grownOn : zGV mX3_grownOn 3 := ⟨⟨zmem 630 (by decide +kernel) rfl, zmem 38 (by decide +kernel) rfl, by decide +kernel⟩, zmem 628 (by decide +kernel) rfl, zmem 629 (by decide +kernel) rfl⟩
abbrev mX3_grownByStep : zM := (yX3_grownByStep, cX3_grownByStep, 4, (some .int))
theorem zg_X3_grownByStep : zGV mX3_grownByStep 3 := ⟨⟨zmem 642 (by decide +kernel) rfl, zmem 38 (by decide +kernel) rfl, by decide +kernel⟩, zmem 640 (by decide +kernel) rfl, zmem 641 (by decide +kernel) rfl⟩
abbrev mX3_stepOfMost : zM := (yX3_stepOfMost, cX3_stepOfMost, 7, (some .int))
theorem zg_X3_stepOfMost : zGV mX3_stepOfMost 2 := ⟨⟨zmem 638 (by decide +kernel) rfl, zmem 38 (by decide +kernel) rfl, by decide +kernel⟩, zmem 636 (by decide +kernel) rfl, zmem 637 (by decide +kernel) rfl⟩
abbrev mX3_farmerToSend : zM := (yX3_farmerToSend, cX3_farmerToSend, 7, (some .int))
theorem zg_X3_farmerToSend : zGV mX3_farmerToSend 2 := ⟨⟨zmem 651 (by decide +kernel) rfl, zmem 38 (by decide +kernel) rfl, by decide +kernel⟩, zmem 649 (by decide +kernel) rfl, zmem 650 (by decide +kernel) rfl⟩
abbrev mX3_pairToChange : zM := (yX3_pairToChange, cX3_pairToChange, 8, (some .int))
theorem zg_X3_pairToChange : zGV mX3_pairToChange 2 := ⟨⟨zmem 660 (by decide +kernel) rfl, zmem 38 (by decide +kernel) rfl, by decide +kernel⟩, zmem 658 (by decide +kernel) rfl, zmem 659 (by decide +kernel) rfl⟩
abbrev mX3_settledYear : zM := (yX3_settledYear, cX3_settledYear, 3, (some .int))
theorem zg_X3_settledYear : zGV mX3_settledYear 1 := ⟨⟨zmem 718 (by decide +kernel) rfl, zmem 38 (by decide +kernel) rfl, by decide +kernel⟩, zmem 716 (by decide +kernel) rfl, zmem 717 (by decide +kernel) rfl⟩
abbrev mX3_roundYear : zM := (yX3_roundYear, cX3_roundYear, 3, (some .int))
theorem zg_X3_roundYear : zGV mX3_roundYear 1 := ⟨⟨zmem 730 (by decide +kernel) rfl, zmem 38 (by decide +kernel) rfl, by decide +kernel⟩, zmem 728 (by decide +kernel) rfl, zmem 729 (by decide +kernel) rfl⟩
abbrev mX3_restingPair : zM := (yX3_restingPair, cX3_restingPair, 8, (some .int))
theorem zg_X3_restingPair : zGV mX3_restingPair 4 := ⟨⟨zmem 773 (by decide +kernel) rfl, zmem 38 (by decide +kernel) rfl, by decide +kernel⟩, zmem 771 (by decide +kernel) rfl, zmem 772 (by decide +kernel) rfl⟩
abbrev mX3_weigh : zM := (yX3_weigh, cX3_weigh, 9, none)
theorem zg_X3_weigh : zGV mX3_weigh 5 := ⟨⟨zmem 777 (by decide +kernel) rfl, zmem 38 (by decide +kernel) rfl, by decide +kernel⟩, zmem 776 (by decide +kernel) rfl, zmem 14 (by decide +kernel) rfl⟩
abbrev mX3_waysThroughFrost : zM := (yX3_waysThroughFrost, cX3_waysThroughFrost, 13, (some .long))
theorem zg_X3_waysThroughFrost : zGV mX3_waysThroughFrost 4 := ⟨⟨zmem 786 (by decide +kernel) rfl, zmem 38 (by decide +kernel) rfl, by decide +kernel⟩, zmem 784 (by decide +kernel) rfl, zmem 785 (by decide +kernel) rfl⟩
abbrev mX3_sumOfHundreds : zM := (yX3_sumOfHundreds, cX3_sumOfHundreds, 8, (some .int))
theorem zg_X3_sumOfHundreds : zGV mX3_sumOfHundreds 4 := ⟨⟨zmem 839 (by decide +kernel) rfl, zmem 38 (by decide +kernel) rfl, by decide +kernel⟩, zmem 837 (by decide +kernel) rfl, zmem 838 (by decide +kernel) rfl⟩
abbrev mX3_draw : zM := (yX3_draw, cX3_draw, 3, (some .int))
theorem zg_X3_draw : zGV mX3_draw 1 := ⟨⟨zmem 843 (by decide +kernel) rfl, zmem 38 (by decide +kernel) rfl, by decide +kernel⟩, zmem 842 (by decide +kernel) rfl, zmem 17 (by decide +kernel) rfl⟩
abbrev mX4_init : zM := (yX4_init, cX4_init, 1, none)
abbrev mX4_plan : zM := (yX4_plan, cX4_plan, 5, none)
theorem zg_X4_plan : zGV mX4_plan 1 := ⟨⟨zmem 672 (by decide +kernel) rfl, zmem 39 (by decide +kernel) rfl, by decide +kernel⟩, zmem 670 (by decide +kernel) rfl, zmem 671 (by decide +kernel) rfl⟩
abbrev mX4_planSeat : zM := (yX4_planSeat, cX4_planSeat, 7, none)
theorem zg_X4_planSeat : zGV mX4_planSeat 4 := ⟨⟨zmem 681 (by decide +kernel) rfl, zmem 39 (by decide +kernel) rfl, by decide +kernel⟩, zmem 680 (by decide +kernel) rfl, zmem 12 (by decide +kernel) rfl⟩
abbrev mX4_most : zM := (yX4_most, cX4_most, 1, (some .int))
theorem zg_X4_most : zGV mX4_most 0 := ⟨⟨zmem 689 (by decide +kernel) rfl, zmem 39 (by decide +kernel) rfl, by decide +kernel⟩, zmem 687 (by decide +kernel) rfl, zmem 688 (by decide +kernel) rfl⟩
abbrev mX4_seatOf : zM := (yX4_seatOf, cX4_seatOf, 6, (some .int))
theorem zg_X4_seatOf : zGV mX4_seatOf 2 := ⟨⟨zmem 693 (by decide +kernel) rfl, zmem 39 (by decide +kernel) rfl, by decide +kernel⟩, zmem 691 (by decide +kernel) rfl, zmem 692 (by decide +kernel) rfl⟩
abbrev mX4_firstSeat : zM := (yX4_firstSeat, cX4_firstSeat, 6, (some .int))
theorem zg_X4_firstSeat : zGV mX4_firstSeat 3 := ⟨⟨zmem 697 (by decide +kernel) rfl, zmem 39 (by decide +kernel) rfl, by decide +kernel⟩, zmem 696 (by decide +kernel) rfl, zmem 13 (by decide +kernel) rfl⟩
abbrev mX4_mostBehind : zM := (yX4_mostBehind, cX4_mostBehind, 3, (some .int))
theorem zg_X4_mostBehind : zGV mX4_mostBehind 2 := ⟨⟨zmem 676 (by decide +kernel) rfl, zmem 39 (by decide +kernel) rfl, by decide +kernel⟩, zmem 675 (by decide +kernel) rfl, zmem 11 (by decide +kernel) rfl⟩
abbrev mX4_isOpen : zM := (yX4_isOpen, cX4_isOpen, 2, (some .boolean))
theorem zg_X4_isOpen : zGS mX4_isOpen 2 := ⟨⟨zmem 684 (by decide +kernel) rfl, zmem 39 (by decide +kernel) rfl, by decide +kernel⟩, zmem 683 (by decide +kernel) rfl⟩
abbrev mX5_init : zM := (yX5_init, cX5_init, 1, none)
abbrev mX5_letter : zM := (yX5_letter, cX5_letter, 3, (some .int))
theorem zg_X5_letter : zGV mX5_letter 1 := ⟨⟨zmem 215 (by decide +kernel) rfl, zmem 35 (by decide +kernel) rfl, by decide +kernel⟩, zmem 213 (by decide +kernel) rfl, zmem 214 (by decide +kernel) rfl⟩
abbrev mX5_land : zM := (yX5_land, cX5_land, 2, (some .int))
theorem zg_X5_land : zGV mX5_land 0 := ⟨⟨zmem 240 (by decide +kernel) rfl, zmem 35 (by decide +kernel) rfl, by decide +kernel⟩, zmem 238 (by decide +kernel) rfl, zmem 239 (by decide +kernel) rfl⟩
abbrev mX5_farm : zM := (yX5_farm, cX5_farm, 4, (some .int))
theorem zg_X5_farm : zGV mX5_farm 2 := ⟨⟨zmem 509 (by decide +kernel) rfl, zmem 35 (by decide +kernel) rfl, by decide +kernel⟩, zmem 507 (by decide +kernel) rfl, zmem 508 (by decide +kernel) rfl⟩
abbrev mX5_farmer : zM := (yX5_farmer, cX5_farmer, 4, (some .int))
theorem zg_X5_farmer : zGV mX5_farmer 2 := ⟨⟨zmem 526 (by decide +kernel) rfl, zmem 35 (by decide +kernel) rfl, by decide +kernel⟩, zmem 524 (by decide +kernel) rfl, zmem 525 (by decide +kernel) rfl⟩
abbrev mX5_sits : zM := (yX5_sits, cX5_sits, 5, (some .int))
theorem zg_X5_sits : zGV mX5_sits 2 := ⟨⟨zmem 540 (by decide +kernel) rfl, zmem 35 (by decide +kernel) rfl, by decide +kernel⟩, zmem 538 (by decide +kernel) rfl, zmem 539 (by decide +kernel) rfl⟩
abbrev mX5_leaves : zM := (yX5_leaves, cX5_leaves, 3, (some .int))
theorem zg_X5_leaves : zGV mX5_leaves 1 := ⟨⟨zmem 545 (by decide +kernel) rfl, zmem 35 (by decide +kernel) rfl, by decide +kernel⟩, zmem 543 (by decide +kernel) rfl, zmem 544 (by decide +kernel) rfl⟩
abbrev mX5_hearts : zM := (yX5_hearts, cX5_hearts, 6, (some .int))
theorem zg_X5_hearts : zGV mX5_hearts 3 := ⟨⟨zmem 549 (by decide +kernel) rfl, zmem 35 (by decide +kernel) rfl, by decide +kernel⟩, zmem 547 (by decide +kernel) rfl, zmem 548 (by decide +kernel) rfl⟩
abbrev mX5_steps : zM := (yX5_steps, cX5_steps, 4, (some .int))
theorem zg_X5_steps : zGV mX5_steps 1 := ⟨⟨zmem 555 (by decide +kernel) rfl, zmem 35 (by decide +kernel) rfl, by decide +kernel⟩, zmem 553 (by decide +kernel) rfl, zmem 554 (by decide +kernel) rfl⟩
abbrev mX5_tires : zM := (yX5_tires, cX5_tires, 5, (some .int))
theorem zg_X5_tires : zGV mX5_tires 2 := ⟨⟨zmem 559 (by decide +kernel) rfl, zmem 35 (by decide +kernel) rfl, by decide +kernel⟩, zmem 557 (by decide +kernel) rfl, zmem 558 (by decide +kernel) rfl⟩
abbrev mX5_turn : zM := (yX5_turn, cX5_turn, 6, (some .int))
theorem zg_X5_turn : zGV mX5_turn 3 := ⟨⟨zmem 563 (by decide +kernel) rfl, zmem 35 (by decide +kernel) rfl, by decide +kernel⟩, zmem 561 (by decide +kernel) rfl, zmem 562 (by decide +kernel) rfl⟩
abbrev mX5_years : zM := (yX5_years, cX5_years, 3, (some .int))
theorem zg_X5_years : zGV mX5_years 1 := ⟨⟨zmem 567 (by decide +kernel) rfl, zmem 35 (by decide +kernel) rfl, by decide +kernel⟩, zmem 565 (by decide +kernel) rfl, zmem 566 (by decide +kernel) rfl⟩
abbrev mX5_heartThen : zM := (yX5_heartThen, cX5_heartThen, 5, (some .int))
theorem zg_X5_heartThen : zGV mX5_heartThen 3 := ⟨⟨zmem 577 (by decide +kernel) rfl, zmem 35 (by decide +kernel) rfl, by decide +kernel⟩, zmem 575 (by decide +kernel) rfl, zmem 576 (by decide +kernel) rfl⟩
abbrev mX5_farmerThen : zM := (yX5_farmerThen, cX5_farmerThen, 6, (some .int))
theorem zg_X5_farmerThen : zGV mX5_farmerThen 3 := ⟨⟨zmem 587 (by decide +kernel) rfl, zmem 35 (by decide +kernel) rfl, by decide +kernel⟩, zmem 585 (by decide +kernel) rfl, zmem 586 (by decide +kernel) rfl⟩
abbrev mX5_barnThen : zM := (yX5_barnThen, cX5_barnThen, 3, (some .int))
theorem zg_X5_barnThen : zGV mX5_barnThen 1 := ⟨⟨zmem 591 (by decide +kernel) rfl, zmem 35 (by decide +kernel) rfl, by decide +kernel⟩, zmem 589 (by decide +kernel) rfl, zmem 590 (by decide +kernel) rfl⟩
abbrev mX5_greenest : zM := (yX5_greenest, cX5_greenest, 1, (some .int))
theorem zg_X5_greenest : zGV mX5_greenest 0 := ⟨⟨zmem 595 (by decide +kernel) rfl, zmem 35 (by decide +kernel) rfl, by decide +kernel⟩, zmem 593 (by decide +kernel) rfl, zmem 594 (by decide +kernel) rfl⟩
abbrev mX5_lost : zM := (yX5_lost, cX5_lost, 3, (some .int))
theorem zg_X5_lost : zGV mX5_lost 1 := ⟨⟨zmem 604 (by decide +kernel) rfl, zmem 35 (by decide +kernel) rfl, by decide +kernel⟩, zmem 602 (by decide +kernel) rfl, zmem 603 (by decide +kernel) rfl⟩
abbrev mX5_crop : zM := (yX5_crop, cX5_crop, 4, (some .int))
theorem zg_X5_crop : zGV mX5_crop 2 := ⟨⟨zmem 622 (by decide +kernel) rfl, zmem 35 (by decide +kernel) rfl, by decide +kernel⟩, zmem 620 (by decide +kernel) rfl, zmem 621 (by decide +kernel) rfl⟩
abbrev mX5_bestStep : zM := (yX5_bestStep, cX5_bestStep, 5, (some .int))
theorem zg_X5_bestStep : zGV mX5_bestStep 2 := ⟨⟨zmem 634 (by decide +kernel) rfl, zmem 35 (by decide +kernel) rfl, by decide +kernel⟩, zmem 632 (by decide +kernel) rfl, zmem 633 (by decide +kernel) rfl⟩
abbrev mX5_send : zM := (yX5_send, cX5_send, 3, (some .int))
theorem zg_X5_send : zGV mX5_send 1 := ⟨⟨zmem 647 (by decide +kernel) rfl, zmem 35 (by decide +kernel) rfl, by decide +kernel⟩, zmem 645 (by decide +kernel) rfl, zmem 646 (by decide +kernel) rfl⟩
abbrev mX5_change : zM := (yX5_change, cX5_change, 3, (some .int))
theorem zg_X5_change : zGV mX5_change 1 := ⟨⟨zmem 656 (by decide +kernel) rfl, zmem 35 (by decide +kernel) rfl, by decide +kernel⟩, zmem 654 (by decide +kernel) rfl, zmem 655 (by decide +kernel) rfl⟩
abbrev mX5_next : zM := (yX5_next, cX5_next, 3, (some .int))
theorem zg_X5_next : zGV mX5_next 1 := ⟨⟨zmem 668 (by decide +kernel) rfl, zmem 35 (by decide +kernel) rfl, by decide +kernel⟩, zmem 666 (by decide +kernel) rfl, zmem 667 (by decide +kernel) rfl⟩
abbrev mX5_feed : zM := (yX5_feed, cX5_feed, 5, (some .int))
theorem zg_X5_feed : zGV mX5_feed 2 := ⟨⟨zmem 701 (by decide +kernel) rfl, zmem 35 (by decide +kernel) rfl, by decide +kernel⟩, zmem 699 (by decide +kernel) rfl, zmem 700 (by decide +kernel) rfl⟩
abbrev mX5_settles : zM := (yX5_settles, cX5_settles, 1, (some .int))
theorem zg_X5_settles : zGV mX5_settles 0 := ⟨⟨zmem 714 (by decide +kernel) rfl, zmem 35 (by decide +kernel) rfl, by decide +kernel⟩, zmem 712 (by decide +kernel) rfl, zmem 713 (by decide +kernel) rfl⟩
abbrev mX5_round : zM := (yX5_round, cX5_round, 1, (some .int))
theorem zg_X5_round : zGV mX5_round 0 := ⟨⟨zmem 726 (by decide +kernel) rfl, zmem 35 (by decide +kernel) rfl, by decide +kernel⟩, zmem 724 (by decide +kernel) rfl, zmem 725 (by decide +kernel) rfl⟩
abbrev mX5_free : zM := (yX5_free, cX5_free, 3, (some .int))
theorem zg_X5_free : zGV mX5_free 1 := ⟨⟨zmem 738 (by decide +kernel) rfl, zmem 35 (by decide +kernel) rfl, by decide +kernel⟩, zmem 736 (by decide +kernel) rfl, zmem 737 (by decide +kernel) rfl⟩
abbrev mX5_inHeart : zM := (yX5_inHeart, cX5_inHeart, 2, (some .int))
theorem zg_X5_inHeart : zGV mX5_inHeart 0 := ⟨⟨zmem 751 (by decide +kernel) rfl, zmem 35 (by decide +kernel) rfl, by decide +kernel⟩, zmem 749 (by decide +kernel) rfl, zmem 750 (by decide +kernel) rfl⟩
abbrev mX5_even : zM := (yX5_even, cX5_even, 1, (some .int))
theorem zg_X5_even : zGV mX5_even 0 := ⟨⟨zmem 755 (by decide +kernel) rfl, zmem 35 (by decide +kernel) rfl, by decide +kernel⟩, zmem 753 (by decide +kernel) rfl, zmem 754 (by decide +kernel) rfl⟩
abbrev mX5_two : zM := (yX5_two, cX5_two, 5, (some .int))
theorem zg_X5_two : zGV mX5_two 3 := ⟨⟨zmem 769 (by decide +kernel) rfl, zmem 35 (by decide +kernel) rfl, by decide +kernel⟩, zmem 767 (by decide +kernel) rfl, zmem 768 (by decide +kernel) rfl⟩
abbrev mX5_frost : zM := (yX5_frost, cX5_frost, 9, (some .long))
theorem zg_X5_frost : zGV mX5_frost 4 := ⟨⟨zmem 781 (by decide +kernel) rfl, zmem 35 (by decide +kernel) rfl, by decide +kernel⟩, zmem 779 (by decide +kernel) rfl, zmem 780 (by decide +kernel) rfl⟩
abbrev mX5_mean : zM := (yX5_mean, cX5_mean, 3, (some .long))
theorem zg_X5_mean : zGV mX5_mean 1 := ⟨⟨zmem 797 (by decide +kernel) rfl, zmem 35 (by decide +kernel) rfl, by decide +kernel⟩, zmem 795 (by decide +kernel) rfl, zmem 796 (by decide +kernel) rfl⟩
abbrev mX5_whoSat : zM := (yX5_whoSat, cX5_whoSat, 10, (some .int))
theorem zg_X5_whoSat : zGV mX5_whoSat 3 := ⟨⟨zmem 806 (by decide +kernel) rfl, zmem 35 (by decide +kernel) rfl, by decide +kernel⟩, zmem 804 (by decide +kernel) rfl, zmem 805 (by decide +kernel) rfl⟩
abbrev mX5_row : zM := (yX5_row, cX5_row, 3, (some .int))
theorem zg_X5_row : zGV mX5_row 1 := ⟨⟨zmem 819 (by decide +kernel) rfl, zmem 35 (by decide +kernel) rfl, by decide +kernel⟩, zmem 817 (by decide +kernel) rfl, zmem 818 (by decide +kernel) rfl⟩
abbrev mX5_judge : zM := (yX5_judge, cX5_judge, 2, (some .int))
theorem zg_X5_judge : zGV mX5_judge 0 := ⟨⟨zmem 823 (by decide +kernel) rfl, zmem 35 (by decide +kernel) rfl, by decide +kernel⟩, zmem 821 (by decide +kernel) rfl, zmem 822 (by decide +kernel) rfl⟩
abbrev mX5_clear : zM := (yX5_clear, cX5_clear, 2, (some .int))
theorem zg_X5_clear : zGV mX5_clear 0 := ⟨⟨zmem 831 (by decide +kernel) rfl, zmem 35 (by decide +kernel) rfl, by decide +kernel⟩, zmem 829 (by decide +kernel) rfl, zmem 830 (by decide +kernel) rfl⟩
abbrev mX5_lots : zM := (yX5_lots, cX5_lots, 5, (some .int))
theorem zg_X5_lots : zGV mX5_lots 3 := ⟨⟨zmem 835 (by decide +kernel) rfl, zmem 35 (by decide +kernel) rfl, by decide +kernel⟩, zmem 833 (by decide +kernel) rfl, zmem 834 (by decide +kernel) rfl⟩
abbrev mX5_image : zM := (yX5_image, cX5_image, 1, (some .int))
theorem zg_X5_image : zGV mX5_image 0 := ⟨⟨zmem 851 (by decide +kernel) rfl, zmem 35 (by decide +kernel) rfl, by decide +kernel⟩, zmem 849 (by decide +kernel) rfl, zmem 850 (by decide +kernel) rfl⟩
abbrev mX5_on : zM := (yX5_on, cX5_on, 1, (some .int))
theorem zg_X5_on : zGV mX5_on 0 := ⟨⟨zmem 855 (by decide +kernel) rfl, zmem 35 (by decide +kernel) rfl, by decide +kernel⟩, zmem 853 (by decide +kernel) rfl, zmem 854 (by decide +kernel) rfl⟩
abbrev mX5_count : zM := (yX5_count, cX5_count, 2, (some .int))
theorem zg_X5_count : zGV mX5_count 1 := ⟨⟨zmem 859 (by decide +kernel) rfl, zmem 35 (by decide +kernel) rfl, by decide +kernel⟩, zmem 857 (by decide +kernel) rfl, zmem 858 (by decide +kernel) rfl⟩
abbrev mX5_greensAreTheRow : zM := (yX5_greensAreTheRow, cX5_greensAreTheRow, 3, (some .boolean))
theorem zg_X5_greensAreTheRow : zGV mX5_greensAreTheRow 1 := ⟨⟨zmem 814 (by decide +kernel) rfl, zmem 35 (by decide +kernel) rfl, by decide +kernel⟩, zmem 813 (by decide +kernel) rfl, zmem 15 (by decide +kernel) rfl⟩
abbrev mX5_firstWrongCrop : zM := (yX5_firstWrongCrop, cX5_firstWrongCrop, 3, (some .int))
theorem zg_X5_firstWrongCrop : zGV mX5_firstWrongCrop 0 := ⟨⟨zmem 827 (by decide +kernel) rfl, zmem 35 (by decide +kernel) rfl, by decide +kernel⟩, zmem 826 (by decide +kernel) rfl, zmem 16 (by decide +kernel) rfl⟩
abbrev mX5_refuse : zM := (yX5_refuse, cX5_refuse, 3, (some .int))
theorem zg_X5_refuse : zGV mX5_refuse 1 := ⟨⟨zmem 232 (by decide +kernel) rfl, zmem 35 (by decide +kernel) rfl, by decide +kernel⟩, zmem 231 (by decide +kernel) rfl, zmem 0 (by decide +kernel) rfl⟩
abbrev mX5_firstOf : zM := (yX5_firstOf, cX5_firstOf, 3, (some .int))
theorem zg_X5_firstOf : zGS mX5_firstOf 3 := ⟨⟨zmem 228 (by decide +kernel) rfl, zmem 35 (by decide +kernel) rfl, by decide +kernel⟩, zmem 227 (by decide +kernel) rfl⟩
abbrev mX5_nobodyUnless : zM := (yX5_nobodyUnless, cX5_nobodyUnless, 1, (some .int))
theorem zg_X5_nobodyUnless : zGS mX5_nobodyUnless 1 := ⟨⟨zmem 513 (by decide +kernel) rfl, zmem 35 (by decide +kernel) rfl, by decide +kernel⟩, zmem 512 (by decide +kernel) rfl⟩
abbrev mX5_otherUnless : zM := (yX5_otherUnless, cX5_otherUnless, 2, (some .int))
theorem zg_X5_otherUnless : zGS mX5_otherUnless 2 := ⟨⟨zmem 516 (by decide +kernel) rfl, zmem 35 (by decide +kernel) rfl, by decide +kernel⟩, zmem 515 (by decide +kernel) rfl⟩
abbrev mX5_roomIf : zM := (yX5_roomIf, cX5_roomIf, 1, (some .int))
theorem zg_X5_roomIf : zGS mX5_roomIf 1 := ⟨⟨zmem 225 (by decide +kernel) rfl, zmem 35 (by decide +kernel) rfl, by decide +kernel⟩, zmem 224 (by decide +kernel) rfl⟩
abbrev mX5_inRange : zM := (yX5_inRange, cX5_inRange, 3, (some .int))
theorem zg_X5_inRange : zGS mX5_inRange 3 := ⟨⟨zmem 218 (by decide +kernel) rfl, zmem 35 (by decide +kernel) rfl, by decide +kernel⟩, zmem 217 (by decide +kernel) rfl⟩
abbrev mX5_termOf : zM := (yX5_termOf, cX5_termOf, 12, (some .long))
theorem zg_X5_termOf : zGS mX5_termOf 3 := ⟨⟨zmem 790 (by decide +kernel) rfl, zmem 35 (by decide +kernel) rfl, by decide +kernel⟩, zmem 789 (by decide +kernel) rfl⟩
abbrev mX6_init : zM := (yX6_init, cX6_init, 1, none)
abbrev mX6_isIn : zM := (yX6_isIn, cX6_isIn, 3, (some .boolean))
theorem zg_X6_isIn : zGS mX6_isIn 3 := ⟨⟨zmem 947 (by decide +kernel) rfl, zmem 40 (by decide +kernel) rfl, by decide +kernel⟩, zmem 946 (by decide +kernel) rfl⟩
abbrev mX6_held : zM := (yX6_held, cX6_held, 2, (some .int))
theorem zg_X6_held : zGS mX6_held 2 := ⟨⟨zmem 992 (by decide +kernel) rfl, zmem 40 (by decide +kernel) rfl, by decide +kernel⟩, zmem 991 (by decide +kernel) rfl⟩
abbrev mX6_copies : zM := (yX6_copies, cX6_copies, 3, none)
theorem zg_X6_copies : zGS mX6_copies 2 := ⟨⟨zmem 957 (by decide +kernel) rfl, zmem 40 (by decide +kernel) rfl, by decide +kernel⟩, zmem 956 (by decide +kernel) rfl⟩
abbrev mX6_no : zM := (yX6_no, cX6_no, 2, (some .int))
theorem zg_X6_no : zGV mX6_no 1 := ⟨⟨zmem 928 (by decide +kernel) rfl, zmem 40 (by decide +kernel) rfl, by decide +kernel⟩, zmem 927 (by decide +kernel) rfl, zmem 18 (by decide +kernel) rfl⟩
abbrev mX6_noWide : zM := (yX6_noWide, cX6_noWide, 2, (some .long))
theorem zg_X6_noWide : zGV mX6_noWide 1 := ⟨⟨zmem 1148 (by decide +kernel) rfl, zmem 40 (by decide +kernel) rfl, by decide +kernel⟩, zmem 1147 (by decide +kernel) rfl, zmem 32 (by decide +kernel) rfl⟩
abbrev mX6_of : zM := (yX6_of, cX6_of, 2, (some .int))
theorem zg_X6_of : zGS mX6_of 2 := ⟨⟨zmem 967 (by decide +kernel) rfl, zmem 40 (by decide +kernel) rfl, by decide +kernel⟩, zmem 966 (by decide +kernel) rfl⟩
abbrev mX6_heart : zM := (yX6_heart, cX6_heart, 2, (some .int))
theorem zg_X6_heart : zGS mX6_heart 2 := ⟨⟨zmem 964 (by decide +kernel) rfl, zmem 40 (by decide +kernel) rfl, by decide +kernel⟩, zmem 963 (by decide +kernel) rfl⟩
abbrev mX6_isFarm : zM := (yX6_isFarm, cX6_isFarm, 2, (some .boolean))
theorem zg_X6_isFarm : zGV mX6_isFarm 1 := ⟨⟨zmem 975 (by decide +kernel) rfl, zmem 40 (by decide +kernel) rfl, by decide +kernel⟩, zmem 974 (by decide +kernel) rfl, zmem 25 (by decide +kernel) rfl⟩
abbrev mX6_isFarmer : zM := (yX6_isFarmer, cX6_isFarmer, 2, (some .boolean))
theorem zg_X6_isFarmer : zGV mX6_isFarmer 1 := ⟨⟨zmem 971 (by decide +kernel) rfl, zmem 40 (by decide +kernel) rfl, by decide +kernel⟩, zmem 970 (by decide +kernel) rfl, zmem 24 (by decide +kernel) rfl⟩
abbrev mX6_has : zM := (yX6_has, cX6_has, 2, (some .boolean))
theorem zg_X6_has : zGS mX6_has 2 := ⟨⟨zmem 1104 (by decide +kernel) rfl, zmem 40 (by decide +kernel) rfl, by decide +kernel⟩, zmem 1103 (by decide +kernel) rfl⟩
abbrev mX6_growsBy : zM := (yX6_growsBy, cX6_growsBy, 5, (some .int))
theorem zg_X6_growsBy : zGS mX6_growsBy 3 := ⟨⟨zmem 995 (by decide +kernel) rfl, zmem 40 (by decide +kernel) rfl, by decide +kernel⟩, zmem 994 (by decide +kernel) rfl⟩
abbrev mX6_more : zM := (yX6_more, cX6_more, 4, none)
theorem zg_X6_more : zGS mX6_more 4 := ⟨⟨zmem 1001 (by decide +kernel) rfl, zmem 40 (by decide +kernel) rfl, by decide +kernel⟩, zmem 1000 (by decide +kernel) rfl⟩
abbrev mX6_changes : zM := (yX6_changes, cX6_changes, 6, none)
theorem zg_X6_changes : zGS mX6_changes 4 := ⟨⟨zmem 998 (by decide +kernel) rfl, zmem 40 (by decide +kernel) rfl, by decide +kernel⟩, zmem 997 (by decide +kernel) rfl⟩
abbrev mX6_tiresBy : zM := (yX6_tiresBy, cX6_tiresBy, 1, (some .int))
theorem zg_X6_tiresBy : zGS mX6_tiresBy 1 := ⟨⟨zmem 1004 (by decide +kernel) rfl, zmem 40 (by decide +kernel) rfl, by decide +kernel⟩, zmem 1003 (by decide +kernel) rfl⟩
abbrev mX6_farmerAt : zM := (yX6_farmerAt, cX6_farmerAt, 3, (some .int))
theorem zg_X6_farmerAt : zGS mX6_farmerAt 2 := ⟨⟨zmem 981 (by decide +kernel) rfl, zmem 40 (by decide +kernel) rfl, by decide +kernel⟩, zmem 980 (by decide +kernel) rfl⟩
abbrev mX6_year : zM := (yX6_year, cX6_year, 7, (some .int))
theorem zg_X6_year : zGV mX6_year 2 := ⟨⟨zmem 989 (by decide +kernel) rfl, zmem 40 (by decide +kernel) rfl, by decide +kernel⟩, zmem 988 (by decide +kernel) rfl, zmem 27 (by decide +kernel) rfl⟩
abbrev mX6_yearsOn : zM := (yX6_yearsOn, cX6_yearsOn, 5, (some .int))
theorem zg_X6_yearsOn : zGV mX6_yearsOn 2 := ⟨⟨zmem 985 (by decide +kernel) rfl, zmem 40 (by decide +kernel) rfl, by decide +kernel⟩, zmem 984 (by decide +kernel) rfl, zmem 26 (by decide +kernel) rfl⟩
abbrev mX6_green : zM := (yX6_green, cX6_green, 2, (some .int))
theorem zg_X6_green : zGS mX6_green 2 := ⟨⟨zmem 1011 (by decide +kernel) rfl, zmem 40 (by decide +kernel) rfl, by decide +kernel⟩, zmem 1010 (by decide +kernel) rfl⟩
abbrev mX6_greenAll : zM := (yX6_greenAll, cX6_greenAll, 3, (some .int))
theorem zg_X6_greenAll : zGS mX6_greenAll 1 := ⟨⟨zmem 1162 (by decide +kernel) rfl, zmem 40 (by decide +kernel) rfl, by decide +kernel⟩, zmem 1161 (by decide +kernel) rfl⟩
abbrev mX6_sitsIn : zM := (yX6_sitsIn, cX6_sitsIn, 4, none)
theorem zg_X6_sitsIn : zGS mX6_sitsIn 3 := ⟨⟨zmem 978 (by decide +kernel) rfl, zmem 40 (by decide +kernel) rfl, by decide +kernel⟩, zmem 977 (by decide +kernel) rfl⟩
abbrev mX6_letter : zM := (yX6_letter, cX6_letter, 2, (some .int))
theorem zg_X6_letter : zGV mX6_letter 1 := ⟨⟨zmem 924 (by decide +kernel) rfl, zmem 40 (by decide +kernel) rfl, by decide +kernel⟩, zmem 922 (by decide +kernel) rfl, zmem 923 (by decide +kernel) rfl⟩
abbrev mX6_here : zM := (yX6_here, cX6_here, 1, (some .int))
theorem zg_X6_here : zGV mX6_here 0 := ⟨⟨zmem 940 (by decide +kernel) rfl, zmem 40 (by decide +kernel) rfl, by decide +kernel⟩, zmem 939 (by decide +kernel) rfl, zmem 20 (by decide +kernel) rfl⟩
abbrev mX6_readsNumber : zM := (yX6_readsNumber, cX6_readsNumber, 4, (some .boolean))
theorem zg_X6_readsNumber : zGV mX6_readsNumber 2 := ⟨⟨zmem 944 (by decide +kernel) rfl, zmem 40 (by decide +kernel) rfl, by decide +kernel⟩, zmem 943 (by decide +kernel) rfl, zmem 21 (by decide +kernel) rfl⟩
abbrev mX6_kindBy : zM := (yX6_kindBy, cX6_kindBy, 1, (some .int))
theorem zg_X6_kindBy : zGS mX6_kindBy 1 := ⟨⟨zmem 954 (by decide +kernel) rfl, zmem 40 (by decide +kernel) rfl, by decide +kernel⟩, zmem 953 (by decide +kernel) rfl⟩
abbrev mX6_readsKind : zM := (yX6_readsKind, cX6_readsKind, 1, (some .boolean))
theorem zg_X6_readsKind : zGV mX6_readsKind 0 := ⟨⟨zmem 951 (by decide +kernel) rfl, zmem 40 (by decide +kernel) rfl, by decide +kernel⟩, zmem 950 (by decide +kernel) rfl, zmem 22 (by decide +kernel) rfl⟩
abbrev mX6_readsStatement : zM := (yX6_readsStatement, cX6_readsStatement, 3, (some .boolean))
theorem zg_X6_readsStatement : zGV mX6_readsStatement 0 := ⟨⟨zmem 936 (by decide +kernel) rfl, zmem 40 (by decide +kernel) rfl, by decide +kernel⟩, zmem 935 (by decide +kernel) rfl, zmem 19 (by decide +kernel) rfl⟩
abbrev mX6_isDone : zM := (yX6_isDone, cX6_isDone, 7, (some .boolean))
theorem zg_X6_isDone : zGV mX6_isDone 1 := ⟨⟨zmem 961 (by decide +kernel) rfl, zmem 40 (by decide +kernel) rfl, by decide +kernel⟩, zmem 960 (by decide +kernel) rfl, zmem 23 (by decide +kernel) rfl⟩
abbrev mX6_land : zM := (yX6_land, cX6_land, 6, (some .int))
theorem zg_X6_land : zGV mX6_land 0 := ⟨⟨zmem 932 (by decide +kernel) rfl, zmem 40 (by decide +kernel) rfl, by decide +kernel⟩, zmem 930 (by decide +kernel) rfl, zmem 931 (by decide +kernel) rfl⟩
abbrev mX6_farm : zM := (yX6_farm, cX6_farm, 3, (some .int))
theorem zg_X6_farm : zGV mX6_farm 2 := ⟨⟨zmem 1008 (by decide +kernel) rfl, zmem 40 (by decide +kernel) rfl, by decide +kernel⟩, zmem 1006 (by decide +kernel) rfl, zmem 1007 (by decide +kernel) rfl⟩
abbrev mX6_farmer : zM := (yX6_farmer, cX6_farmer, 3, (some .int))
theorem zg_X6_farmer : zGV mX6_farmer 2 := ⟨⟨zmem 1015 (by decide +kernel) rfl, zmem 40 (by decide +kernel) rfl, by decide +kernel⟩, zmem 1013 (by decide +kernel) rfl, zmem 1014 (by decide +kernel) rfl⟩
abbrev mX6_sits : zM := (yX6_sits, cX6_sits, 4, (some .int))
theorem zg_X6_sits : zGV mX6_sits 2 := ⟨⟨zmem 1019 (by decide +kernel) rfl, zmem 40 (by decide +kernel) rfl, by decide +kernel⟩, zmem 1017 (by decide +kernel) rfl, zmem 1018 (by decide +kernel) rfl⟩
abbrev mX6_leaves : zM := (yX6_leaves, cX6_leaves, 3, (some .int))
theorem zg_X6_leaves : zGV mX6_leaves 1 := ⟨⟨zmem 1023 (by decide +kernel) rfl, zmem 40 (by decide +kernel) rfl, by decide +kernel⟩, zmem 1021 (by decide +kernel) rfl, zmem 1022 (by decide +kernel) rfl⟩
abbrev mX6_wrongBy : zM := (yX6_wrongBy, cX6_wrongBy, 3, (some .int))
theorem zg_X6_wrongBy : zGS mX6_wrongBy 3 := ⟨⟨zmem 1030 (by decide +kernel) rfl, zmem 40 (by decide +kernel) rfl, by decide +kernel⟩, zmem 1029 (by decide +kernel) rfl⟩
abbrev mX6_hearts : zM := (yX6_hearts, cX6_hearts, 6, (some .int))
theorem zg_X6_hearts : zGV mX6_hearts 3 := ⟨⟨zmem 1027 (by decide +kernel) rfl, zmem 40 (by decide +kernel) rfl, by decide +kernel⟩, zmem 1025 (by decide +kernel) rfl, zmem 1026 (by decide +kernel) rfl⟩
abbrev mX6_steps : zM := (yX6_steps, cX6_steps, 4, (some .int))
theorem zg_X6_steps : zGV mX6_steps 1 := ⟨⟨zmem 1034 (by decide +kernel) rfl, zmem 40 (by decide +kernel) rfl, by decide +kernel⟩, zmem 1032 (by decide +kernel) rfl, zmem 1033 (by decide +kernel) rfl⟩
abbrev mX6_tires : zM := (yX6_tires, cX6_tires, 5, (some .int))
theorem zg_X6_tires : zGV mX6_tires 2 := ⟨⟨zmem 1038 (by decide +kernel) rfl, zmem 40 (by decide +kernel) rfl, by decide +kernel⟩, zmem 1036 (by decide +kernel) rfl, zmem 1037 (by decide +kernel) rfl⟩
abbrev mX6_turn : zM := (yX6_turn, cX6_turn, 6, (some .int))
theorem zg_X6_turn : zGV mX6_turn 3 := ⟨⟨zmem 1042 (by decide +kernel) rfl, zmem 40 (by decide +kernel) rfl, by decide +kernel⟩, zmem 1040 (by decide +kernel) rfl, zmem 1041 (by decide +kernel) rfl⟩
abbrev mX6_years : zM := (yX6_years, cX6_years, 3, (some .int))
theorem zg_X6_years : zGV mX6_years 1 := ⟨⟨zmem 1046 (by decide +kernel) rfl, zmem 40 (by decide +kernel) rfl, by decide +kernel⟩, zmem 1044 (by decide +kernel) rfl, zmem 1045 (by decide +kernel) rfl⟩
abbrev mX6_takes : zM := (yX6_takes, cX6_takes, 2, (some .int))
theorem zg_X6_takes : zGV mX6_takes 1 := ⟨⟨zmem 1054 (by decide +kernel) rfl, zmem 40 (by decide +kernel) rfl, by decide +kernel⟩, zmem 1053 (by decide +kernel) rfl, zmem 28 (by decide +kernel) rfl⟩
abbrev mX6_heartThen : zM := (yX6_heartThen, cX6_heartThen, 6, (some .int))
theorem zg_X6_heartThen : zGV mX6_heartThen 3 := ⟨⟨zmem 1050 (by decide +kernel) rfl, zmem 40 (by decide +kernel) rfl, by decide +kernel⟩, zmem 1048 (by decide +kernel) rfl, zmem 1049 (by decide +kernel) rfl⟩
abbrev mX6_farmerThen : zM := (yX6_farmerThen, cX6_farmerThen, 6, (some .int))
theorem zg_X6_farmerThen : zGV mX6_farmerThen 3 := ⟨⟨zmem 1058 (by decide +kernel) rfl, zmem 40 (by decide +kernel) rfl, by decide +kernel⟩, zmem 1056 (by decide +kernel) rfl, zmem 1057 (by decide +kernel) rfl⟩
abbrev mX6_barnThen : zM := (yX6_barnThen, cX6_barnThen, 4, (some .int))
theorem zg_X6_barnThen : zGV mX6_barnThen 1 := ⟨⟨zmem 1062 (by decide +kernel) rfl, zmem 40 (by decide +kernel) rfl, by decide +kernel⟩, zmem 1060 (by decide +kernel) rfl, zmem 1061 (by decide +kernel) rfl⟩
abbrev mX6_greenest : zM := (yX6_greenest, cX6_greenest, 3, (some .int))
theorem zg_X6_greenest : zGV mX6_greenest 0 := ⟨⟨zmem 1066 (by decide +kernel) rfl, zmem 40 (by decide +kernel) rfl, by decide +kernel⟩, zmem 1064 (by decide +kernel) rfl, zmem 1065 (by decide +kernel) rfl⟩
abbrev mX6_lostIn : zM := (yX6_lostIn, cX6_lostIn, 3, (some .int))
theorem zg_X6_lostIn : zGS mX6_lostIn 1 := ⟨⟨zmem 1073 (by decide +kernel) rfl, zmem 40 (by decide +kernel) rfl, by decide +kernel⟩, zmem 1072 (by decide +kernel) rfl⟩
abbrev mX6_lost : zM := (yX6_lost, cX6_lost, 4, (some .int))
theorem zg_X6_lost : zGV mX6_lost 1 := ⟨⟨zmem 1070 (by decide +kernel) rfl, zmem 40 (by decide +kernel) rfl, by decide +kernel⟩, zmem 1068 (by decide +kernel) rfl, zmem 1069 (by decide +kernel) rfl⟩
abbrev mX6_inHeart : zM := (yX6_inHeart, cX6_inHeart, 3, (some .int))
theorem zg_X6_inHeart : zGV mX6_inHeart 0 := ⟨⟨zmem 1077 (by decide +kernel) rfl, zmem 40 (by decide +kernel) rfl, by decide +kernel⟩, zmem 1075 (by decide +kernel) rfl, zmem 1076 (by decide +kernel) rfl⟩
abbrev mX6_crop : zM := (yX6_crop, cX6_crop, 5, (some .int))
theorem zg_X6_crop : zGV mX6_crop 2 := ⟨⟨zmem 1081 (by decide +kernel) rfl, zmem 40 (by decide +kernel) rfl, by decide +kernel⟩, zmem 1079 (by decide +kernel) rfl, zmem 1080 (by decide +kernel) rfl⟩
abbrev mX6_bestStep : zM := (yX6_bestStep, cX6_bestStep, 8, (some .int))
theorem zg_X6_bestStep : zGV mX6_bestStep 2 := ⟨⟨zmem 1085 (by decide +kernel) rfl, zmem 40 (by decide +kernel) rfl, by decide +kernel⟩, zmem 1083 (by decide +kernel) rfl, zmem 1084 (by decide +kernel) rfl⟩
abbrev mX6_send : zM := (yX6_send, cX6_send, 7, (some .int))
theorem zg_X6_send : zGV mX6_send 1 := ⟨⟨zmem 1089 (by decide +kernel) rfl, zmem 40 (by decide +kernel) rfl, by decide +kernel⟩, zmem 1087 (by decide +kernel) rfl, zmem 1088 (by decide +kernel) rfl⟩
abbrev mX6_change : zM := (yX6_change, cX6_change, 8, (some .int))
theorem zg_X6_change : zGV mX6_change 1 := ⟨⟨zmem 1093 (by decide +kernel) rfl, zmem 40 (by decide +kernel) rfl, by decide +kernel⟩, zmem 1091 (by decide +kernel) rfl, zmem 1092 (by decide +kernel) rfl⟩
abbrev mX6_sets : zM := (yX6_sets, cX6_sets, 5, none)
theorem zg_X6_sets : zGV mX6_sets 3 := ⟨⟨zmem 1101 (by decide +kernel) rfl, zmem 40 (by decide +kernel) rfl, by decide +kernel⟩, zmem 1100 (by decide +kernel) rfl, zmem 29 (by decide +kernel) rfl⟩
abbrev mX6_next : zM := (yX6_next, cX6_next, 2, (some .int))
theorem zg_X6_next : zGV mX6_next 1 := ⟨⟨zmem 1097 (by decide +kernel) rfl, zmem 40 (by decide +kernel) rfl, by decide +kernel⟩, zmem 1095 (by decide +kernel) rfl, zmem 1096 (by decide +kernel) rfl⟩
abbrev mX6_feed : zM := (yX6_feed, cX6_feed, 6, (some .int))
theorem zg_X6_feed : zGV mX6_feed 2 := ⟨⟨zmem 1108 (by decide +kernel) rfl, zmem 40 (by decide +kernel) rfl, by decide +kernel⟩, zmem 1106 (by decide +kernel) rfl, zmem 1107 (by decide +kernel) rfl⟩
abbrev mX6_areAlike : zM := (yX6_areAlike, cX6_areAlike, 3, (some .boolean))
theorem zg_X6_areAlike : zGS mX6_areAlike 2 := ⟨⟨zmem 1115 (by decide +kernel) rfl, zmem 40 (by decide +kernel) rfl, by decide +kernel⟩, zmem 1114 (by decide +kernel) rfl⟩
abbrev mX6_settles : zM := (yX6_settles, cX6_settles, 3, (some .int))
theorem zg_X6_settles : zGV mX6_settles 0 := ⟨⟨zmem 1112 (by decide +kernel) rfl, zmem 40 (by decide +kernel) rfl, by decide +kernel⟩, zmem 1110 (by decide +kernel) rfl, zmem 1111 (by decide +kernel) rfl⟩
abbrev mX6_areWhereTheyAre : zM := (yX6_areWhereTheyAre, cX6_areWhereTheyAre, 2, (some .boolean))
theorem zg_X6_areWhereTheyAre : zGV mX6_areWhereTheyAre 0 := ⟨⟨zmem 1123 (by decide +kernel) rfl, zmem 40 (by decide +kernel) rfl, by decide +kernel⟩, zmem 1122 (by decide +kernel) rfl, zmem 30 (by decide +kernel) rfl⟩
abbrev mX6_round : zM := (yX6_round, cX6_round, 3, (some .int))
theorem zg_X6_round : zGV mX6_round 0 := ⟨⟨zmem 1119 (by decide +kernel) rfl, zmem 40 (by decide +kernel) rfl, by decide +kernel⟩, zmem 1117 (by decide +kernel) rfl, zmem 1118 (by decide +kernel) rfl⟩
abbrev mX6_free : zM := (yX6_free, cX6_free, 4, (some .int))
theorem zg_X6_free : zGV mX6_free 1 := ⟨⟨zmem 1127 (by decide +kernel) rfl, zmem 40 (by decide +kernel) rfl, by decide +kernel⟩, zmem 1125 (by decide +kernel) rfl, zmem 1126 (by decide +kernel) rfl⟩
abbrev mX6_even : zM := (yX6_even, cX6_even, 4, (some .int))
theorem zg_X6_even : zGV mX6_even 0 := ⟨⟨zmem 1131 (by decide +kernel) rfl, zmem 40 (by decide +kernel) rfl, by decide +kernel⟩, zmem 1129 (by decide +kernel) rfl, zmem 1130 (by decide +kernel) rfl⟩
abbrev mX6_ownBy : zM := (yX6_ownBy, cX6_ownBy, 8, (some .int))
theorem zg_X6_ownBy : zGV mX6_ownBy 6 := ⟨⟨zmem 1140 (by decide +kernel) rfl, zmem 40 (by decide +kernel) rfl, by decide +kernel⟩, zmem 1139 (by decide +kernel) rfl, zmem 31 (by decide +kernel) rfl⟩
abbrev mX6_two : zM := (yX6_two, cX6_two, 8, (some .int))
theorem zg_X6_two : zGV mX6_two 3 := ⟨⟨zmem 1136 (by decide +kernel) rfl, zmem 40 (by decide +kernel) rfl, by decide +kernel⟩, zmem 1134 (by decide +kernel) rfl, zmem 1135 (by decide +kernel) rfl⟩
abbrev mX6_gcd : zM := (yX6_gcd, cX6_gcd, 10, (some .long))
theorem zg_X6_gcd : zGS mX6_gcd 2 := ⟨⟨zmem 1155 (by decide +kernel) rfl, zmem 40 (by decide +kernel) rfl, by decide +kernel⟩, zmem 1154 (by decide +kernel) rfl⟩
abbrev mX6_partOf : zM := (yX6_partOf, cX6_partOf, 5, (some .long))
theorem zg_X6_partOf : zGS mX6_partOf 3 := ⟨⟨zmem 1152 (by decide +kernel) rfl, zmem 40 (by decide +kernel) rfl, by decide +kernel⟩, zmem 1151 (by decide +kernel) rfl⟩
abbrev mX6_frost : zM := (yX6_frost, cX6_frost, 14, (some .long))
theorem zg_X6_frost : zGV mX6_frost 4 := ⟨⟨zmem 1144 (by decide +kernel) rfl, zmem 40 (by decide +kernel) rfl, by decide +kernel⟩, zmem 1142 (by decide +kernel) rfl, zmem 1143 (by decide +kernel) rfl⟩
abbrev mX6_mean : zM := (yX6_mean, cX6_mean, 2, (some .long))
theorem zg_X6_mean : zGV mX6_mean 1 := ⟨⟨zmem 1159 (by decide +kernel) rfl, zmem 40 (by decide +kernel) rfl, by decide +kernel⟩, zmem 1157 (by decide +kernel) rfl, zmem 1158 (by decide +kernel) rfl⟩
abbrev mX6_whoSat : zM := (yX6_whoSat, cX6_whoSat, 9, (some .int))
theorem zg_X6_whoSat : zGV mX6_whoSat 3 := ⟨⟨zmem 1166 (by decide +kernel) rfl, zmem 40 (by decide +kernel) rfl, by decide +kernel⟩, zmem 1164 (by decide +kernel) rfl, zmem 1165 (by decide +kernel) rfl⟩
abbrev mX6_row : zM := (yX6_row, cX6_row, 3, (some .int))
theorem zg_X6_row : zGV mX6_row 1 := ⟨⟨zmem 1170 (by decide +kernel) rfl, zmem 40 (by decide +kernel) rfl, by decide +kernel⟩, zmem 1168 (by decide +kernel) rfl, zmem 1169 (by decide +kernel) rfl⟩
abbrev mX6_judge : zM := (yX6_judge, cX6_judge, 3, (some .int))
theorem zg_X6_judge : zGV mX6_judge 0 := ⟨⟨zmem 1174 (by decide +kernel) rfl, zmem 40 (by decide +kernel) rfl, by decide +kernel⟩, zmem 1172 (by decide +kernel) rfl, zmem 1173 (by decide +kernel) rfl⟩
abbrev mX6_clear : zM := (yX6_clear, cX6_clear, 2, (some .int))
theorem zg_X6_clear : zGV mX6_clear 0 := ⟨⟨zmem 1178 (by decide +kernel) rfl, zmem 40 (by decide +kernel) rfl, by decide +kernel⟩, zmem 1176 (by decide +kernel) rfl, zmem 1177 (by decide +kernel) rfl⟩
abbrev mX6_drawn : zM := (yX6_drawn, cX6_drawn, 2, (some .int))
theorem zg_X6_drawn : zGV mX6_drawn 1 := ⟨⟨zmem 1186 (by decide +kernel) rfl, zmem 40 (by decide +kernel) rfl, by decide +kernel⟩, zmem 1185 (by decide +kernel) rfl, zmem 33 (by decide +kernel) rfl⟩
abbrev mX6_lots : zM := (yX6_lots, cX6_lots, 8, (some .int))
theorem zg_X6_lots : zGV mX6_lots 3 := ⟨⟨zmem 1182 (by decide +kernel) rfl, zmem 40 (by decide +kernel) rfl, by decide +kernel⟩, zmem 1180 (by decide +kernel) rfl, zmem 1181 (by decide +kernel) rfl⟩
abbrev mX6_image : zM := (yX6_image, cX6_image, 1, (some .int))
theorem zg_X6_image : zGV mX6_image 0 := ⟨⟨zmem 1193 (by decide +kernel) rfl, zmem 40 (by decide +kernel) rfl, by decide +kernel⟩, zmem 1191 (by decide +kernel) rfl, zmem 1192 (by decide +kernel) rfl⟩
abbrev mX6_on : zM := (yX6_on, cX6_on, 1, (some .int))
theorem zg_X6_on : zGV mX6_on 0 := ⟨⟨zmem 1197 (by decide +kernel) rfl, zmem 40 (by decide +kernel) rfl, by decide +kernel⟩, zmem 1195 (by decide +kernel) rfl, zmem 1196 (by decide +kernel) rfl⟩
abbrev mX6_count : zM := (yX6_count, cX6_count, 2, (some .int))
theorem zg_X6_count : zGV mX6_count 1 := ⟨⟨zmem 1201 (by decide +kernel) rfl, zmem 40 (by decide +kernel) rfl, by decide +kernel⟩, zmem 1199 (by decide +kernel) rfl, zmem 1200 (by decide +kernel) rfl⟩
abbrev mJ0_length_8abf5 : zM := (yJ0_length_8abf5, cJ0_length_8abf5, 1, (some .int))
theorem zg_J0_length_8abf5 : zGV mJ0_length_8abf5 0 := ⟨⟨zmem 260 (by decide +kernel) rfl, zmem 42 (by decide +kernel) rfl, by decide +kernel⟩, zmem 258 (by decide +kernel) rfl, zmem 259 (by decide +kernel) rfl⟩
abbrev mJ0_isEmpty_aae02 : zM := (yJ0_isEmpty_aae02, cJ0_isEmpty_aae02, 1, (some .boolean))
theorem zg_J0_isEmpty_aae02 : zGV mJ0_isEmpty_aae02 0 := ⟨⟨zmem 278 (by decide +kernel) rfl, zmem 42 (by decide +kernel) rfl, by decide +kernel⟩, zmem 276 (by decide +kernel) rfl, zmem 277 (by decide +kernel) rfl⟩
abbrev mJ0_charAt_5068e : zM := (yJ0_charAt_5068e, cJ0_charAt_5068e, 2, (some .char))
theorem zg_J0_charAt_5068e : zGV mJ0_charAt_5068e 1 := ⟨⟨zmem 282 (by decide +kernel) rfl, zmem 42 (by decide +kernel) rfl, by decide +kernel⟩, zmem 280 (by decide +kernel) rfl, zmem 281 (by decide +kernel) rfl⟩
abbrev mJ0_indexOf_0f7a4 : zM := (yJ0_indexOf_0f7a4, cJ0_indexOf_0f7a4, 2, (some .int))
theorem zg_J0_indexOf_0f7a4 : zGV mJ0_indexOf_0f7a4 1 := ⟨⟨zmem 327 (by decide +kernel) rfl, zmem 42 (by decide +kernel) rfl, by decide +kernel⟩, zmem 325 (by decide +kernel) rfl, zmem 326 (by decide +kernel) rfl⟩
abbrev mJ0_indexOf_7cf53 : zM := (yJ0_indexOf_7cf53, cJ0_indexOf_7cf53, 3, (some .int))
theorem zg_J0_indexOf_7cf53 : zGV mJ0_indexOf_7cf53 2 := ⟨⟨zmem 331 (by decide +kernel) rfl, zmem 42 (by decide +kernel) rfl, by decide +kernel⟩, zmem 329 (by decide +kernel) rfl, zmem 330 (by decide +kernel) rfl⟩
abbrev mJ0_coder_7d493 : zM := (yJ0_coder_7d493, cJ0_coder_7d493, 1, (some .byte))
theorem zg_J0_coder_7d493 : zGV mJ0_coder_7d493 0 := ⟨⟨zmem 264 (by decide +kernel) rfl, zmem 42 (by decide +kernel) rfl, by decide +kernel⟩, zmem 262 (by decide +kernel) rfl, zmem 263 (by decide +kernel) rfl⟩
abbrev mJ0_isLatin1_aae02 : zM := (yJ0_isLatin1_aae02, cJ0_isLatin1_aae02, 1, (some .boolean))
theorem zg_J0_isLatin1_aae02 : zGV mJ0_isLatin1_aae02 0 := ⟨⟨zmem 286 (by decide +kernel) rfl, zmem 42 (by decide +kernel) rfl, by decide +kernel⟩, zmem 284 (by decide +kernel) rfl, zmem 285 (by decide +kernel) rfl⟩
abbrev mJ0_checkIndex_df160 : zM := (yJ0_checkIndex_df160, cJ0_checkIndex_df160, 2, none)
theorem zg_J0_checkIndex_df160 : zGS mJ0_checkIndex_df160 2 := ⟨⟨zmem 292 (by decide +kernel) rfl, zmem 42 (by decide +kernel) rfl, by decide +kernel⟩, zmem 291 (by decide +kernel) rfl⟩
abbrev mJ1_charAt_3b067 : zM := (yJ1_charAt_3b067, cJ1_charAt_3b067, 2, (some .char))
theorem zg_J1_charAt_3b067 : zGS mJ1_charAt_3b067 2 := ⟨⟨zmem 289 (by decide +kernel) rfl, zmem 43 (by decide +kernel) rfl, by decide +kernel⟩, zmem 288 (by decide +kernel) rfl⟩
abbrev mJ1_canEncode_9a6ad : zM := (yJ1_canEncode_9a6ad, cJ1_canEncode_9a6ad, 1, (some .boolean))
theorem zg_J1_canEncode_9a6ad : zGS mJ1_canEncode_9a6ad 1 := ⟨⟨zmem 338 (by decide +kernel) rfl, zmem 43 (by decide +kernel) rfl, by decide +kernel⟩, zmem 337 (by decide +kernel) rfl⟩
abbrev mJ1_indexOf_4cfef : zM := (yJ1_indexOf_4cfef, cJ1_indexOf_4cfef, 4, (some .int))
theorem zg_J1_indexOf_4cfef : zGS mJ1_indexOf_4cfef 4 := ⟨⟨zmem 335 (by decide +kernel) rfl, zmem 43 (by decide +kernel) rfl, by decide +kernel⟩, zmem 334 (by decide +kernel) rfl⟩
abbrev mJ1_indexOfChar_4cfef : zM := (yJ1_indexOfChar_4cfef, cJ1_indexOfChar_4cfef, 6, (some .int))
theorem zg_J1_indexOfChar_4cfef : zGS mJ1_indexOfChar_4cfef 4 := ⟨⟨zmem 347 (by decide +kernel) rfl, zmem 43 (by decide +kernel) rfl, by decide +kernel⟩, zmem 346 (by decide +kernel) rfl⟩
abbrev mJ3_checkIndex_8e157 : zM := (yJ3_checkIndex_8e157, cJ3_checkIndex_8e157, 3, (some .int))
theorem zg_J3_checkIndex_8e157 : zGS mJ3_checkIndex_8e157 3 := ⟨⟨zmem 297 (by decide +kernel) rfl, zmem 44 (by decide +kernel) rfl, by decide +kernel⟩, zmem 296 (by decide +kernel) rfl⟩
theorem zl_L_9 : Cond.methodLink RL 9 yX5_init ∈ zts := zmem 51 (by decide +kernel) rfl
theorem zl_X5_9 : Cond.methodLink RX5 9 yX1_init ∈ zts := zmem 59 (by decide +kernel) rfl
theorem zl_X5_24 : Cond.methodLink RX5 24 yX2_init ∈ zts := zmem 133 (by decide +kernel) rfl
theorem zl_X5_31 : Cond.methodLink RX5 31 yX3_init ∈ zts := zmem 147 (by decide +kernel) rfl
theorem zl_X3_11 : Cond.methodLink RX3 11 yX1_init ∈ zts := zmem 152 (by decide +kernel) rfl
theorem zl_X3_23 : Cond.methodLink RX3 23 yX4_init ∈ zts := zmem 155 (by decide +kernel) rfl
theorem zl_L_13 : Cond.methodLink RL 13 yX5_letter ∈ zts := zmem 212 (by decide +kernel) rfl
theorem zl_X5_43 : Cond.methodLink RX5 43 yX5_inRange ∈ zts := zmem 216 (by decide +kernel) rfl
theorem zl_X5_47 : Cond.methodLink RX5 47 yX2_isFull ∈ zts := zmem 219 (by decide +kernel) rfl
theorem zl_X5_51 : Cond.methodLink RX5 51 yX5_roomIf ∈ zts := zmem 223 (by decide +kernel) rfl
theorem zl_X5_55 : Cond.methodLink RX5 55 yX5_firstOf ∈ zts := zmem 226 (by decide +kernel) rfl
theorem zl_X5_58 : Cond.methodLink RX5 58 yX5_refuse ∈ zts := zmem 229 (by decide +kernel) rfl
theorem zl_X5_62 : Cond.methodLink RX5 62 yX2_add ∈ zts := zmem 233 (by decide +kernel) rfl
theorem zl_L_18 : Cond.methodLink RL 18 yX5_land ∈ zts := zmem 237 (by decide +kernel) rfl
theorem zl_X5_70 : Cond.methodLink RX5 70 yX1_become ∈ zts := zmem 241 (by decide +kernel) rfl
theorem zl_X1_49 : Cond.methodLink RX1 49 arraycopyName ∈ zts := zmem 245 (by decide +kernel) rfl
theorem zl_X5_74 : Cond.methodLink RX5 74 yX2_tellTo ∈ zts := zmem 248 (by decide +kernel) rfl
theorem zl_X2_19 : Cond.methodLink RX2 19 yX2_placeOfWrongLetter ∈ zts := zmem 252 (by decide +kernel) rfl
theorem zl_X2_31 : Cond.methodLink RX2 31 yJ0_length_8abf5 ∈ zts := zmem 257 (by decide +kernel) rfl
theorem zl_J0_335 : Cond.methodLink RJ0 335 yJ0_coder_7d493 ∈ zts := zmem 261 (by decide +kernel) rfl
theorem zl_X2_27 : Cond.methodLink RX2 27 yX2_shapeBehind ∈ zts := zmem 267 (by decide +kernel) rfl
theorem zl_X2_38 : Cond.methodLink RX2 38 yJ0_isEmpty_aae02 ∈ zts := zmem 275 (by decide +kernel) rfl
theorem zl_X2_42 : Cond.methodLink RX2 42 yJ0_charAt_5068e ∈ zts := zmem 279 (by decide +kernel) rfl
theorem zl_J0_492 : Cond.methodLink RJ0 492 yJ0_isLatin1_aae02 ∈ zts := zmem 283 (by decide +kernel) rfl
theorem zl_J0_495 : Cond.methodLink RJ0 495 yJ1_charAt_3b067 ∈ zts := zmem 287 (by decide +kernel) rfl
theorem zl_J1_9 : Cond.methodLink RJ1 9 yJ0_checkIndex_df160 ∈ zts := zmem 290 (by decide +kernel) rfl
theorem zl_J0_1059 : Cond.methodLink RJ0 1059 yJ3_checkIndex_8e157 ∈ zts := zmem 295 (by decide +kernel) rfl
theorem zl_X2_46 : Cond.methodLink RX2 46 yX2_fits ∈ zts := zmem 317 (by decide +kernel) rfl
theorem zl_X2_60 : Cond.methodLink RX2 60 yX0_ofLetter ∈ zts := zmem 320 (by decide +kernel) rfl
theorem zl_X0_11 : Cond.methodLink RX0 11 yJ0_indexOf_0f7a4 ∈ zts := zmem 324 (by decide +kernel) rfl
theorem zl_J0_633 : Cond.methodLink RJ0 633 yJ0_indexOf_7cf53 ∈ zts := zmem 328 (by decide +kernel) rfl
theorem zl_J0_505 : Cond.methodLink RJ0 505 yJ0_length_8abf5 ∈ zts := zmem 332 (by decide +kernel) rfl
theorem zl_J0_637 : Cond.methodLink RJ0 637 yJ1_indexOf_4cfef ∈ zts := zmem 333 (by decide +kernel) rfl
theorem zl_J1_88 : Cond.methodLink RJ1 88 yJ1_canEncode_9a6ad ∈ zts := zmem 336 (by decide +kernel) rfl
theorem zl_J1_92 : Cond.methodLink RJ1 92 Lib.Math.max.name ∈ zts := zmem 339 (by decide +kernel) rfl
theorem zl_J1_38 : Cond.methodLink RJ1 38 Lib.Math.min.name ∈ zts := zmem 342 (by decide +kernel) rfl
theorem zl_J1_95 : Cond.methodLink RJ1 95 yJ1_indexOfChar_4cfef ∈ zts := zmem 345 (by decide +kernel) rfl
theorem zl_J2_224 : Cond.methodLink RJ2 224 Lib.Math.max.name ∈ zts := zmem 351 (by decide +kernel) rfl
theorem zl_J2_183 : Cond.methodLink RJ2 183 Lib.Math.min.name ∈ zts := zmem 352 (by decide +kernel) rfl
theorem zl_X2_23 : Cond.methodLink RX2 23 yX2_comes ∈ zts := zmem 383 (by decide +kernel) rfl
theorem zl_X2_66 : Cond.methodLink RX2 66 yX2_farmComes ∈ zts := zmem 387 (by decide +kernel) rfl
theorem zl_X2_82 : Cond.methodLink RX2 82 yX2_number ∈ zts := zmem 391 (by decide +kernel) rfl
theorem zl_X2_72 : Cond.methodLink RX2 72 yX2_digit ∈ zts := zmem 395 (by decide +kernel) rfl
theorem zl_X2_107 : Cond.methodLink RX2 107 yX2_toldAt ∈ zts := zmem 399 (by decide +kernel) rfl
theorem zl_X2_100 : Cond.methodLink RX2 100 yX1_addFarm ∈ zts := zmem 403 (by decide +kernel) rfl
theorem zl_X1_55 : Cond.methodLink RX1 55 yX1_setHeart ∈ zts := zmem 407 (by decide +kernel) rfl
theorem zl_X2_69 : Cond.methodLink RX2 69 yX2_farmerComes ∈ zts := zmem 411 (by decide +kernel) rfl
theorem zl_X2_110 : Cond.methodLink RX2 110 yX1_addFarmer ∈ zts := zmem 415 (by decide +kernel) rfl
theorem zl_X2_75 : Cond.methodLink RX2 75 yX2_seatComes ∈ zts := zmem 419 (by decide +kernel) rfl
theorem zl_X2_114 : Cond.methodLink RX2 114 yX1_hasFarmer ∈ zts := zmem 422 (by decide +kernel) rfl
theorem zl_X2_118 : Cond.methodLink RX2 118 yX1_hasFarm ∈ zts := zmem 426 (by decide +kernel) rfl
theorem zl_X2_121 : Cond.methodLink RX2 121 yX1_seat ∈ zts := zmem 430 (by decide +kernel) rfl
theorem zl_X1_59 : Cond.methodLink RX1 59 yX1_tenantOf ∈ zts := zmem 434 (by decide +kernel) rfl
theorem zl_X2_79 : Cond.methodLink RX2 79 yX2_leaveComes ∈ zts := zmem 438 (by decide +kernel) rfl
theorem zl_X2_85 : Cond.methodLink RX2 85 yX2_heartComes ∈ zts := zmem 441 (by decide +kernel) rfl
theorem zl_X2_127 : Cond.methodLink RX2 127 yX1_hasSort ∈ zts := zmem 444 (by decide +kernel) rfl
theorem zl_X2_130 : Cond.methodLink RX2 130 yX1_setHeart ∈ zts := zmem 447 (by decide +kernel) rfl
theorem zl_X2_89 : Cond.methodLink RX2 89 yX2_stepComes ∈ zts := zmem 448 (by decide +kernel) rfl
theorem zl_X2_92 : Cond.methodLink RX2 92 yX2_yearsCome ∈ zts := zmem 451 (by decide +kernel) rfl
theorem zl_X2_136 : Cond.methodLink RX2 136 yX1_hasYears ∈ zts := zmem 454 (by decide +kernel) rfl
theorem zl_X2_139 : Cond.methodLink RX2 139 yX1_passYear ∈ zts := zmem 458 (by decide +kernel) rfl
theorem zl_X1_113 : Cond.methodLink RX1 113 yX1_freeFarms ∈ zts := zmem 462 (by decide +kernel) rfl
theorem zl_X1_116 : Cond.methodLink RX1 116 yX1_lieUntilled ∈ zts := zmem 466 (by decide +kernel) rfl
theorem zl_X1_63 : Cond.methodLink RX1 63 yX1_heartOf ∈ zts := zmem 470 (by decide +kernel) rfl
theorem zl_X1_104 : Cond.methodLink RX1 104 yX1_asHeart ∈ zts := zmem 474 (by decide +kernel) rfl
theorem zl_X1_77 : Cond.methodLink RX1 77 Lib.Math.min.name ∈ zts := zmem 477 (by decide +kernel) rfl
theorem zl_X1_120 : Cond.methodLink RX1 120 Lib.Math.max.name ∈ zts := zmem 478 (by decide +kernel) rfl
theorem zl_X1_92 : Cond.methodLink RX1 92 yX1_hasFarm ∈ zts := zmem 479 (by decide +kernel) rfl
theorem zl_X1_82 : Cond.methodLink RX1 82 yX1_isWorn ∈ zts := zmem 480 (by decide +kernel) rfl
theorem zl_X1_123 : Cond.methodLink RX1 123 yX1_till ∈ zts := zmem 484 (by decide +kernel) rfl
theorem zl_X1_86 : Cond.methodLink RX1 86 yX0_growing ∈ zts := zmem 488 (by decide +kernel) rfl
theorem zl_X1_101 : Cond.methodLink RX1 101 yX0_giving ∈ zts := zmem 491 (by decide +kernel) rfl
theorem zl_X1_130 : Cond.methodLink RX1 130 yX0_tiring ∈ zts := zmem 496 (by decide +kernel) rfl
theorem zl_X1_127 : Cond.methodLink RX1 127 yX1_moveOn ∈ zts := zmem 501 (by decide +kernel) rfl
theorem zl_L_23 : Cond.methodLink RL 23 yX5_farm ∈ zts := zmem 506 (by decide +kernel) rfl
theorem zl_X5_78 : Cond.methodLink RX5 78 yX1_hasFarm ∈ zts := zmem 510 (by decide +kernel) rfl
theorem zl_X5_82 : Cond.methodLink RX5 82 yX5_nobodyUnless ∈ zts := zmem 511 (by decide +kernel) rfl
theorem zl_X5_85 : Cond.methodLink RX5 85 yX5_otherUnless ∈ zts := zmem 514 (by decide +kernel) rfl
theorem zl_X5_89 : Cond.methodLink RX5 89 yX1_greenOf ∈ zts := zmem 517 (by decide +kernel) rfl
theorem zl_X5_92 : Cond.methodLink RX5 92 yX1_tenantOf ∈ zts := zmem 521 (by decide +kernel) rfl
theorem zl_X5_95 : Cond.methodLink RX5 95 yX1_heartOf ∈ zts := zmem 522 (by decide +kernel) rfl
theorem zl_L_28 : Cond.methodLink RL 28 yX5_farmer ∈ zts := zmem 523 (by decide +kernel) rfl
theorem zl_X5_98 : Cond.methodLink RX5 98 yX1_hasFarmer ∈ zts := zmem 527 (by decide +kernel) rfl
theorem zl_X5_113 : Cond.methodLink RX5 113 yX1_grownNow ∈ zts := zmem 528 (by decide +kernel) rfl
theorem zl_X1_95 : Cond.methodLink RX1 95 yX1_grownAt ∈ zts := zmem 532 (by decide +kernel) rfl
theorem zl_X5_116 : Cond.methodLink RX5 116 yX0_tiring ∈ zts := zmem 536 (by decide +kernel) rfl
theorem zl_L_32 : Cond.methodLink RL 32 yX5_sits ∈ zts := zmem 537 (by decide +kernel) rfl
theorem zl_X5_121 : Cond.methodLink RX5 121 yX1_seat ∈ zts := zmem 541 (by decide +kernel) rfl
theorem zl_L_36 : Cond.methodLink RL 36 yX5_leaves ∈ zts := zmem 542 (by decide +kernel) rfl
theorem zl_L_40 : Cond.methodLink RL 40 yX5_hearts ∈ zts := zmem 546 (by decide +kernel) rfl
theorem zl_X5_125 : Cond.methodLink RX5 125 yX1_hasSort ∈ zts := zmem 550 (by decide +kernel) rfl
theorem zl_X5_128 : Cond.methodLink RX5 128 yX1_setHeart ∈ zts := zmem 551 (by decide +kernel) rfl
theorem zl_L_45 : Cond.methodLink RL 45 yX5_steps ∈ zts := zmem 552 (by decide +kernel) rfl
theorem zl_L_49 : Cond.methodLink RL 49 yX5_tires ∈ zts := zmem 556 (by decide +kernel) rfl
theorem zl_L_53 : Cond.methodLink RL 53 yX5_turn ∈ zts := zmem 560 (by decide +kernel) rfl
theorem zl_L_57 : Cond.methodLink RL 57 yX5_years ∈ zts := zmem 564 (by decide +kernel) rfl
theorem zl_X5_135 : Cond.methodLink RX5 135 yX1_hasYears ∈ zts := zmem 568 (by decide +kernel) rfl
theorem zl_X5_138 : Cond.methodLink RX5 138 yX1_grownIn ∈ zts := zmem 569 (by decide +kernel) rfl
theorem zl_X1_107 : Cond.methodLink RX1 107 yX1_passYear ∈ zts := zmem 573 (by decide +kernel) rfl
theorem zl_L_61 : Cond.methodLink RL 61 yX5_heartThen ∈ zts := zmem 574 (by decide +kernel) rfl
theorem zl_X5_144 : Cond.methodLink RX5 144 yX3_after ∈ zts := zmem 578 (by decide +kernel) rfl
theorem zl_X3_35 : Cond.methodLink RX3 35 yX1_become ∈ zts := zmem 582 (by decide +kernel) rfl
theorem zl_X3_39 : Cond.methodLink RX3 39 yX1_grownIn ∈ zts := zmem 583 (by decide +kernel) rfl
theorem zl_L_65 : Cond.methodLink RL 65 yX5_farmerThen ∈ zts := zmem 584 (by decide +kernel) rfl
theorem zl_L_69 : Cond.methodLink RL 69 yX5_barnThen ∈ zts := zmem 588 (by decide +kernel) rfl
theorem zl_L_73 : Cond.methodLink RL 73 yX5_greenest ∈ zts := zmem 592 (by decide +kernel) rfl
theorem zl_X5_148 : Cond.methodLink RX5 148 yX1_greenestFarm ∈ zts := zmem 596 (by decide +kernel) rfl
theorem zl_X1_67 : Cond.methodLink RX1 67 yX1_greenOf ∈ zts := zmem 600 (by decide +kernel) rfl
theorem zl_L_77 : Cond.methodLink RL 77 yX5_lost ∈ zts := zmem 601 (by decide +kernel) rfl
theorem zl_X5_152 : Cond.methodLink RX5 152 yX3_lostFarm ∈ zts := zmem 605 (by decide +kernel) rfl
theorem zl_X3_56 : Cond.methodLink RX3 56 yX3_lostYear ∈ zts := zmem 609 (by decide +kernel) rfl
theorem zl_X3_49 : Cond.methodLink RX3 49 yX1_passYear ∈ zts := zmem 613 (by decide +kernel) rfl
theorem zl_X3_52 : Cond.methodLink RX3 52 yX1_firstBarrenFarm ∈ zts := zmem 614 (by decide +kernel) rfl
theorem zl_X5_155 : Cond.methodLink RX5 155 yX3_lostYear ∈ zts := zmem 618 (by decide +kernel) rfl
theorem zl_L_81 : Cond.methodLink RL 81 yX5_crop ∈ zts := zmem 619 (by decide +kernel) rfl
theorem zl_X5_158 : Cond.methodLink RX5 158 yX3_grownOfAll ∈ zts := zmem 623 (by decide +kernel) rfl
theorem zl_X5_162 : Cond.methodLink RX5 162 yX3_grownOn ∈ zts := zmem 627 (by decide +kernel) rfl
theorem zl_L_85 : Cond.methodLink RL 85 yX5_bestStep ∈ zts := zmem 631 (by decide +kernel) rfl
theorem zl_X5_166 : Cond.methodLink RX5 166 yX3_stepOfMost ∈ zts := zmem 635 (by decide +kernel) rfl
theorem zl_X3_67 : Cond.methodLink RX3 67 yX3_grownByStep ∈ zts := zmem 639 (by decide +kernel) rfl
theorem zl_X5_169 : Cond.methodLink RX5 169 yX3_grownByStep ∈ zts := zmem 643 (by decide +kernel) rfl
theorem zl_L_89 : Cond.methodLink RL 89 yX5_send ∈ zts := zmem 644 (by decide +kernel) rfl
theorem zl_X5_172 : Cond.methodLink RX5 172 yX3_farmerToSend ∈ zts := zmem 648 (by decide +kernel) rfl
theorem zl_X3_71 : Cond.methodLink RX3 71 yX3_grownOfAll ∈ zts := zmem 652 (by decide +kernel) rfl
theorem zl_L_93 : Cond.methodLink RL 93 yX5_change ∈ zts := zmem 653 (by decide +kernel) rfl
theorem zl_X5_175 : Cond.methodLink RX5 175 yX3_pairToChange ∈ zts := zmem 657 (by decide +kernel) rfl
theorem zl_X3_81 : Cond.methodLink RX3 81 yX1_exchange ∈ zts := zmem 661 (by decide +kernel) rfl
theorem zl_L_97 : Cond.methodLink RL 97 yX5_next ∈ zts := zmem 665 (by decide +kernel) rfl
theorem zl_X5_182 : Cond.methodLink RX5 182 yX4_plan ∈ zts := zmem 669 (by decide +kernel) rfl
theorem zl_X4_24 : Cond.methodLink RX4 24 yX4_mostBehind ∈ zts := zmem 673 (by decide +kernel) rfl
theorem zl_X4_28 : Cond.methodLink RX4 28 yX1_grownAt ∈ zts := zmem 677 (by decide +kernel) rfl
theorem zl_X4_31 : Cond.methodLink RX4 31 yX4_planSeat ∈ zts := zmem 678 (by decide +kernel) rfl
theorem zl_X4_35 : Cond.methodLink RX4 35 yX4_isOpen ∈ zts := zmem 682 (by decide +kernel) rfl
theorem zl_X4_39 : Cond.methodLink RX4 39 Lib.Math.max.name ∈ zts := zmem 685 (by decide +kernel) rfl
theorem zl_X5_187 : Cond.methodLink RX5 187 yX4_most ∈ zts := zmem 686 (by decide +kernel) rfl
theorem zl_X5_190 : Cond.methodLink RX5 190 yX4_seatOf ∈ zts := zmem 690 (by decide +kernel) rfl
theorem zl_X4_44 : Cond.methodLink RX4 44 yX4_firstSeat ∈ zts := zmem 694 (by decide +kernel) rfl
theorem zl_L_101 : Cond.methodLink RL 101 yX5_feed ∈ zts := zmem 698 (by decide +kernel) rfl
theorem zl_X5_193 : Cond.methodLink RX5 193 yX1_feedingKind ∈ zts := zmem 702 (by decide +kernel) rfl
theorem zl_X1_98 : Cond.methodLink RX1 98 yX1_greenFedBy ∈ zts := zmem 706 (by decide +kernel) rfl
theorem zl_X5_196 : Cond.methodLink RX5 196 yX1_greenFedBy ∈ zts := zmem 710 (by decide +kernel) rfl
theorem zl_L_105 : Cond.methodLink RL 105 yX5_settles ∈ zts := zmem 711 (by decide +kernel) rfl
theorem zl_X5_199 : Cond.methodLink RX5 199 yX3_settledYear ∈ zts := zmem 715 (by decide +kernel) rfl
theorem zl_X3_85 : Cond.methodLink RX3 85 yX1_isAsFreshAs ∈ zts := zmem 719 (by decide +kernel) rfl
theorem zl_L_109 : Cond.methodLink RL 109 yX5_round ∈ zts := zmem 723 (by decide +kernel) rfl
theorem zl_X5_202 : Cond.methodLink RX5 202 yX3_roundYear ∈ zts := zmem 727 (by decide +kernel) rfl
theorem zl_X3_89 : Cond.methodLink RX3 89 yX1_isSeatedAs ∈ zts := zmem 731 (by decide +kernel) rfl
theorem zl_L_113 : Cond.methodLink RL 113 yX5_free ∈ zts := zmem 735 (by decide +kernel) rfl
theorem zl_X5_205 : Cond.methodLink RX5 205 yX1_freeFarms ∈ zts := zmem 739 (by decide +kernel) rfl
theorem zl_X5_208 : Cond.methodLink RX5 208 yX1_idleFarmers ∈ zts := zmem 740 (by decide +kernel) rfl
theorem zl_X5_211 : Cond.methodLink RX5 211 yX1_wornFarmers ∈ zts := zmem 744 (by decide +kernel) rfl
theorem zl_L_117 : Cond.methodLink RL 117 yX5_inHeart ∈ zts := zmem 748 (by decide +kernel) rfl
theorem zl_L_121 : Cond.methodLink RL 121 yX5_even ∈ zts := zmem 752 (by decide +kernel) rfl
theorem zl_X5_214 : Cond.methodLink RX5 214 yX1_mostGreen ∈ zts := zmem 756 (by decide +kernel) rfl
theorem zl_X1_70 : Cond.methodLink RX1 70 yX1_greenestFarm ∈ zts := zmem 760 (by decide +kernel) rfl
theorem zl_X5_217 : Cond.methodLink RX5 217 yX1_leastGreen ∈ zts := zmem 761 (by decide +kernel) rfl
theorem zl_X1_74 : Cond.methodLink RX1 74 yX1_mostGreen ∈ zts := zmem 765 (by decide +kernel) rfl
theorem zl_L_125 : Cond.methodLink RL 125 yX5_two ∈ zts := zmem 766 (by decide +kernel) rfl
theorem zl_X5_220 : Cond.methodLink RX5 220 yX3_restingPair ∈ zts := zmem 770 (by decide +kernel) rfl
theorem zl_X3_92 : Cond.methodLink RX3 92 yX3_weigh ∈ zts := zmem 774 (by decide +kernel) rfl
theorem zl_L_129 : Cond.methodLink RL 129 yX5_frost ∈ zts := zmem 778 (by decide +kernel) rfl
theorem zl_X5_226 : Cond.methodLink RX5 226 yX3_waysThroughFrost ∈ zts := zmem 783 (by decide +kernel) rfl
theorem zl_X3_102 : Cond.methodLink RX3 102 Lib.Math.min.name ∈ zts := zmem 787 (by decide +kernel) rfl
theorem zl_X5_230 : Cond.methodLink RX5 230 yX5_termOf ∈ zts := zmem 788 (by decide +kernel) rfl
theorem zl_X5_281 : Cond.methodLink RX5 281 Lib.MathLoose.max_long.x ∈ zts := zmem 791 (by decide +kernel) rfl
theorem zl_L_134 : Cond.methodLink RL 134 yX5_mean ∈ zts := zmem 794 (by decide +kernel) rfl
theorem zl_X5_234 : Cond.methodLink RX5 234 yX1_greenOfAll ∈ zts := zmem 798 (by decide +kernel) rfl
theorem zl_X5_240 : Cond.methodLink RX5 240 Lib.Math.max.name ∈ zts := zmem 802 (by decide +kernel) rfl
theorem zl_L_139 : Cond.methodLink RL 139 yX5_whoSat ∈ zts := zmem 803 (by decide +kernel) rfl
theorem zl_X5_245 : Cond.methodLink RX5 245 yX3_suppose ∈ zts := zmem 807 (by decide +kernel) rfl
theorem zl_X5_249 : Cond.methodLink RX5 249 yX5_greensAreTheRow ∈ zts := zmem 811 (by decide +kernel) rfl
theorem zl_X5_275 : Cond.methodLink RX5 275 yX1_passYear ∈ zts := zmem 815 (by decide +kernel) rfl
theorem zl_L_143 : Cond.methodLink RL 143 yX5_row ∈ zts := zmem 816 (by decide +kernel) rfl
theorem zl_L_147 : Cond.methodLink RL 147 yX5_judge ∈ zts := zmem 820 (by decide +kernel) rfl
theorem zl_X5_255 : Cond.methodLink RX5 255 yX5_firstWrongCrop ∈ zts := zmem 824 (by decide +kernel) rfl
theorem zl_L_151 : Cond.methodLink RL 151 yX5_clear ∈ zts := zmem 828 (by decide +kernel) rfl
theorem zl_L_155 : Cond.methodLink RL 155 yX5_lots ∈ zts := zmem 832 (by decide +kernel) rfl
theorem zl_X5_258 : Cond.methodLink RX5 258 yX3_sumOfHundreds ∈ zts := zmem 836 (by decide +kernel) rfl
theorem zl_X3_120 : Cond.methodLink RX3 120 yX3_draw ∈ zts := zmem 840 (by decide +kernel) rfl
theorem zl_X3_123 : Cond.methodLink RX3 123 yX1_greenOfAll ∈ zts := zmem 847 (by decide +kernel) rfl
theorem zl_L_159 : Cond.methodLink RL 159 yX5_image ∈ zts := zmem 848 (by decide +kernel) rfl
theorem zl_L_163 : Cond.methodLink RL 163 yX5_on ∈ zts := zmem 852 (by decide +kernel) rfl
theorem zl_L_167 : Cond.methodLink RL 167 yX5_count ∈ zts := zmem 856 (by decide +kernel) rfl
theorem zl_L_12 : Cond.methodLink RL 12 yX6_init ∈ zts := zmem 862 (by decide +kernel) rfl
theorem zl_L_17 : Cond.methodLink RL 17 yX6_letter ∈ zts := zmem 921 (by decide +kernel) rfl
theorem zl_X6_48 : Cond.methodLink RX6 48 yX6_no ∈ zts := zmem 925 (by decide +kernel) rfl
theorem zl_L_22 : Cond.methodLink RL 22 yX6_land ∈ zts := zmem 929 (by decide +kernel) rfl
theorem zl_X6_127 : Cond.methodLink RX6 127 yX6_readsStatement ∈ zts := zmem 933 (by decide +kernel) rfl
theorem zl_X6_98 : Cond.methodLink RX6 98 yX6_here ∈ zts := zmem 937 (by decide +kernel) rfl
theorem zl_X6_105 : Cond.methodLink RX6 105 yX6_readsNumber ∈ zts := zmem 941 (by decide +kernel) rfl
theorem zl_X6_52 : Cond.methodLink RX6 52 yX6_isIn ∈ zts := zmem 945 (by decide +kernel) rfl
theorem zl_X6_109 : Cond.methodLink RX6 109 yX6_readsKind ∈ zts := zmem 948 (by decide +kernel) rfl
theorem zl_X6_102 : Cond.methodLink RX6 102 yX6_kindBy ∈ zts := zmem 952 (by decide +kernel) rfl
theorem zl_X6_130 : Cond.methodLink RX6 130 yX6_copies ∈ zts := zmem 955 (by decide +kernel) rfl
theorem zl_X6_134 : Cond.methodLink RX6 134 yX6_isDone ∈ zts := zmem 958 (by decide +kernel) rfl
theorem zl_X6_60 : Cond.methodLink RX6 60 yX6_heart ∈ zts := zmem 962 (by decide +kernel) rfl
theorem zl_X6_56 : Cond.methodLink RX6 56 yX6_of ∈ zts := zmem 965 (by decide +kernel) rfl
theorem zl_X6_113 : Cond.methodLink RX6 113 yX6_isFarmer ∈ zts := zmem 968 (by decide +kernel) rfl
theorem zl_X6_117 : Cond.methodLink RX6 117 yX6_isFarm ∈ zts := zmem 972 (by decide +kernel) rfl
theorem zl_X6_120 : Cond.methodLink RX6 120 yX6_sitsIn ∈ zts := zmem 976 (by decide +kernel) rfl
theorem zl_X6_80 : Cond.methodLink RX6 80 yX6_farmerAt ∈ zts := zmem 979 (by decide +kernel) rfl
theorem zl_X6_124 : Cond.methodLink RX6 124 yX6_yearsOn ∈ zts := zmem 982 (by decide +kernel) rfl
theorem zl_X6_84 : Cond.methodLink RX6 84 yX6_year ∈ zts := zmem 986 (by decide +kernel) rfl
theorem zl_X6_63 : Cond.methodLink RX6 63 yX6_held ∈ zts := zmem 990 (by decide +kernel) rfl
theorem zl_X6_70 : Cond.methodLink RX6 70 yX6_growsBy ∈ zts := zmem 993 (by decide +kernel) rfl
theorem zl_X6_74 : Cond.methodLink RX6 74 yX6_changes ∈ zts := zmem 996 (by decide +kernel) rfl
theorem zl_X6_66 : Cond.methodLink RX6 66 yX6_more ∈ zts := zmem 999 (by decide +kernel) rfl
theorem zl_X6_77 : Cond.methodLink RX6 77 yX6_tiresBy ∈ zts := zmem 1002 (by decide +kernel) rfl
theorem zl_L_27 : Cond.methodLink RL 27 yX6_farm ∈ zts := zmem 1005 (by decide +kernel) rfl
theorem zl_X6_88 : Cond.methodLink RX6 88 yX6_green ∈ zts := zmem 1009 (by decide +kernel) rfl
theorem zl_L_31 : Cond.methodLink RL 31 yX6_farmer ∈ zts := zmem 1012 (by decide +kernel) rfl
theorem zl_L_35 : Cond.methodLink RL 35 yX6_sits ∈ zts := zmem 1016 (by decide +kernel) rfl
theorem zl_L_39 : Cond.methodLink RL 39 yX6_leaves ∈ zts := zmem 1020 (by decide +kernel) rfl
theorem zl_L_44 : Cond.methodLink RL 44 yX6_hearts ∈ zts := zmem 1024 (by decide +kernel) rfl
theorem zl_X6_137 : Cond.methodLink RX6 137 yX6_wrongBy ∈ zts := zmem 1028 (by decide +kernel) rfl
theorem zl_L_48 : Cond.methodLink RL 48 yX6_steps ∈ zts := zmem 1031 (by decide +kernel) rfl
theorem zl_L_52 : Cond.methodLink RL 52 yX6_tires ∈ zts := zmem 1035 (by decide +kernel) rfl
theorem zl_L_56 : Cond.methodLink RL 56 yX6_turn ∈ zts := zmem 1039 (by decide +kernel) rfl
theorem zl_L_60 : Cond.methodLink RL 60 yX6_years ∈ zts := zmem 1043 (by decide +kernel) rfl
theorem zl_L_64 : Cond.methodLink RL 64 yX6_heartThen ∈ zts := zmem 1047 (by decide +kernel) rfl
theorem zl_X6_141 : Cond.methodLink RX6 141 yX6_takes ∈ zts := zmem 1051 (by decide +kernel) rfl
theorem zl_L_68 : Cond.methodLink RL 68 yX6_farmerThen ∈ zts := zmem 1055 (by decide +kernel) rfl
theorem zl_L_72 : Cond.methodLink RL 72 yX6_barnThen ∈ zts := zmem 1059 (by decide +kernel) rfl
theorem zl_L_76 : Cond.methodLink RL 76 yX6_greenest ∈ zts := zmem 1063 (by decide +kernel) rfl
theorem zl_L_80 : Cond.methodLink RL 80 yX6_lost ∈ zts := zmem 1067 (by decide +kernel) rfl
theorem zl_X6_144 : Cond.methodLink RX6 144 yX6_lostIn ∈ zts := zmem 1071 (by decide +kernel) rfl
theorem zl_L_120 : Cond.methodLink RL 120 yX6_inHeart ∈ zts := zmem 1074 (by decide +kernel) rfl
theorem zl_L_84 : Cond.methodLink RL 84 yX6_crop ∈ zts := zmem 1078 (by decide +kernel) rfl
theorem zl_L_88 : Cond.methodLink RL 88 yX6_bestStep ∈ zts := zmem 1082 (by decide +kernel) rfl
theorem zl_L_92 : Cond.methodLink RL 92 yX6_send ∈ zts := zmem 1086 (by decide +kernel) rfl
theorem zl_L_96 : Cond.methodLink RL 96 yX6_change ∈ zts := zmem 1090 (by decide +kernel) rfl
theorem zl_L_100 : Cond.methodLink RL 100 yX6_next ∈ zts := zmem 1094 (by decide +kernel) rfl
theorem zl_X6_154 : Cond.methodLink RX6 154 yX6_sets ∈ zts := zmem 1098 (by decide +kernel) rfl
theorem zl_X6_151 : Cond.methodLink RX6 151 yX6_has ∈ zts := zmem 1102 (by decide +kernel) rfl
theorem zl_L_104 : Cond.methodLink RL 104 yX6_feed ∈ zts := zmem 1105 (by decide +kernel) rfl
theorem zl_L_108 : Cond.methodLink RL 108 yX6_settles ∈ zts := zmem 1109 (by decide +kernel) rfl
theorem zl_X6_158 : Cond.methodLink RX6 158 yX6_areAlike ∈ zts := zmem 1113 (by decide +kernel) rfl
theorem zl_L_112 : Cond.methodLink RL 112 yX6_round ∈ zts := zmem 1116 (by decide +kernel) rfl
theorem zl_X6_162 : Cond.methodLink RX6 162 yX6_areWhereTheyAre ∈ zts := zmem 1120 (by decide +kernel) rfl
theorem zl_L_116 : Cond.methodLink RL 116 yX6_free ∈ zts := zmem 1124 (by decide +kernel) rfl
theorem zl_L_124 : Cond.methodLink RL 124 yX6_even ∈ zts := zmem 1128 (by decide +kernel) rfl
theorem zl_L_128 : Cond.methodLink RL 128 yX6_two ∈ zts := zmem 1133 (by decide +kernel) rfl
theorem zl_X6_166 : Cond.methodLink RX6 166 yX6_ownBy ∈ zts := zmem 1137 (by decide +kernel) rfl
theorem zl_L_133 : Cond.methodLink RL 133 yX6_frost ∈ zts := zmem 1141 (by decide +kernel) rfl
theorem zl_X6_174 : Cond.methodLink RX6 174 yX6_noWide ∈ zts := zmem 1145 (by decide +kernel) rfl
theorem zl_X6_178 : Cond.methodLink RX6 178 yX6_partOf ∈ zts := zmem 1150 (by decide +kernel) rfl
theorem zl_X6_170 : Cond.methodLink RX6 170 yX6_gcd ∈ zts := zmem 1153 (by decide +kernel) rfl
theorem zl_L_138 : Cond.methodLink RL 138 yX6_mean ∈ zts := zmem 1156 (by decide +kernel) rfl
theorem zl_X6_182 : Cond.methodLink RX6 182 yX6_greenAll ∈ zts := zmem 1160 (by decide +kernel) rfl
theorem zl_L_142 : Cond.methodLink RL 142 yX6_whoSat ∈ zts := zmem 1163 (by decide +kernel) rfl
theorem zl_L_146 : Cond.methodLink RL 146 yX6_row ∈ zts := zmem 1167 (by decide +kernel) rfl
theorem zl_L_150 : Cond.methodLink RL 150 yX6_judge ∈ zts := zmem 1171 (by decide +kernel) rfl
theorem zl_L_154 : Cond.methodLink RL 154 yX6_clear ∈ zts := zmem 1175 (by decide +kernel) rfl
theorem zl_L_158 : Cond.methodLink RL 158 yX6_lots ∈ zts := zmem 1179 (by decide +kernel) rfl
theorem zl_X6_194 : Cond.methodLink RX6 194 yX6_drawn ∈ zts := zmem 1183 (by decide +kernel) rfl
theorem zl_L_162 : Cond.methodLink RL 162 yX6_image ∈ zts := zmem 1190 (by decide +kernel) rfl
theorem zl_L_166 : Cond.methodLink RL 166 yX6_on ∈ zts := zmem 1194 (by decide +kernel) rfl
theorem zl_L_170 : Cond.methodLink RL 170 yX6_count ∈ zts := zmem 1198 (by decide +kernel) rfl
theorem zt_nat : Cond.native arraycopyName ∈ zts := zmem 247 (by decide +kernel) rfl
theorem zt_stat : Cond.static arraycopyName ∈ zts := zmem 246 (by decide +kernel) rfl
theorem zt_ini : Cond.initialized "java/lang/System" ∈ zts := zmem 41 (by decide +kernel) rfl
theorem zt_math : Cond.initialized "java/lang/Math" ∈ zts := zmem 47 (by decide +kernel) rfl
theorem zt_maxs : Cond.static Lib.Math.max.name ∈ zts := zmem 340 (by decide +kernel) rfl
theorem zt_maxc : Cond.code Lib.Math.max.name Lib.Math.max.code 2 (some .int) ∈ zts := zmem 341 (by decide +kernel) rfl
theorem zt_mins : Cond.static Lib.Math.min.name ∈ zts := zmem 343 (by decide +kernel) rfl
theorem zt_minc : Cond.code Lib.Math.min.name Lib.Math.min.code 2 (some .int) ∈ zts := zmem 344 (by decide +kernel) rfl
theorem zt_maxls : Cond.static Lib.MathLoose.max_long.x ∈ zts := zmem 792 (by decide +kernel) rfl
theorem zt_maxlc : Cond.code Lib.MathLoose.max_long.x Lib.MathLoose.max_long.code 4 (some .long) ∈ zts := zmem 793 (by decide +kernel) rfl
theorem zk_X5_224 : Cond.constantLong RX5 224 4000000000000000000 ∈ zts := zmem 782 (by decide +kernel) rfl
theorem zk_X3_126 : Cond.constant RX3 126 1664525 ∈ zts := zmem 844 (by decide +kernel) rfl
theorem zk_X3_127 : Cond.constant RX3 127 1013904223 ∈ zts := zmem 845 (by decide +kernel) rfl
theorem zk_X3_128 : Cond.constant RX3 128 2147483647 ∈ zts := zmem 846 (by decide +kernel) rfl
theorem zk_X6_165 : Cond.constant RX6 165 1000000000 ∈ zts := zmem 1132 (by decide +kernel) rfl
theorem zk_X6_46 : Cond.constantLong RX6 46 4000000000000000000 ∈ zts := zmem 1149 (by decide +kernel) rfl
theorem zk_X6_191 : Cond.constant RX6 191 1664525 ∈ zts := zmem 1187 (by decide +kernel) rfl
theorem zk_X6_192 : Cond.constant RX6 192 1013904223 ∈ zts := zmem 1188 (by decide +kernel) rfl
theorem zk_X6_193 : Cond.constant RX6 193 2147483647 ∈ zts := zmem 1189 (by decide +kernel) rfl
end
section
/-! CORE: a world of int cells that never grows; a judgement over it; one rule an instruction. -/
abbrev zSt : Type := Nat → Nat → Int32
abbrev zEn : Type := va_G × ClassId × (Nat → Nat)
abbrev zL : Type := Nat ⊕ (Nat × List (Option Nat))
abbrev zcl : List vw_C := [(RX1, TX1, 13), (RX2, TX2, 2), (RX3, TX3, 6), (RX4, TX4, 1), (RX5, TX5, 9), (RX6, TX6, 18)]
def zLY : List zL := [(.inr (4, [some 1, some 9, none, some 17, some 25, some 27, some 48, none, some 49])),
  (.inr (0, [none, none, none, none, none, none, some 2, some 3, some 4, some 5, some 6, some 7, some 8])),
  (.inl 18),
  (.inl 6),
  (.inl 6),
  (.inl 6),
  (.inl 6),
  (.inl 6),
  (.inl 6),
  (.inr (0, [none, none, none, none, none, none, some 10, some 11, some 12, some 13, some 14, some 15, some 16])),
  (.inl 18),
  (.inl 6),
  (.inl 6),
  (.inl 6),
  (.inl 6),
  (.inl 6),
  (.inl 6),
  (.inr (0, [none, none, none, none, none, none, some 18, some 19, some 20, some 21, some 22, some 23, some 24])),
  (.inl 18),
  (.inl 6),
  (.inl 6),
  (.inl 6),
  (.inl 6),
  (.inl 6),
  (.inl 6),
  (.inr (1, [some 26, none])),
  (.inl 96),
  (.inr (2, [some 28, some 44, some 36, some 46, some 47, none])),
  (.inr (0, [none, none, none, none, none, none, some 29, some 30, some 31, some 32, some 33, some 34, some 35])),
  (.inl 18),
  (.inl 6),
  (.inl 6),
  (.inl 6),
  (.inl 6),
  (.inl 6),
  (.inl 6),
  (.inr (0, [none, none, none, none, none, none, some 37, some 38, some 39, some 40, some 41, some 42, some 43])),
  (.inl 18),
  (.inl 6),
  (.inl 6),
  (.inl 6),
  (.inl 6),
  (.inl 6),
  (.inl 6),
  (.inr (3, [some 45])),
  (.inl 448),
  (.inl 7),
  (.inl 8),
  (.inl 16),
  (.inl 7),
  (.inr (5, [some 51, some 52, some 53, some 54, some 55, some 56, none, some 57, some 58, some 59, none, none, none, some 60, some 61, some 62, none, none])),
  (.inl 47),
  (.inl 47),
  (.inl 47),
  (.inl 47),
  (.inl 6),
  (.inl 6),
  (.inl 96),
  (.inl 16),
  (.inl 7),
  (.inl 3),
  (.inl 6),
  (.inl 6)]
def zV (E : zEn) : Value → Value
  | .ref j => .ref (E.2.2 j)
  | v => v
theorem zV_cat (E : zEn) (v : Value) : (zV E v).category = v.category := by cases v <;> rfl
def zfld (E : zEn) (σ : zSt) (i k : Nat) : Option Nat → Value
  | none => .int (σ i k)
  | some j => .ref (E.2.2 j)
def zcell (E : zEn) (σ : zSt) (i : Nat) : zL → va_E
  | .inl n => .inl (E.2.1, n, .inl (σ i))
  | .inr (ci, fs) => .inr (ci, fs.mapIdx (fun k f => zfld E σ i k f))
def zws (E : zEn) (σ : zSt) : va_W := zLY.mapIdx (fun i d => (E.2.2 i, zcell E σ i d))
theorem zws_at {E : zEn} {σ : zSt} {i : Nat} {d : zL} (h : zLY[i]? = some d) : (zws E σ)[i]? = some (E.2.2 i, zcell E σ i d) := by
  simp [zws, h]
theorem zcell_congr {E : zEn} {σ τ : zSt} {i : Nat} (h : σ i = τ i) (d : zL) : zcell E σ i d = zcell E τ i d := by
  cases d with
  | inl n => simp [zcell, h]
  | inr q =>
    obtain ⟨ci, fs⟩ := q
    have e : (fun k f => zfld E σ i k f) = (fun k f => zfld E τ i k f) := by
      funext k f
      cases f <;> simp [zfld, h]
    simp [zcell, e]
theorem zws_set {E : zEn} {σ τ : zSt} {i : Nat} {d : zL} (h : zLY[i]? = some d) (ho : ∀ a, a ≠ i → τ a = σ a) : (zws E σ).set i (E.2.2 i, zcell E τ i d) = zws E τ := by
  apply List.ext_getElem?
  intro j
  rw [List.getElem?_set]
  by_cases hj : i = j
  · subst hj
    have hl : i < (zws E σ).length := (List.getElem?_eq_some_iff.mp (zws_at (E := E) (σ := σ) h)).1
    rw [if_pos rfl, if_pos hl, zws_at h]
  · rw [if_neg hj]
    simp only [zws, List.getElem?_mapIdx]
    cases hd : zLY[j]? with
    | none => rfl
    | some d' => simp [zcell_congr (E := E) (ho j (fun e => hj e.symm)) d']
def zA (E : zEn) : Nat → Prop := fun q => ∃ i, i < 63 ∧ q = E.2.2 i
def zI (E : zEn) : Prop := ∀ i j, i < 63 → j < 63 → E.2.2 i = E.2.2 j → i = j
theorem zLY_len : zLY.length = 63 := by decide +kernel
theorem zws_inv {E : zEn} {σ : zSt} {i : Nat} {q : Nat × va_E} (h : (zws E σ)[i]? = some q) : i < 63 ∧ q.1 = E.2.2 i := by
  simp only [zws, List.getElem?_mapIdx, Option.map_eq_some_iff] at h
  obtain ⟨d, h1, h2⟩ := h
  refine ⟨?_, by rw [← h2]⟩
  have := (List.getElem?_eq_some_iff.mp h1).1
  rwa [zLY_len] at this
theorem zD {E : zEn} (hI : zI E) (σ : zSt) : va_D (zA E) (zws E σ) := by
  refine ⟨fun i j p q hi hj e => ?_, fun k q hk => ?_⟩
  · have h1 := zws_inv hi
    have h2 := zws_inv hj
    exact hI i j h1.1 h2.1 (by rw [← h1.2, ← h2.2, e])
  · have h1 := zws_inv hk
    exact ⟨k, h1.1, h1.2⟩
/-- one cell's contents become f -/
def zC (σ : zSt) (i : Nat) (f : Nat → Int32) : zSt := fun a => if a = i then f else σ a
theorem zC_s {σ : zSt} {i : Nat} {f : Nat → Int32} : zC σ i f i = f := by simp [zC]
theorem zC_n {σ : zSt} {i a : Nat} {f : Nat → Int32} (h : a ≠ i) : zC σ i f a = σ a := by simp [zC, h]
/-! what never changes: the String constants (object 100 + i, bytes 110 + i), two tables (120, 121), the statics -/
def zlen : List Nat := [0, 7, 3, 3, 2, 5, 6]
def zbyt : List (List Int32) := [[], [100, 100, 100, 100, 100, 100, 59], [107, 100, 59], [100, 100, 59], [100, 59], [100, 100, 100, 100, 59], [119, 116, 114, 99, 102, 109]]
def zgiv : List Int32 := [-3, 1, 0, 0, -3, 1, 1, 0, -4, 3, -1, 0, 0, 0, 0, 2, 0, 0]
def ztir : List Int32 := [2, 1, 2, 1, 3, 4]
def zstr : List (String × Nat × String × Nat) := [("RotationOfFarmers$Letters", 36, "", 0), ("RotationOfFarmers$Letters", 50, "dddddd;", 1), ("RotationOfFarmers$Letters", 52, "kd;", 2), ("RotationOfFarmers$Letters", 54, "dd;", 3), ("RotationOfFarmers$Letters", 56, "d;", 4), ("RotationOfFarmers$Letters", 58, "dddd;", 5), ("RotationOfFarmers$Kinds", 9, "wtrcfm", 6)]
def zK (E : zEn) (U : State) (H : Heap) : Prop :=
  vk_S 7 zlen zbyt (fun i => E.2.2 (100 + i)) (fun i => E.2.2 (110 + i)) (zA E) U H ∧
  (∀ q ∈ zstr, vk_R q.1 q.2.1 q.2.2.1 (E.2.2 (100 + q.2.2.2)) U) ∧
  (va_Z "RotationOfFarmers$Kinds" "GIVING" "[I" (.ref (E.2.2 120)) (zA E) U H ∧ va_T .int (E.2.2 120) 18 (fun j => .int (zgiv.getD j 0)) (zA E) U H) ∧
  (va_Z "RotationOfFarmers$Kinds" "TIRING" "[I" (.ref (E.2.2 121)) (zA E) U H ∧ va_T .int (E.2.2 121) 6 (fun j => .int (ztir.getD j 0)) (zA E) U H) ∧
  va_Z "java/lang/String" "COMPACT_STRINGS" "Z" (.int 1) (zA E) U H
theorem zK.to {E : zEn} {s U : State} {H H1 : Heap} (hW : s.WarmedH U.vm) (h : zK E s H) (hq : ∀ a : Nat, a < H.size → ¬ zA E a → H1[a]? = H[a]?) : zK E U H1 :=
  ⟨(h.1.moved hW.alike).kept hq, fun q hm => (h.2.1 q hm).warm hW, ⟨(h.2.2.1.1.moved hW.alike).kept hq, (h.2.2.1.2.moved hW.alike).kept hq⟩, ⟨(h.2.2.2.1.1.moved hW.alike).kept hq, (h.2.2.2.1.2.moved hW.alike).kept hq⟩, (h.2.2.2.2.moved hW.alike).kept hq⟩
theorem zK.same {E : zEn} {u U : State} {H : Heap} (hv : U.vm = u.vm) (h : zK E u H) : zK E U H := by
  have ha : u.vm.Alike U.vm := by rw [hv]; exact Vm.Alike.refl _
  exact ⟨h.1.moved ha, fun q hm => (h.2.1 q hm).same hv, ⟨h.2.2.1.1.moved ha, h.2.2.1.2.moved ha⟩, ⟨h.2.2.2.1.1.moved ha, h.2.2.2.1.2.moved ha⟩, h.2.2.2.2.moved ha⟩
/-! the context of a walk -/
abbrev zCx : Type := (Program × Launch × Env × Room) × (State × MethodId × Array Value × List Frame) × (Method × Code) × zEn × (Nat × Nat) × (State → Prop)
abbrev zp (X : zCx) : Program := X.1.1
abbrev zl (X : zCx) : Launch := X.1.2.1
abbrev ze (X : zCx) : Env := X.1.2.2.1
abbrev zR (X : zCx) : Room := X.1.2.2.2
abbrev zs (X : zCx) : State := X.2.1.1
abbrev zm (X : zCx) : MethodId := X.2.1.2.1
abbrev zar (X : zCx) : Array Value := X.2.1.2.2.1
abbrev zbl (X : zCx) : List Frame := X.2.1.2.2.2
abbrev zmt (X : zCx) : Method := X.2.2.1.1
abbrev zco (X : zCx) : Code := X.2.2.1.2
abbrev zE (X : zCx) : zEn := X.2.2.2.1
abbrev zce (X : zCx) : Nat := X.2.2.2.2.1.1
abbrev zsl (X : zCx) : Nat := X.2.2.2.2.1.2
abbrev zZ (X : zCx) : State → Prop := X.2.2.2.2.2
def zQ (E : zEn) (Q : Option Value → zSt → Prop) : Array Value → State → Outcome → State → Prop := fun _ st oc t =>
  (∃ (v : Option Value) (τ : zSt), oc = .returned (v.map (zV E)) ∧ Q v τ ∧ va_P E.1 zcl (zws E τ) t.heap) ∧ va_F (zA E) st t
def zWd (E : zEn) (σ : zSt) (U : State) : Prop := va_P E.1 zcl (zws E σ) U.heap ∧ va_K E.1 zcl [(E.2.1, .int)] U ∧ zI E ∧ zK E U U.heap
def zrm (n : Nat) : Room := { frames := n, cells := 0, slots := 0, locals := 64 * n }
/-- what holds of a walk of method M with n calls' room below it -/
def zB (M : zM) (n : Nat) (X : zCx) : Prop :=
  (zp X).tables.exec = Jvm.exec ∧ (zco X).code = M.2.1 ∧ (zmt X).sig.returnType = M.2.2.2 ∧ (zco X).maxLocals = M.2.2.1 ∧ (zs X).vm.findClass M.1.cls = some (zm X).cls ∧ (∀ w ∈ zts, w.before (zar X) (zs X) = true) ∧
  va_K (zE X).1 zcl [((zE X).2.1, .int)] (zs X) ∧ zI (zE X) ∧ zK (zE X) (zs X) (zs X).heap ∧ (n ≤ (zR X).frames ∧ 64 * n ≤ (zR X).locals) ∧ (zce X ≤ (zR X).cells ∧ zsl X ≤ (zR X).slots)
/-- the context is a method's own: its end is Q -/
def zRt (X : zCx) (Q : Option Value → zSt → Prop) : Prop :=
  zZ X = MQ (zbl X) (zQ (zE X) Q) (zar X) (zs X) (zce X) (zsl X) (zA (zE X)) ∧ (zmt X).locks = false
def zLoc (X : zCx) (lv : List (Option Value)) (ls : Array Slot) : Prop :=
  ls.size = (zco X).maxLocals ∧ lv.length = ls.size ∧ lv_wf ls ∧ ∀ (i : Nat) (v : Value), lv[i]? = some (some v) → ls[i]? = some (.val (zV (zE X) v))
/-- from pc on, with these locals, this stack, this world, the machine comes to the context's end -/
def zW (X : zCx) (pc : Nat) (lv : List (Option Value)) (st : List Value) (σ : zSt) : Prop :=
  ∀ (H : Heap) (locs : List Loc) (ls : Array Slot), va_P (zE X).1 zcl (zws (zE X) σ) H → va_S (zA (zE X)) (zs X).heap H locs → zLoc X lv ls →
    W (zp X) (zl X) (ze X) (zR X) (zs X) (zm X) (zar X) (zbl X) (zmt X) (zco X) H locs (zce X) (zsl X) (zZ X) (F0 (zm X) pc ls (st.map (zV (zE X))))
/-- method M, called with these arguments in this world, answers and leaves the world as Q says -/
def zSem (n : Nat) (M : zM) (as : List Value) (σ : zSt) (Q : Option Value → zSt → Prop) : Prop :=
  ∀ (l : Launch) (E : zEn), Met l M.1 (Cond.code M.1 M.2.1 M.2.2.1 M.2.2.2 :: zts) (zrm n) (va_Pc (as.map (zV E)) (fun U => zWd E σ U)) (zQ E Q) 0 0 (zA E)
def zflat (as : List Value) : List (Option Value) := as.flatMap fun v => if v.category = 2 then [some v, none] else [some v]
def zent (as : List Value) (n : Nat) : List (Option Value) := zflat as ++ List.replicate (n - (zflat as).length) none
theorem zflat_sl (E : zEn) (as : List Value) : (zflat as).length = (lg_sl (as.map (zV E))).length ∧ ∀ (i : Nat) (v : Value), (zflat as)[i]? = some (some v) → (lg_sl (as.map (zV E)))[i]? = some (.val (zV E v)) := by
  induction as with
  | nil => exact ⟨rfl, fun i v h => by simp [zflat] at h⟩
  | cons a t ih =>
    obtain ⟨h1, h2⟩ := ih
    have ea : zflat (a :: t) = (if a.category = 2 then [some a, none] else [some a]) ++ zflat t := rfl
    have eb : lg_sl ((a :: t).map (zV E)) = (if a.category = 2 then [.val (zV E a), .second] else [.val (zV E a)]) ++ lg_sl (t.map (zV E)) := by
      simp only [lg_sl, List.map_cons, List.flatMap_cons, zV_cat]
    rw [ea, eb]
    by_cases hc : a.category = 2
    · rw [if_pos hc, if_pos hc]
      refine ⟨by simp [h1], fun i v h => ?_⟩
      match i, h with
      | 0, h => simp at h; simp [h]
      | 1, h => simp at h
      | i + 2, h => exact h2 i v h
    · rw [if_neg hc, if_neg hc]
      refine ⟨by simp [h1], fun i v h => ?_⟩
      match i, h with
      | 0, h => simp at h; simp [h]
      | i + 1, h => exact h2 i v h
theorem zSem.of {n : Nat} {M : zM} {as : List Value} {σ : zSt} {Q : Option Value → zSt → Prop} (hy : plainName M.1.cls = true) (hn : (zflat as).length ≤ M.2.2.1)
    (h : ∀ X, zB M n X → zRt X Q → zW X 0 (zent as M.2.2.1) [] σ) : zSem n M as σ Q := by
  intro l E
  refine Met.ofW (cc := M.2.1) (maxL := M.2.2.1) (ret := M.2.2.2) hy rfl ?_
  intro p e s m args below meth c s₁ B hml hv
  obtain ⟨rfl, hP, hK, hI, hZ⟩ := hv
  have hts := atoms_spec (ws := Cond.code M.1 M.2.1 M.2.2.1 M.2.2.2 :: zts) B.pre
  have hsl := zflat_sl E as
  have k := h ((p, l, e, zrm n), (s, m, (as.map (zV E)).toArray, below), (meth, c), E, (0, 0), MQ below (zQ E Q) (as.map (zV E)).toArray s 0 0 (zA E))
    ⟨B.exec, B.bytes, B.returns, hml, findClass_of_methodNamed B.named, fun w hw => hts w (List.mem_cons_of_mem _ hw), hK, hI, hZ, ⟨Nat.le_refl _, Nat.le_refl _⟩, ⟨Nat.le_refl _, Nat.le_refl _⟩⟩
    ⟨rfl, B.notSynchronized⟩ s.heap [] ((lg_sl (as.map (zV E)) ++ List.replicate (M.2.2.1 - (lg_sl (as.map (zV E))).length) Slot.unset).toArray) hP va_S.rf (by
      have he := lv_entry (as.map (zV E)) (n := M.2.2.1) (by rw [← hsl.1]; exact hn)
      refine ⟨?_, ?_, he.2.1, ?_⟩
      · rw [he.1]; exact hml.symm
      · rw [he.1]; simp [zent]; omega
      · intro i v hi
        rw [zent] at hi
        rcases Nat.lt_or_ge i (zflat as).length with q | q
        · rw [List.getElem?_append_left q] at hi
          have h3 := hsl.2 i v hi
          rw [List.getElem?_toArray, List.getElem?_append_left (by rw [← hsl.1]; exact q)]
          exact h3
        · rw [List.getElem?_append_right q, List.getElem?_replicate] at hi
          split at hi <;> simp at hi)
  rw [lg_entry_eq]
  exact k
theorem zSem.mono {n : Nat} {M : zM} {as : List Value} {σ : zSt} {Q Q' : Option Value → zSt → Prop} (h : zSem n M as σ Q) (hq : ∀ v τ, Q v τ → Q' v τ) : zSem n M as σ Q' := by
  intro l E
  have h1 := h l E
  intro p e ha hc hk s m args below hf hfit hp1 hp2
  obtain ⟨t, o, a1, a2, a3, ⟨⟨⟨v, τ, b1, b2, b3⟩, b4⟩, b5⟩⟩ := h1 p e ha hc hk s m args below hf hfit hp1 hp2
  exact ⟨t, o, a1, a2, a3, ⟨⟨v, τ, b1, hq _ _ b2, b3⟩, b4⟩, b5⟩

theorem zw_iconst {M : zM} {n pc : Nat} {X : zCx} {lv : List (Option Value)} {st : List Value} {σ : zSt} {v : Int} {x : Int32} (hB : zB M n X) (hd : decode M.2.1 pc = .ok (.iconst v, 1)) (hv : Int32.ofInt v = x) (k : zW X (pc + 1) lv (.int x :: st) σ) : zW X pc lv (st) σ := by
  intro H locs ls hP hS hL
  exact lv_iconst hB.1 hB.2.1 hd hv (k H locs ls hP hS hL)
theorem zw_bipush {M : zM} {n pc : Nat} {X : zCx} {lv : List (Option Value)} {st : List Value} {σ : zSt} {v : Int} {x : Int32} (hB : zB M n X) (hd : decode M.2.1 pc = .ok (.bipush v, 2)) (hv : (Int8.ofInt v).toInt32 = x) (k : zW X (pc + 2) lv (.int x :: st) σ) : zW X pc lv (st) σ := by
  intro H locs ls hP hS hL
  exact lv_bipush hB.1 hB.2.1 hd hv (k H locs ls hP hS hL)
theorem zw_sipush {M : zM} {n pc : Nat} {X : zCx} {lv : List (Option Value)} {st : List Value} {σ : zSt} {v : Int} {x : Int32} (hB : zB M n X) (hd : decode M.2.1 pc = .ok (.sipush v, 3)) (hv : (Int16.ofInt v).toInt32 = x) (k : zW X (pc + 3) lv (.int x :: st) σ) : zW X pc lv (st) σ := by
  intro H locs ls hP hS hL
  exact lv_sipush hB.1 hB.2.1 hd hv (k H locs ls hP hS hL)
theorem zw_lconst {M : zM} {n pc : Nat} {X : zCx} {lv : List (Option Value)} {st : List Value} {σ : zSt} {v : Fin 2} {x : Int64} (hB : zB M n X) (hd : decode M.2.1 pc = .ok (.lconst v, 1)) (hv : Int64.ofNat (v : Nat) = x) (k : zW X (pc + 1) lv (.long x :: st) σ) : zW X pc lv (st) σ := by
  intro H locs ls hP hS hL
  exact lv_lconst hB.1 hB.2.1 hd hv (k H locs ls hP hS hL)
theorem zw_iadd {M : zM} {n pc : Nat} {X : zCx} {lv : List (Option Value)} {st : List Value} {σ : zSt} {x y : Int32} (hB : zB M n X) (hd : decode M.2.1 pc = .ok (.iadd, 1))  (k : zW X (pc + 1) lv (.int (x + y) :: st) σ) : zW X pc lv (.int y :: .int x :: st) σ := by
  intro H locs ls hP hS hL
  exact lv_iadd hB.1 hB.2.1 hd  (k H locs ls hP hS hL)
theorem zw_isub {M : zM} {n pc : Nat} {X : zCx} {lv : List (Option Value)} {st : List Value} {σ : zSt} {x y : Int32} (hB : zB M n X) (hd : decode M.2.1 pc = .ok (.isub, 1))  (k : zW X (pc + 1) lv (.int (x - y) :: st) σ) : zW X pc lv (.int y :: .int x :: st) σ := by
  intro H locs ls hP hS hL
  exact lv_isub hB.1 hB.2.1 hd  (k H locs ls hP hS hL)
theorem zw_imul {M : zM} {n pc : Nat} {X : zCx} {lv : List (Option Value)} {st : List Value} {σ : zSt} {x y : Int32} (hB : zB M n X) (hd : decode M.2.1 pc = .ok (.imul, 1))  (k : zW X (pc + 1) lv (.int (x * y) :: st) σ) : zW X pc lv (.int y :: .int x :: st) σ := by
  intro H locs ls hP hS hL
  exact lv_imul hB.1 hB.2.1 hd  (k H locs ls hP hS hL)
theorem zw_iand {M : zM} {n pc : Nat} {X : zCx} {lv : List (Option Value)} {st : List Value} {σ : zSt} {x y : Int32} (hB : zB M n X) (hd : decode M.2.1 pc = .ok (.iand, 1))  (k : zW X (pc + 1) lv (.int (x &&& y) :: st) σ) : zW X pc lv (.int y :: .int x :: st) σ := by
  intro H locs ls hP hS hL
  exact lv_iand hB.1 hB.2.1 hd  (k H locs ls hP hS hL)
theorem zw_ior {M : zM} {n pc : Nat} {X : zCx} {lv : List (Option Value)} {st : List Value} {σ : zSt} {x y : Int32} (hB : zB M n X) (hd : decode M.2.1 pc = .ok (.ior, 1))  (k : zW X (pc + 1) lv (.int (x ||| y) :: st) σ) : zW X pc lv (.int y :: .int x :: st) σ := by
  intro H locs ls hP hS hL
  exact lv_ior hB.1 hB.2.1 hd  (k H locs ls hP hS hL)
theorem zw_ixor {M : zM} {n pc : Nat} {X : zCx} {lv : List (Option Value)} {st : List Value} {σ : zSt} {x y : Int32} (hB : zB M n X) (hd : decode M.2.1 pc = .ok (.ixor, 1))  (k : zW X (pc + 1) lv (.int (x ^^^ y) :: st) σ) : zW X pc lv (.int y :: .int x :: st) σ := by
  intro H locs ls hP hS hL
  exact lv_ixor hB.1 hB.2.1 hd  (k H locs ls hP hS hL)
theorem zw_idiv {M : zM} {n pc : Nat} {X : zCx} {lv : List (Option Value)} {st : List Value} {σ : zSt} {x y : Int32} (hB : zB M n X) (hd : decode M.2.1 pc = .ok (.idiv, 1)) (hv : ¬ y = 0) (k : zW X (pc + 1) lv (.int (x / y) :: st) σ) : zW X pc lv (.int y :: .int x :: st) σ := by
  intro H locs ls hP hS hL
  exact lv_idiv hB.1 hB.2.1 hd hv (k H locs ls hP hS hL)
theorem zw_irem {M : zM} {n pc : Nat} {X : zCx} {lv : List (Option Value)} {st : List Value} {σ : zSt} {x y : Int32} (hB : zB M n X) (hd : decode M.2.1 pc = .ok (.irem, 1)) (hv : ¬ y = 0) (k : zW X (pc + 1) lv (.int (x - x / y * y) :: st) σ) : zW X pc lv (.int y :: .int x :: st) σ := by
  intro H locs ls hP hS hL
  exact lv_irem hB.1 hB.2.1 hd hv (k H locs ls hP hS hL)
theorem zw_ineg {M : zM} {n pc : Nat} {X : zCx} {lv : List (Option Value)} {st : List Value} {σ : zSt} {x : Int32} (hB : zB M n X) (hd : decode M.2.1 pc = .ok (.ineg, 1))  (k : zW X (pc + 1) lv (.int (-x) :: st) σ) : zW X pc lv (.int x :: st) σ := by
  intro H locs ls hP hS hL
  exact lv_ineg hB.1 hB.2.1 hd  (k H locs ls hP hS hL)
theorem zw_ladd {M : zM} {n pc : Nat} {X : zCx} {lv : List (Option Value)} {st : List Value} {σ : zSt} {x y : Int64} (hB : zB M n X) (hd : decode M.2.1 pc = .ok (.ladd, 1))  (k : zW X (pc + 1) lv (.long (x + y) :: st) σ) : zW X pc lv (.long y :: .long x :: st) σ := by
  intro H locs ls hP hS hL
  exact lv_ladd hB.1 hB.2.1 hd  (k H locs ls hP hS hL)
theorem zw_lsub {M : zM} {n pc : Nat} {X : zCx} {lv : List (Option Value)} {st : List Value} {σ : zSt} {x y : Int64} (hB : zB M n X) (hd : decode M.2.1 pc = .ok (.lsub, 1))  (k : zW X (pc + 1) lv (.long (x - y) :: st) σ) : zW X pc lv (.long y :: .long x :: st) σ := by
  intro H locs ls hP hS hL
  exact lv_lsub hB.1 hB.2.1 hd  (k H locs ls hP hS hL)
theorem zw_lmul {M : zM} {n pc : Nat} {X : zCx} {lv : List (Option Value)} {st : List Value} {σ : zSt} {x y : Int64} (hB : zB M n X) (hd : decode M.2.1 pc = .ok (.lmul, 1))  (k : zW X (pc + 1) lv (.long (x * y) :: st) σ) : zW X pc lv (.long y :: .long x :: st) σ := by
  intro H locs ls hP hS hL
  exact lv_lmul hB.1 hB.2.1 hd  (k H locs ls hP hS hL)
theorem zw_ldiv {M : zM} {n pc : Nat} {X : zCx} {lv : List (Option Value)} {st : List Value} {σ : zSt} {x y : Int64} (hB : zB M n X) (hd : decode M.2.1 pc = .ok (.ldiv, 1)) (hv : ¬ y = 0) (k : zW X (pc + 1) lv (.long (x / y) :: st) σ) : zW X pc lv (.long y :: .long x :: st) σ := by
  intro H locs ls hP hS hL
  exact lv_ldiv hB.1 hB.2.1 hd hv (k H locs ls hP hS hL)
theorem zw_lrem {M : zM} {n pc : Nat} {X : zCx} {lv : List (Option Value)} {st : List Value} {σ : zSt} {x y : Int64} (hB : zB M n X) (hd : decode M.2.1 pc = .ok (.lrem, 1)) (hv : ¬ y = 0) (k : zW X (pc + 1) lv (.long (x - x / y * y) :: st) σ) : zW X pc lv (.long y :: .long x :: st) σ := by
  intro H locs ls hP hS hL
  exact lv_lrem hB.1 hB.2.1 hd hv (k H locs ls hP hS hL)
theorem zw_ishl {M : zM} {n pc : Nat} {X : zCx} {lv : List (Option Value)} {st : List Value} {σ : zSt} {x y : Int32} (hB : zB M n X) (hd : decode M.2.1 pc = .ok (.ishl, 1))  (k : zW X (pc + 1) lv (.int (x <<< (y &&& 31)) :: st) σ) : zW X pc lv (.int y :: .int x :: st) σ := by
  intro H locs ls hP hS hL
  exact lv_ishl hB.1 hB.2.1 hd  (k H locs ls hP hS hL)
theorem zw_ishr {M : zM} {n pc : Nat} {X : zCx} {lv : List (Option Value)} {st : List Value} {σ : zSt} {x y : Int32} (hB : zB M n X) (hd : decode M.2.1 pc = .ok (.ishr, 1))  (k : zW X (pc + 1) lv (.int (x >>> (y &&& 31)) :: st) σ) : zW X pc lv (.int y :: .int x :: st) σ := by
  intro H locs ls hP hS hL
  exact lv_ishr hB.1 hB.2.1 hd  (k H locs ls hP hS hL)
theorem zw_i2l {M : zM} {n pc : Nat} {X : zCx} {lv : List (Option Value)} {st : List Value} {σ : zSt} {x : Int32} (hB : zB M n X) (hd : decode M.2.1 pc = .ok (.i2l, 1))  (k : zW X (pc + 1) lv (.long x.toInt64 :: st) σ) : zW X pc lv (.int x :: st) σ := by
  intro H locs ls hP hS hL
  exact lv_i2l hB.1 hB.2.1 hd rfl (k H locs ls hP hS hL)
theorem zw_i2b {M : zM} {n pc : Nat} {X : zCx} {lv : List (Option Value)} {st : List Value} {σ : zSt} {x : Int32} (hB : zB M n X) (hd : decode M.2.1 pc = .ok (.i2b, 1))  (k : zW X (pc + 1) lv (.int x.toInt8.toInt32 :: st) σ) : zW X pc lv (.int x :: st) σ := by
  intro H locs ls hP hS hL
  exact lv_i2b hB.1 hB.2.1 hd rfl (k H locs ls hP hS hL)
theorem zw_i2c {M : zM} {n pc : Nat} {X : zCx} {lv : List (Option Value)} {st : List Value} {σ : zSt} {x : Int32} (hB : zB M n X) (hd : decode M.2.1 pc = .ok (.i2c, 1))  (k : zW X (pc + 1) lv (.int (x.toUInt32 % 65536).toInt32 :: st) σ) : zW X pc lv (.int x :: st) σ := by
  intro H locs ls hP hS hL
  exact lv_i2c hB.1 hB.2.1 hd rfl (k H locs ls hP hS hL)
theorem zw_lcmp {M : zM} {n pc : Nat} {X : zCx} {lv : List (Option Value)} {st : List Value} {σ : zSt} {x y : Int64} (hB : zB M n X) (hd : decode M.2.1 pc = .ok (.lcmp, 1))  (k : zW X (pc + 1) lv (.int (lg_cmp x y) :: st) σ) : zW X pc lv (.long y :: .long x :: st) σ := by
  intro H locs ls hP hS hL
  exact W.lcmp hB.1 hB.2.1 hd  (k H locs ls hP hS hL)
theorem zw_dup {M : zM} {n pc : Nat} {X : zCx} {lv : List (Option Value)} {st : List Value} {σ : zSt} {v : Value} (hB : zB M n X) (hd : decode M.2.1 pc = .ok (.dup, 1)) (hc : v.category = 1) (k : zW X (pc + 1) lv (v :: v :: st) σ) : zW X pc lv (v :: st) σ := by
  intro H locs ls hP hS hL
  exact lv_dup hB.1 hB.2.1 hd (by rw [zV_cat]; exact hc) (k H locs ls hP hS hL)
theorem zw_pop {M : zM} {n pc : Nat} {X : zCx} {lv : List (Option Value)} {st : List Value} {σ : zSt} {v : Value} (hB : zB M n X) (hd : decode M.2.1 pc = .ok (.pop, 1)) (hc : v.category = 1) (k : zW X (pc + 1) lv st σ) : zW X pc lv (v :: st) σ := by
  intro H locs ls hP hS hL
  exact lv_pop hB.1 hB.2.1 hd (by rw [zV_cat]; exact hc) (k H locs ls hP hS hL)
theorem zw_dup2 {M : zM} {n pc : Nat} {X : zCx} {lv : List (Option Value)} {st : List Value} {σ : zSt} {v w : Value} (hB : zB M n X) (hd : decode M.2.1 pc = .ok (.dup2, 1)) (hc : v.category = 1) (hc2 : w.category = 1) (k : zW X (pc + 1) lv (v :: w :: v :: w :: st) σ) : zW X pc lv (v :: w :: st) σ := by
  intro H locs ls hP hS hL
  exact lv_dup2_11 hB.1 hB.2.1 hd (by rw [zV_cat]; exact hc) (by rw [zV_cat]; exact hc2) (k H locs ls hP hS hL)
theorem zw_ldc {M : zM} {n pc : Nat} {X : zCx} {lv : List (Option Value)} {st : List Value} {σ : zSt} {idx : Nat} {v : Int32} (hB : zB M n X) (hd : decode M.2.1 pc = .ok (.ldc idx, 2)) (hw : Cond.constant M.1.cls idx v ∈ zts) (k : zW X (pc + 2) lv (.int v :: st) σ) : zW X pc lv st σ := by
  intro H locs ls hP hS hL
  exact lv_ldc hB.1 hB.2.1 hB.2.2.2.2.1 (hB.2.2.2.2.2.1 _ hw) hd (k H locs ls hP hS hL)
theorem zw_ldc2 {M : zM} {n pc : Nat} {X : zCx} {lv : List (Option Value)} {st : List Value} {σ : zSt} {idx : Nat} {v : Int64} (hB : zB M n X) (hd : decode M.2.1 pc = .ok (.ldc2_w idx, 3)) (hw : Cond.constantLong M.1.cls idx v ∈ zts) (k : zW X (pc + 3) lv (.long v :: st) σ) : zW X pc lv st σ := by
  intro H locs ls hP hS hL
  exact lv_ldc2 hB.1 hB.2.1 hB.2.2.2.2.1 (hB.2.2.2.2.2.1 _ hw) hd (k H locs ls hP hS hL)
theorem zw_ldcS {M : zM} {n pc : Nat} {X : zCx} {lv : List (Option Value)} {st : List Value} {σ : zSt} {idx i : Nat} {tx : String} (hB : zB M n X) (hd : decode M.2.1 pc = .ok (.ldc idx, 2)) (hw : (M.1.cls, idx, tx, i) ∈ zstr) (k : zW X (pc + 2) lv (.ref (100 + i) :: st) σ) : zW X pc lv st σ := by
  intro H locs ls hP hS hL
  exact va_ldcS hB.1 hB.2.1 hB.2.2.2.2.1 (hB.2.2.2.2.2.2.2.2.1.2.1 _ hw) hd (k H locs ls hP hS hL)
theorem zw_if_eq {M : zM} {n pc : Nat} {X : zCx} {lv : List (Option Value)} {st : List Value} {σ : zSt} {x : Int32} {off : Int} {tgt : Nat} (hB : zB M n X) (hd : decode M.2.1 pc = .ok (.ifCond .eq off, 3)) (ht : (pc : Int) + off = (tgt : Int)) (kt : x = 0 → zW X tgt lv st σ) (kf : ¬ x = 0 → zW X (pc + 3) lv st σ) : zW X pc lv (.int x :: st) σ := by
  intro H locs ls hP hS hL
  exact lv_if_eq hB.1 hB.2.1 hd ht (fun q => kt q H locs ls hP hS hL) (fun q => kf q H locs ls hP hS hL)
theorem zw_icmp_eq {M : zM} {n pc : Nat} {X : zCx} {lv : List (Option Value)} {st : List Value} {σ : zSt} {x y : Int32} {off : Int} {tgt : Nat} (hB : zB M n X) (hd : decode M.2.1 pc = .ok (.if_icmp .eq off, 3)) (ht : (pc : Int) + off = (tgt : Int)) (kt : x = y → zW X tgt lv st σ) (kf : ¬ x = y → zW X (pc + 3) lv st σ) : zW X pc lv (.int y :: .int x :: st) σ := by
  intro H locs ls hP hS hL
  exact lv_icmp_eq hB.1 hB.2.1 hd ht (fun q => kt q H locs ls hP hS hL) (fun q => kf q H locs ls hP hS hL)
theorem zw_if_ne {M : zM} {n pc : Nat} {X : zCx} {lv : List (Option Value)} {st : List Value} {σ : zSt} {x : Int32} {off : Int} {tgt : Nat} (hB : zB M n X) (hd : decode M.2.1 pc = .ok (.ifCond .ne off, 3)) (ht : (pc : Int) + off = (tgt : Int)) (kt : ¬ x = 0 → zW X tgt lv st σ) (kf : x = 0 → zW X (pc + 3) lv st σ) : zW X pc lv (.int x :: st) σ := by
  intro H locs ls hP hS hL
  exact lv_if_ne hB.1 hB.2.1 hd ht (fun q => kt q H locs ls hP hS hL) (fun q => kf q H locs ls hP hS hL)
theorem zw_icmp_ne {M : zM} {n pc : Nat} {X : zCx} {lv : List (Option Value)} {st : List Value} {σ : zSt} {x y : Int32} {off : Int} {tgt : Nat} (hB : zB M n X) (hd : decode M.2.1 pc = .ok (.if_icmp .ne off, 3)) (ht : (pc : Int) + off = (tgt : Int)) (kt : ¬ x = y → zW X tgt lv st σ) (kf : x = y → zW X (pc + 3) lv st σ) : zW X pc lv (.int y :: .int x :: st) σ := by
  intro H locs ls hP hS hL
  exact lv_icmp_ne hB.1 hB.2.1 hd ht (fun q => kt q H locs ls hP hS hL) (fun q => kf q H locs ls hP hS hL)
theorem zw_if_lt {M : zM} {n pc : Nat} {X : zCx} {lv : List (Option Value)} {st : List Value} {σ : zSt} {x : Int32} {off : Int} {tgt : Nat} (hB : zB M n X) (hd : decode M.2.1 pc = .ok (.ifCond .lt off, 3)) (ht : (pc : Int) + off = (tgt : Int)) (kt : x < 0 → zW X tgt lv st σ) (kf : ¬ x < 0 → zW X (pc + 3) lv st σ) : zW X pc lv (.int x :: st) σ := by
  intro H locs ls hP hS hL
  exact lv_if_lt hB.1 hB.2.1 hd ht (fun q => kt q H locs ls hP hS hL) (fun q => kf q H locs ls hP hS hL)
theorem zw_icmp_lt {M : zM} {n pc : Nat} {X : zCx} {lv : List (Option Value)} {st : List Value} {σ : zSt} {x y : Int32} {off : Int} {tgt : Nat} (hB : zB M n X) (hd : decode M.2.1 pc = .ok (.if_icmp .lt off, 3)) (ht : (pc : Int) + off = (tgt : Int)) (kt : x < y → zW X tgt lv st σ) (kf : ¬ x < y → zW X (pc + 3) lv st σ) : zW X pc lv (.int y :: .int x :: st) σ := by
  intro H locs ls hP hS hL
  exact lv_icmp_lt hB.1 hB.2.1 hd ht (fun q => kt q H locs ls hP hS hL) (fun q => kf q H locs ls hP hS hL)
theorem zw_if_ge {M : zM} {n pc : Nat} {X : zCx} {lv : List (Option Value)} {st : List Value} {σ : zSt} {x : Int32} {off : Int} {tgt : Nat} (hB : zB M n X) (hd : decode M.2.1 pc = .ok (.ifCond .ge off, 3)) (ht : (pc : Int) + off = (tgt : Int)) (kt : 0 ≤ x → zW X tgt lv st σ) (kf : ¬ 0 ≤ x → zW X (pc + 3) lv st σ) : zW X pc lv (.int x :: st) σ := by
  intro H locs ls hP hS hL
  exact lv_if_ge hB.1 hB.2.1 hd ht (fun q => kt q H locs ls hP hS hL) (fun q => kf q H locs ls hP hS hL)
theorem zw_icmp_ge {M : zM} {n pc : Nat} {X : zCx} {lv : List (Option Value)} {st : List Value} {σ : zSt} {x y : Int32} {off : Int} {tgt : Nat} (hB : zB M n X) (hd : decode M.2.1 pc = .ok (.if_icmp .ge off, 3)) (ht : (pc : Int) + off = (tgt : Int)) (kt : y ≤ x → zW X tgt lv st σ) (kf : ¬ y ≤ x → zW X (pc + 3) lv st σ) : zW X pc lv (.int y :: .int x :: st) σ := by
  intro H locs ls hP hS hL
  exact lv_icmp_ge hB.1 hB.2.1 hd ht (fun q => kt q H locs ls hP hS hL) (fun q => kf q H locs ls hP hS hL)
theorem zw_if_gt {M : zM} {n pc : Nat} {X : zCx} {lv : List (Option Value)} {st : List Value} {σ : zSt} {x : Int32} {off : Int} {tgt : Nat} (hB : zB M n X) (hd : decode M.2.1 pc = .ok (.ifCond .gt off, 3)) (ht : (pc : Int) + off = (tgt : Int)) (kt : 0 < x → zW X tgt lv st σ) (kf : ¬ 0 < x → zW X (pc + 3) lv st σ) : zW X pc lv (.int x :: st) σ := by
  intro H locs ls hP hS hL
  exact lv_if_gt hB.1 hB.2.1 hd ht (fun q => kt q H locs ls hP hS hL) (fun q => kf q H locs ls hP hS hL)
theorem zw_icmp_gt {M : zM} {n pc : Nat} {X : zCx} {lv : List (Option Value)} {st : List Value} {σ : zSt} {x y : Int32} {off : Int} {tgt : Nat} (hB : zB M n X) (hd : decode M.2.1 pc = .ok (.if_icmp .gt off, 3)) (ht : (pc : Int) + off = (tgt : Int)) (kt : y < x → zW X tgt lv st σ) (kf : ¬ y < x → zW X (pc + 3) lv st σ) : zW X pc lv (.int y :: .int x :: st) σ := by
  intro H locs ls hP hS hL
  exact lv_icmp_gt hB.1 hB.2.1 hd ht (fun q => kt q H locs ls hP hS hL) (fun q => kf q H locs ls hP hS hL)
theorem zw_if_le {M : zM} {n pc : Nat} {X : zCx} {lv : List (Option Value)} {st : List Value} {σ : zSt} {x : Int32} {off : Int} {tgt : Nat} (hB : zB M n X) (hd : decode M.2.1 pc = .ok (.ifCond .le off, 3)) (ht : (pc : Int) + off = (tgt : Int)) (kt : x ≤ 0 → zW X tgt lv st σ) (kf : ¬ x ≤ 0 → zW X (pc + 3) lv st σ) : zW X pc lv (.int x :: st) σ := by
  intro H locs ls hP hS hL
  exact lv_if_le hB.1 hB.2.1 hd ht (fun q => kt q H locs ls hP hS hL) (fun q => kf q H locs ls hP hS hL)
theorem zw_icmp_le {M : zM} {n pc : Nat} {X : zCx} {lv : List (Option Value)} {st : List Value} {σ : zSt} {x y : Int32} {off : Int} {tgt : Nat} (hB : zB M n X) (hd : decode M.2.1 pc = .ok (.if_icmp .le off, 3)) (ht : (pc : Int) + off = (tgt : Int)) (kt : x ≤ y → zW X tgt lv st σ) (kf : ¬ x ≤ y → zW X (pc + 3) lv st σ) : zW X pc lv (.int y :: .int x :: st) σ := by
  intro H locs ls hP hS hL
  exact lv_icmp_le hB.1 hB.2.1 hd ht (fun q => kt q H locs ls hP hS hL) (fun q => kf q H locs ls hP hS hL)
theorem zw_goto {M : zM} {n pc : Nat} {X : zCx} {lv : List (Option Value)} {st : List Value} {σ : zSt} {off : Int} {tgt : Nat} (hB : zB M n X) (hd : decode M.2.1 pc = .ok (.goto off, 3)) (ht : (pc : Int) + off = (tgt : Int)) (k : zW X tgt lv st σ) : zW X pc lv st σ := by
  intro H locs ls hP hS hL
  exact lv_goto hB.1 hB.2.1 hd ht (k H locs ls hP hS hL)
theorem zw_tabOut {M : zM} {n pc : Nat} {X : zCx} {lv : List (Option Value)} {st : List Value} {σ : zSt} {dflt lo hi : Int} {offs : Array Int} {len : Nat} {x : Int32} {tgt : Nat} (hB : zB M n X) (hd : decode M.2.1 pc = .ok (.tableswitch dflt lo hi offs, len)) (h : x.toInt < lo ∨ hi < x.toInt) (ht : (pc : Int) + dflt = (tgt : Int)) (k : zW X tgt lv st σ) : zW X pc lv (.int x :: st) σ := by
  intro H locs ls hP hS hL
  exact lv_tableOut hB.1 hB.2.1 hd h ht (k H locs ls hP hS hL)
theorem zw_tabIn {M : zM} {n pc : Nat} {X : zCx} {lv : List (Option Value)} {st : List Value} {σ : zSt} {dflt lo hi off : Int} {offs : Array Int} {len : Nat} {x : Int32} {tgt : Nat} (hB : zB M n X) (hd : decode M.2.1 pc = .ok (.tableswitch dflt lo hi offs, len)) (h1 : ¬ x.toInt < lo) (h2 : ¬ hi < x.toInt) (ho : offs[(x.toInt - lo).toNat]? = some off) (ht : (pc : Int) + off = (tgt : Int)) (k : zW X tgt lv st σ) : zW X pc lv (.int x :: st) σ := by
  intro H locs ls hP hS hL
  exact lv_tableIn hB.1 hB.2.1 hd h1 h2 ho ht (k H locs ls hP hS hL)
theorem zw_lookup {M : zM} {n pc : Nat} {X : zCx} {lv : List (Option Value)} {st : List Value} {σ : zSt} {dflt off : Int} {ps : Array (Int × Int)} {len : Nat} {x : Int32} {tgt : Nat} (hB : zB M n X) (hd : decode M.2.1 pc = .ok (.lookupswitch dflt ps, len)) (hp : (ps.toList.zip (ps.toList.drop 1)).all (fun (a, next) => a.1 < next.1) = true) (ho : Op.lookupswitch.offset ps.toList dflt x.toInt = off) (ht : (pc : Int) + off = (tgt : Int)) (k : zW X tgt lv st σ) : zW X pc lv (.int x :: st) σ := by
  intro H locs ls hP hS hL
  exact lv_lookup hB.1 hB.2.1 hd hp ho ht (k H locs ls hP hS hL)
theorem zw_iload0 {M : zM} {n pc : Nat} {X : zCx} {st : List Value} {σ : zSt} {t : List (Option Value)} {x : Int32} (hB : zB M n X) (hd : decode M.2.1 pc = .ok (.iload_n 0, 1)) (k : zW X (pc + 1) (some (.int x) :: t) (.int x :: st) σ) : zW X pc (some (.int x) :: t) st σ := by
  intro H locs ls hP hS hL
  exact lv_iload_n hB.1 hB.2.1 hd rfl (hL.2.2.2 0 _ rfl) (k H locs ls hP hS hL)
theorem zw_lload0 {M : zM} {n pc : Nat} {X : zCx} {st : List Value} {σ : zSt} {t : List (Option Value)} {x : Int64} (hB : zB M n X) (hd : decode M.2.1 pc = .ok (.lload_n 0, 1)) (k : zW X (pc + 1) (some (.long x) :: t) (.long x :: st) σ) : zW X pc (some (.long x) :: t) st σ := by
  intro H locs ls hP hS hL
  exact lv_lload_n hB.1 hB.2.1 hd rfl (hL.2.2.2 0 _ rfl) (k H locs ls hP hS hL)
theorem zw_aload0 {M : zM} {n pc : Nat} {X : zCx} {st : List Value} {σ : zSt} {t : List (Option Value)} {x : Nat} (hB : zB M n X) (hd : decode M.2.1 pc = .ok (.aload_n 0, 1)) (k : zW X (pc + 1) (some (.ref x) :: t) (.ref x :: st) σ) : zW X pc (some (.ref x) :: t) st σ := by
  intro H locs ls hP hS hL
  exact lv_aload_n hB.1 hB.2.1 hd rfl (hL.2.2.2 0 _ rfl) (k H locs ls hP hS hL)
theorem zw_iload1 {M : zM} {n pc : Nat} {X : zCx} {st : List Value} {σ : zSt} {a0 : Option Value} {t : List (Option Value)} {x : Int32} (hB : zB M n X) (hd : decode M.2.1 pc = .ok (.iload_n 1, 1)) (k : zW X (pc + 1) (a0 :: some (.int x) :: t) (.int x :: st) σ) : zW X pc (a0 :: some (.int x) :: t) st σ := by
  intro H locs ls hP hS hL
  exact lv_iload_n hB.1 hB.2.1 hd rfl (hL.2.2.2 1 _ rfl) (k H locs ls hP hS hL)
theorem zw_lload1 {M : zM} {n pc : Nat} {X : zCx} {st : List Value} {σ : zSt} {a0 : Option Value} {t : List (Option Value)} {x : Int64} (hB : zB M n X) (hd : decode M.2.1 pc = .ok (.lload_n 1, 1)) (k : zW X (pc + 1) (a0 :: some (.long x) :: t) (.long x :: st) σ) : zW X pc (a0 :: some (.long x) :: t) st σ := by
  intro H locs ls hP hS hL
  exact lv_lload_n hB.1 hB.2.1 hd rfl (hL.2.2.2 1 _ rfl) (k H locs ls hP hS hL)
theorem zw_aload1 {M : zM} {n pc : Nat} {X : zCx} {st : List Value} {σ : zSt} {a0 : Option Value} {t : List (Option Value)} {x : Nat} (hB : zB M n X) (hd : decode M.2.1 pc = .ok (.aload_n 1, 1)) (k : zW X (pc + 1) (a0 :: some (.ref x) :: t) (.ref x :: st) σ) : zW X pc (a0 :: some (.ref x) :: t) st σ := by
  intro H locs ls hP hS hL
  exact lv_aload_n hB.1 hB.2.1 hd rfl (hL.2.2.2 1 _ rfl) (k H locs ls hP hS hL)
theorem zw_iload2 {M : zM} {n pc : Nat} {X : zCx} {st : List Value} {σ : zSt} {a0 a1 : Option Value} {t : List (Option Value)} {x : Int32} (hB : zB M n X) (hd : decode M.2.1 pc = .ok (.iload_n 2, 1)) (k : zW X (pc + 1) (a0 :: a1 :: some (.int x) :: t) (.int x :: st) σ) : zW X pc (a0 :: a1 :: some (.int x) :: t) st σ := by
  intro H locs ls hP hS hL
  exact lv_iload_n hB.1 hB.2.1 hd rfl (hL.2.2.2 2 _ rfl) (k H locs ls hP hS hL)
theorem zw_lload2 {M : zM} {n pc : Nat} {X : zCx} {st : List Value} {σ : zSt} {a0 a1 : Option Value} {t : List (Option Value)} {x : Int64} (hB : zB M n X) (hd : decode M.2.1 pc = .ok (.lload_n 2, 1)) (k : zW X (pc + 1) (a0 :: a1 :: some (.long x) :: t) (.long x :: st) σ) : zW X pc (a0 :: a1 :: some (.long x) :: t) st σ := by
  intro H locs ls hP hS hL
  exact lv_lload_n hB.1 hB.2.1 hd rfl (hL.2.2.2 2 _ rfl) (k H locs ls hP hS hL)
theorem zw_aload2 {M : zM} {n pc : Nat} {X : zCx} {st : List Value} {σ : zSt} {a0 a1 : Option Value} {t : List (Option Value)} {x : Nat} (hB : zB M n X) (hd : decode M.2.1 pc = .ok (.aload_n 2, 1)) (k : zW X (pc + 1) (a0 :: a1 :: some (.ref x) :: t) (.ref x :: st) σ) : zW X pc (a0 :: a1 :: some (.ref x) :: t) st σ := by
  intro H locs ls hP hS hL
  exact lv_aload_n hB.1 hB.2.1 hd rfl (hL.2.2.2 2 _ rfl) (k H locs ls hP hS hL)
theorem zw_iload3 {M : zM} {n pc : Nat} {X : zCx} {st : List Value} {σ : zSt} {a0 a1 a2 : Option Value} {t : List (Option Value)} {x : Int32} (hB : zB M n X) (hd : decode M.2.1 pc = .ok (.iload_n 3, 1)) (k : zW X (pc + 1) (a0 :: a1 :: a2 :: some (.int x) :: t) (.int x :: st) σ) : zW X pc (a0 :: a1 :: a2 :: some (.int x) :: t) st σ := by
  intro H locs ls hP hS hL
  exact lv_iload_n hB.1 hB.2.1 hd rfl (hL.2.2.2 3 _ rfl) (k H locs ls hP hS hL)
theorem zw_lload3 {M : zM} {n pc : Nat} {X : zCx} {st : List Value} {σ : zSt} {a0 a1 a2 : Option Value} {t : List (Option Value)} {x : Int64} (hB : zB M n X) (hd : decode M.2.1 pc = .ok (.lload_n 3, 1)) (k : zW X (pc + 1) (a0 :: a1 :: a2 :: some (.long x) :: t) (.long x :: st) σ) : zW X pc (a0 :: a1 :: a2 :: some (.long x) :: t) st σ := by
  intro H locs ls hP hS hL
  exact lv_lload_n hB.1 hB.2.1 hd rfl (hL.2.2.2 3 _ rfl) (k H locs ls hP hS hL)
theorem zw_aload3 {M : zM} {n pc : Nat} {X : zCx} {st : List Value} {σ : zSt} {a0 a1 a2 : Option Value} {t : List (Option Value)} {x : Nat} (hB : zB M n X) (hd : decode M.2.1 pc = .ok (.aload_n 3, 1)) (k : zW X (pc + 1) (a0 :: a1 :: a2 :: some (.ref x) :: t) (.ref x :: st) σ) : zW X pc (a0 :: a1 :: a2 :: some (.ref x) :: t) st σ := by
  intro H locs ls hP hS hL
  exact lv_aload_n hB.1 hB.2.1 hd rfl (hL.2.2.2 3 _ rfl) (k H locs ls hP hS hL)
theorem zw_iload4 {M : zM} {n pc : Nat} {X : zCx} {st : List Value} {σ : zSt} {a0 a1 a2 a3 : Option Value} {t : List (Option Value)} {x : Int32} (hB : zB M n X) (hd : decode M.2.1 pc = .ok (.iload 4, 2)) (k : zW X (pc + 2) (a0 :: a1 :: a2 :: a3 :: some (.int x) :: t) (.int x :: st) σ) : zW X pc (a0 :: a1 :: a2 :: a3 :: some (.int x) :: t) st σ := by
  intro H locs ls hP hS hL
  exact lv_iload hB.1 hB.2.1 hd (hL.2.2.2 4 _ rfl) (k H locs ls hP hS hL)
theorem zw_lload4 {M : zM} {n pc : Nat} {X : zCx} {st : List Value} {σ : zSt} {a0 a1 a2 a3 : Option Value} {t : List (Option Value)} {x : Int64} (hB : zB M n X) (hd : decode M.2.1 pc = .ok (.lload 4, 2)) (k : zW X (pc + 2) (a0 :: a1 :: a2 :: a3 :: some (.long x) :: t) (.long x :: st) σ) : zW X pc (a0 :: a1 :: a2 :: a3 :: some (.long x) :: t) st σ := by
  intro H locs ls hP hS hL
  exact lv_lload hB.1 hB.2.1 hd (hL.2.2.2 4 _ rfl) (k H locs ls hP hS hL)
theorem zw_aload4 {M : zM} {n pc : Nat} {X : zCx} {st : List Value} {σ : zSt} {a0 a1 a2 a3 : Option Value} {t : List (Option Value)} {x : Nat} (hB : zB M n X) (hd : decode M.2.1 pc = .ok (.aload 4, 2)) (k : zW X (pc + 2) (a0 :: a1 :: a2 :: a3 :: some (.ref x) :: t) (.ref x :: st) σ) : zW X pc (a0 :: a1 :: a2 :: a3 :: some (.ref x) :: t) st σ := by
  intro H locs ls hP hS hL
  exact lv_aload hB.1 hB.2.1 hd (hL.2.2.2 4 _ rfl) (k H locs ls hP hS hL)
theorem zw_iload5 {M : zM} {n pc : Nat} {X : zCx} {st : List Value} {σ : zSt} {a0 a1 a2 a3 a4 : Option Value} {t : List (Option Value)} {x : Int32} (hB : zB M n X) (hd : decode M.2.1 pc = .ok (.iload 5, 2)) (k : zW X (pc + 2) (a0 :: a1 :: a2 :: a3 :: a4 :: some (.int x) :: t) (.int x :: st) σ) : zW X pc (a0 :: a1 :: a2 :: a3 :: a4 :: some (.int x) :: t) st σ := by
  intro H locs ls hP hS hL
  exact lv_iload hB.1 hB.2.1 hd (hL.2.2.2 5 _ rfl) (k H locs ls hP hS hL)
theorem zw_lload5 {M : zM} {n pc : Nat} {X : zCx} {st : List Value} {σ : zSt} {a0 a1 a2 a3 a4 : Option Value} {t : List (Option Value)} {x : Int64} (hB : zB M n X) (hd : decode M.2.1 pc = .ok (.lload 5, 2)) (k : zW X (pc + 2) (a0 :: a1 :: a2 :: a3 :: a4 :: some (.long x) :: t) (.long x :: st) σ) : zW X pc (a0 :: a1 :: a2 :: a3 :: a4 :: some (.long x) :: t) st σ := by
  intro H locs ls hP hS hL
  exact lv_lload hB.1 hB.2.1 hd (hL.2.2.2 5 _ rfl) (k H locs ls hP hS hL)
theorem zw_aload5 {M : zM} {n pc : Nat} {X : zCx} {st : List Value} {σ : zSt} {a0 a1 a2 a3 a4 : Option Value} {t : List (Option Value)} {x : Nat} (hB : zB M n X) (hd : decode M.2.1 pc = .ok (.aload 5, 2)) (k : zW X (pc + 2) (a0 :: a1 :: a2 :: a3 :: a4 :: some (.ref x) :: t) (.ref x :: st) σ) : zW X pc (a0 :: a1 :: a2 :: a3 :: a4 :: some (.ref x) :: t) st σ := by
  intro H locs ls hP hS hL
  exact lv_aload hB.1 hB.2.1 hd (hL.2.2.2 5 _ rfl) (k H locs ls hP hS hL)
theorem zw_iload6 {M : zM} {n pc : Nat} {X : zCx} {st : List Value} {σ : zSt} {a0 a1 a2 a3 a4 a5 : Option Value} {t : List (Option Value)} {x : Int32} (hB : zB M n X) (hd : decode M.2.1 pc = .ok (.iload 6, 2)) (k : zW X (pc + 2) (a0 :: a1 :: a2 :: a3 :: a4 :: a5 :: some (.int x) :: t) (.int x :: st) σ) : zW X pc (a0 :: a1 :: a2 :: a3 :: a4 :: a5 :: some (.int x) :: t) st σ := by
  intro H locs ls hP hS hL
  exact lv_iload hB.1 hB.2.1 hd (hL.2.2.2 6 _ rfl) (k H locs ls hP hS hL)
theorem zw_lload6 {M : zM} {n pc : Nat} {X : zCx} {st : List Value} {σ : zSt} {a0 a1 a2 a3 a4 a5 : Option Value} {t : List (Option Value)} {x : Int64} (hB : zB M n X) (hd : decode M.2.1 pc = .ok (.lload 6, 2)) (k : zW X (pc + 2) (a0 :: a1 :: a2 :: a3 :: a4 :: a5 :: some (.long x) :: t) (.long x :: st) σ) : zW X pc (a0 :: a1 :: a2 :: a3 :: a4 :: a5 :: some (.long x) :: t) st σ := by
  intro H locs ls hP hS hL
  exact lv_lload hB.1 hB.2.1 hd (hL.2.2.2 6 _ rfl) (k H locs ls hP hS hL)
theorem zw_aload6 {M : zM} {n pc : Nat} {X : zCx} {st : List Value} {σ : zSt} {a0 a1 a2 a3 a4 a5 : Option Value} {t : List (Option Value)} {x : Nat} (hB : zB M n X) (hd : decode M.2.1 pc = .ok (.aload 6, 2)) (k : zW X (pc + 2) (a0 :: a1 :: a2 :: a3 :: a4 :: a5 :: some (.ref x) :: t) (.ref x :: st) σ) : zW X pc (a0 :: a1 :: a2 :: a3 :: a4 :: a5 :: some (.ref x) :: t) st σ := by
  intro H locs ls hP hS hL
  exact lv_aload hB.1 hB.2.1 hd (hL.2.2.2 6 _ rfl) (k H locs ls hP hS hL)
theorem zw_iload7 {M : zM} {n pc : Nat} {X : zCx} {st : List Value} {σ : zSt} {a0 a1 a2 a3 a4 a5 a6 : Option Value} {t : List (Option Value)} {x : Int32} (hB : zB M n X) (hd : decode M.2.1 pc = .ok (.iload 7, 2)) (k : zW X (pc + 2) (a0 :: a1 :: a2 :: a3 :: a4 :: a5 :: a6 :: some (.int x) :: t) (.int x :: st) σ) : zW X pc (a0 :: a1 :: a2 :: a3 :: a4 :: a5 :: a6 :: some (.int x) :: t) st σ := by
  intro H locs ls hP hS hL
  exact lv_iload hB.1 hB.2.1 hd (hL.2.2.2 7 _ rfl) (k H locs ls hP hS hL)
theorem zw_lload7 {M : zM} {n pc : Nat} {X : zCx} {st : List Value} {σ : zSt} {a0 a1 a2 a3 a4 a5 a6 : Option Value} {t : List (Option Value)} {x : Int64} (hB : zB M n X) (hd : decode M.2.1 pc = .ok (.lload 7, 2)) (k : zW X (pc + 2) (a0 :: a1 :: a2 :: a3 :: a4 :: a5 :: a6 :: some (.long x) :: t) (.long x :: st) σ) : zW X pc (a0 :: a1 :: a2 :: a3 :: a4 :: a5 :: a6 :: some (.long x) :: t) st σ := by
  intro H locs ls hP hS hL
  exact lv_lload hB.1 hB.2.1 hd (hL.2.2.2 7 _ rfl) (k H locs ls hP hS hL)
theorem zw_aload7 {M : zM} {n pc : Nat} {X : zCx} {st : List Value} {σ : zSt} {a0 a1 a2 a3 a4 a5 a6 : Option Value} {t : List (Option Value)} {x : Nat} (hB : zB M n X) (hd : decode M.2.1 pc = .ok (.aload 7, 2)) (k : zW X (pc + 2) (a0 :: a1 :: a2 :: a3 :: a4 :: a5 :: a6 :: some (.ref x) :: t) (.ref x :: st) σ) : zW X pc (a0 :: a1 :: a2 :: a3 :: a4 :: a5 :: a6 :: some (.ref x) :: t) st σ := by
  intro H locs ls hP hS hL
  exact lv_aload hB.1 hB.2.1 hd (hL.2.2.2 7 _ rfl) (k H locs ls hP hS hL)
theorem zw_iload8 {M : zM} {n pc : Nat} {X : zCx} {st : List Value} {σ : zSt} {a0 a1 a2 a3 a4 a5 a6 a7 : Option Value} {t : List (Option Value)} {x : Int32} (hB : zB M n X) (hd : decode M.2.1 pc = .ok (.iload 8, 2)) (k : zW X (pc + 2) (a0 :: a1 :: a2 :: a3 :: a4 :: a5 :: a6 :: a7 :: some (.int x) :: t) (.int x :: st) σ) : zW X pc (a0 :: a1 :: a2 :: a3 :: a4 :: a5 :: a6 :: a7 :: some (.int x) :: t) st σ := by
  intro H locs ls hP hS hL
  exact lv_iload hB.1 hB.2.1 hd (hL.2.2.2 8 _ rfl) (k H locs ls hP hS hL)
theorem zw_lload8 {M : zM} {n pc : Nat} {X : zCx} {st : List Value} {σ : zSt} {a0 a1 a2 a3 a4 a5 a6 a7 : Option Value} {t : List (Option Value)} {x : Int64} (hB : zB M n X) (hd : decode M.2.1 pc = .ok (.lload 8, 2)) (k : zW X (pc + 2) (a0 :: a1 :: a2 :: a3 :: a4 :: a5 :: a6 :: a7 :: some (.long x) :: t) (.long x :: st) σ) : zW X pc (a0 :: a1 :: a2 :: a3 :: a4 :: a5 :: a6 :: a7 :: some (.long x) :: t) st σ := by
  intro H locs ls hP hS hL
  exact lv_lload hB.1 hB.2.1 hd (hL.2.2.2 8 _ rfl) (k H locs ls hP hS hL)
theorem zw_aload8 {M : zM} {n pc : Nat} {X : zCx} {st : List Value} {σ : zSt} {a0 a1 a2 a3 a4 a5 a6 a7 : Option Value} {t : List (Option Value)} {x : Nat} (hB : zB M n X) (hd : decode M.2.1 pc = .ok (.aload 8, 2)) (k : zW X (pc + 2) (a0 :: a1 :: a2 :: a3 :: a4 :: a5 :: a6 :: a7 :: some (.ref x) :: t) (.ref x :: st) σ) : zW X pc (a0 :: a1 :: a2 :: a3 :: a4 :: a5 :: a6 :: a7 :: some (.ref x) :: t) st σ := by
  intro H locs ls hP hS hL
  exact lv_aload hB.1 hB.2.1 hd (hL.2.2.2 8 _ rfl) (k H locs ls hP hS hL)
theorem zw_iload9 {M : zM} {n pc : Nat} {X : zCx} {st : List Value} {σ : zSt} {a0 a1 a2 a3 a4 a5 a6 a7 a8 : Option Value} {t : List (Option Value)} {x : Int32} (hB : zB M n X) (hd : decode M.2.1 pc = .ok (.iload 9, 2)) (k : zW X (pc + 2) (a0 :: a1 :: a2 :: a3 :: a4 :: a5 :: a6 :: a7 :: a8 :: some (.int x) :: t) (.int x :: st) σ) : zW X pc (a0 :: a1 :: a2 :: a3 :: a4 :: a5 :: a6 :: a7 :: a8 :: some (.int x) :: t) st σ := by
  intro H locs ls hP hS hL
  exact lv_iload hB.1 hB.2.1 hd (hL.2.2.2 9 _ rfl) (k H locs ls hP hS hL)
theorem zw_lload9 {M : zM} {n pc : Nat} {X : zCx} {st : List Value} {σ : zSt} {a0 a1 a2 a3 a4 a5 a6 a7 a8 : Option Value} {t : List (Option Value)} {x : Int64} (hB : zB M n X) (hd : decode M.2.1 pc = .ok (.lload 9, 2)) (k : zW X (pc + 2) (a0 :: a1 :: a2 :: a3 :: a4 :: a5 :: a6 :: a7 :: a8 :: some (.long x) :: t) (.long x :: st) σ) : zW X pc (a0 :: a1 :: a2 :: a3 :: a4 :: a5 :: a6 :: a7 :: a8 :: some (.long x) :: t) st σ := by
  intro H locs ls hP hS hL
  exact lv_lload hB.1 hB.2.1 hd (hL.2.2.2 9 _ rfl) (k H locs ls hP hS hL)
theorem zw_aload9 {M : zM} {n pc : Nat} {X : zCx} {st : List Value} {σ : zSt} {a0 a1 a2 a3 a4 a5 a6 a7 a8 : Option Value} {t : List (Option Value)} {x : Nat} (hB : zB M n X) (hd : decode M.2.1 pc = .ok (.aload 9, 2)) (k : zW X (pc + 2) (a0 :: a1 :: a2 :: a3 :: a4 :: a5 :: a6 :: a7 :: a8 :: some (.ref x) :: t) (.ref x :: st) σ) : zW X pc (a0 :: a1 :: a2 :: a3 :: a4 :: a5 :: a6 :: a7 :: a8 :: some (.ref x) :: t) st σ := by
  intro H locs ls hP hS hL
  exact lv_aload hB.1 hB.2.1 hd (hL.2.2.2 9 _ rfl) (k H locs ls hP hS hL)
theorem zw_iload10 {M : zM} {n pc : Nat} {X : zCx} {st : List Value} {σ : zSt} {a0 a1 a2 a3 a4 a5 a6 a7 a8 a9 : Option Value} {t : List (Option Value)} {x : Int32} (hB : zB M n X) (hd : decode M.2.1 pc = .ok (.iload 10, 2)) (k : zW X (pc + 2) (a0 :: a1 :: a2 :: a3 :: a4 :: a5 :: a6 :: a7 :: a8 :: a9 :: some (.int x) :: t) (.int x :: st) σ) : zW X pc (a0 :: a1 :: a2 :: a3 :: a4 :: a5 :: a6 :: a7 :: a8 :: a9 :: some (.int x) :: t) st σ := by
  intro H locs ls hP hS hL
  exact lv_iload hB.1 hB.2.1 hd (hL.2.2.2 10 _ rfl) (k H locs ls hP hS hL)
theorem zw_lload10 {M : zM} {n pc : Nat} {X : zCx} {st : List Value} {σ : zSt} {a0 a1 a2 a3 a4 a5 a6 a7 a8 a9 : Option Value} {t : List (Option Value)} {x : Int64} (hB : zB M n X) (hd : decode M.2.1 pc = .ok (.lload 10, 2)) (k : zW X (pc + 2) (a0 :: a1 :: a2 :: a3 :: a4 :: a5 :: a6 :: a7 :: a8 :: a9 :: some (.long x) :: t) (.long x :: st) σ) : zW X pc (a0 :: a1 :: a2 :: a3 :: a4 :: a5 :: a6 :: a7 :: a8 :: a9 :: some (.long x) :: t) st σ := by
  intro H locs ls hP hS hL
  exact lv_lload hB.1 hB.2.1 hd (hL.2.2.2 10 _ rfl) (k H locs ls hP hS hL)
theorem zw_aload10 {M : zM} {n pc : Nat} {X : zCx} {st : List Value} {σ : zSt} {a0 a1 a2 a3 a4 a5 a6 a7 a8 a9 : Option Value} {t : List (Option Value)} {x : Nat} (hB : zB M n X) (hd : decode M.2.1 pc = .ok (.aload 10, 2)) (k : zW X (pc + 2) (a0 :: a1 :: a2 :: a3 :: a4 :: a5 :: a6 :: a7 :: a8 :: a9 :: some (.ref x) :: t) (.ref x :: st) σ) : zW X pc (a0 :: a1 :: a2 :: a3 :: a4 :: a5 :: a6 :: a7 :: a8 :: a9 :: some (.ref x) :: t) st σ := by
  intro H locs ls hP hS hL
  exact lv_aload hB.1 hB.2.1 hd (hL.2.2.2 10 _ rfl) (k H locs ls hP hS hL)
theorem zw_iload11 {M : zM} {n pc : Nat} {X : zCx} {st : List Value} {σ : zSt} {a0 a1 a2 a3 a4 a5 a6 a7 a8 a9 a10 : Option Value} {t : List (Option Value)} {x : Int32} (hB : zB M n X) (hd : decode M.2.1 pc = .ok (.iload 11, 2)) (k : zW X (pc + 2) (a0 :: a1 :: a2 :: a3 :: a4 :: a5 :: a6 :: a7 :: a8 :: a9 :: a10 :: some (.int x) :: t) (.int x :: st) σ) : zW X pc (a0 :: a1 :: a2 :: a3 :: a4 :: a5 :: a6 :: a7 :: a8 :: a9 :: a10 :: some (.int x) :: t) st σ := by
  intro H locs ls hP hS hL
  exact lv_iload hB.1 hB.2.1 hd (hL.2.2.2 11 _ rfl) (k H locs ls hP hS hL)
theorem zw_lload11 {M : zM} {n pc : Nat} {X : zCx} {st : List Value} {σ : zSt} {a0 a1 a2 a3 a4 a5 a6 a7 a8 a9 a10 : Option Value} {t : List (Option Value)} {x : Int64} (hB : zB M n X) (hd : decode M.2.1 pc = .ok (.lload 11, 2)) (k : zW X (pc + 2) (a0 :: a1 :: a2 :: a3 :: a4 :: a5 :: a6 :: a7 :: a8 :: a9 :: a10 :: some (.long x) :: t) (.long x :: st) σ) : zW X pc (a0 :: a1 :: a2 :: a3 :: a4 :: a5 :: a6 :: a7 :: a8 :: a9 :: a10 :: some (.long x) :: t) st σ := by
  intro H locs ls hP hS hL
  exact lv_lload hB.1 hB.2.1 hd (hL.2.2.2 11 _ rfl) (k H locs ls hP hS hL)
theorem zw_aload11 {M : zM} {n pc : Nat} {X : zCx} {st : List Value} {σ : zSt} {a0 a1 a2 a3 a4 a5 a6 a7 a8 a9 a10 : Option Value} {t : List (Option Value)} {x : Nat} (hB : zB M n X) (hd : decode M.2.1 pc = .ok (.aload 11, 2)) (k : zW X (pc + 2) (a0 :: a1 :: a2 :: a3 :: a4 :: a5 :: a6 :: a7 :: a8 :: a9 :: a10 :: some (.ref x) :: t) (.ref x :: st) σ) : zW X pc (a0 :: a1 :: a2 :: a3 :: a4 :: a5 :: a6 :: a7 :: a8 :: a9 :: a10 :: some (.ref x) :: t) st σ := by
  intro H locs ls hP hS hL
  exact lv_aload hB.1 hB.2.1 hd (hL.2.2.2 11 _ rfl) (k H locs ls hP hS hL)
theorem zw_iload12 {M : zM} {n pc : Nat} {X : zCx} {st : List Value} {σ : zSt} {a0 a1 a2 a3 a4 a5 a6 a7 a8 a9 a10 a11 : Option Value} {t : List (Option Value)} {x : Int32} (hB : zB M n X) (hd : decode M.2.1 pc = .ok (.iload 12, 2)) (k : zW X (pc + 2) (a0 :: a1 :: a2 :: a3 :: a4 :: a5 :: a6 :: a7 :: a8 :: a9 :: a10 :: a11 :: some (.int x) :: t) (.int x :: st) σ) : zW X pc (a0 :: a1 :: a2 :: a3 :: a4 :: a5 :: a6 :: a7 :: a8 :: a9 :: a10 :: a11 :: some (.int x) :: t) st σ := by
  intro H locs ls hP hS hL
  exact lv_iload hB.1 hB.2.1 hd (hL.2.2.2 12 _ rfl) (k H locs ls hP hS hL)
theorem zw_lload12 {M : zM} {n pc : Nat} {X : zCx} {st : List Value} {σ : zSt} {a0 a1 a2 a3 a4 a5 a6 a7 a8 a9 a10 a11 : Option Value} {t : List (Option Value)} {x : Int64} (hB : zB M n X) (hd : decode M.2.1 pc = .ok (.lload 12, 2)) (k : zW X (pc + 2) (a0 :: a1 :: a2 :: a3 :: a4 :: a5 :: a6 :: a7 :: a8 :: a9 :: a10 :: a11 :: some (.long x) :: t) (.long x :: st) σ) : zW X pc (a0 :: a1 :: a2 :: a3 :: a4 :: a5 :: a6 :: a7 :: a8 :: a9 :: a10 :: a11 :: some (.long x) :: t) st σ := by
  intro H locs ls hP hS hL
  exact lv_lload hB.1 hB.2.1 hd (hL.2.2.2 12 _ rfl) (k H locs ls hP hS hL)
theorem zw_aload12 {M : zM} {n pc : Nat} {X : zCx} {st : List Value} {σ : zSt} {a0 a1 a2 a3 a4 a5 a6 a7 a8 a9 a10 a11 : Option Value} {t : List (Option Value)} {x : Nat} (hB : zB M n X) (hd : decode M.2.1 pc = .ok (.aload 12, 2)) (k : zW X (pc + 2) (a0 :: a1 :: a2 :: a3 :: a4 :: a5 :: a6 :: a7 :: a8 :: a9 :: a10 :: a11 :: some (.ref x) :: t) (.ref x :: st) σ) : zW X pc (a0 :: a1 :: a2 :: a3 :: a4 :: a5 :: a6 :: a7 :: a8 :: a9 :: a10 :: a11 :: some (.ref x) :: t) st σ := by
  intro H locs ls hP hS hL
  exact lv_aload hB.1 hB.2.1 hd (hL.2.2.2 12 _ rfl) (k H locs ls hP hS hL)
theorem zw_iload13 {M : zM} {n pc : Nat} {X : zCx} {st : List Value} {σ : zSt} {a0 a1 a2 a3 a4 a5 a6 a7 a8 a9 a10 a11 a12 : Option Value} {t : List (Option Value)} {x : Int32} (hB : zB M n X) (hd : decode M.2.1 pc = .ok (.iload 13, 2)) (k : zW X (pc + 2) (a0 :: a1 :: a2 :: a3 :: a4 :: a5 :: a6 :: a7 :: a8 :: a9 :: a10 :: a11 :: a12 :: some (.int x) :: t) (.int x :: st) σ) : zW X pc (a0 :: a1 :: a2 :: a3 :: a4 :: a5 :: a6 :: a7 :: a8 :: a9 :: a10 :: a11 :: a12 :: some (.int x) :: t) st σ := by
  intro H locs ls hP hS hL
  exact lv_iload hB.1 hB.2.1 hd (hL.2.2.2 13 _ rfl) (k H locs ls hP hS hL)
theorem zw_lload13 {M : zM} {n pc : Nat} {X : zCx} {st : List Value} {σ : zSt} {a0 a1 a2 a3 a4 a5 a6 a7 a8 a9 a10 a11 a12 : Option Value} {t : List (Option Value)} {x : Int64} (hB : zB M n X) (hd : decode M.2.1 pc = .ok (.lload 13, 2)) (k : zW X (pc + 2) (a0 :: a1 :: a2 :: a3 :: a4 :: a5 :: a6 :: a7 :: a8 :: a9 :: a10 :: a11 :: a12 :: some (.long x) :: t) (.long x :: st) σ) : zW X pc (a0 :: a1 :: a2 :: a3 :: a4 :: a5 :: a6 :: a7 :: a8 :: a9 :: a10 :: a11 :: a12 :: some (.long x) :: t) st σ := by
  intro H locs ls hP hS hL
  exact lv_lload hB.1 hB.2.1 hd (hL.2.2.2 13 _ rfl) (k H locs ls hP hS hL)
theorem zw_aload13 {M : zM} {n pc : Nat} {X : zCx} {st : List Value} {σ : zSt} {a0 a1 a2 a3 a4 a5 a6 a7 a8 a9 a10 a11 a12 : Option Value} {t : List (Option Value)} {x : Nat} (hB : zB M n X) (hd : decode M.2.1 pc = .ok (.aload 13, 2)) (k : zW X (pc + 2) (a0 :: a1 :: a2 :: a3 :: a4 :: a5 :: a6 :: a7 :: a8 :: a9 :: a10 :: a11 :: a12 :: some (.ref x) :: t) (.ref x :: st) σ) : zW X pc (a0 :: a1 :: a2 :: a3 :: a4 :: a5 :: a6 :: a7 :: a8 :: a9 :: a10 :: a11 :: a12 :: some (.ref x) :: t) st σ := by
  intro H locs ls hP hS hL
  exact lv_aload hB.1 hB.2.1 hd (hL.2.2.2 13 _ rfl) (k H locs ls hP hS hL)
theorem zw_iload14 {M : zM} {n pc : Nat} {X : zCx} {st : List Value} {σ : zSt} {a0 a1 a2 a3 a4 a5 a6 a7 a8 a9 a10 a11 a12 a13 : Option Value} {t : List (Option Value)} {x : Int32} (hB : zB M n X) (hd : decode M.2.1 pc = .ok (.iload 14, 2)) (k : zW X (pc + 2) (a0 :: a1 :: a2 :: a3 :: a4 :: a5 :: a6 :: a7 :: a8 :: a9 :: a10 :: a11 :: a12 :: a13 :: some (.int x) :: t) (.int x :: st) σ) : zW X pc (a0 :: a1 :: a2 :: a3 :: a4 :: a5 :: a6 :: a7 :: a8 :: a9 :: a10 :: a11 :: a12 :: a13 :: some (.int x) :: t) st σ := by
  intro H locs ls hP hS hL
  exact lv_iload hB.1 hB.2.1 hd (hL.2.2.2 14 _ rfl) (k H locs ls hP hS hL)
theorem zw_lload14 {M : zM} {n pc : Nat} {X : zCx} {st : List Value} {σ : zSt} {a0 a1 a2 a3 a4 a5 a6 a7 a8 a9 a10 a11 a12 a13 : Option Value} {t : List (Option Value)} {x : Int64} (hB : zB M n X) (hd : decode M.2.1 pc = .ok (.lload 14, 2)) (k : zW X (pc + 2) (a0 :: a1 :: a2 :: a3 :: a4 :: a5 :: a6 :: a7 :: a8 :: a9 :: a10 :: a11 :: a12 :: a13 :: some (.long x) :: t) (.long x :: st) σ) : zW X pc (a0 :: a1 :: a2 :: a3 :: a4 :: a5 :: a6 :: a7 :: a8 :: a9 :: a10 :: a11 :: a12 :: a13 :: some (.long x) :: t) st σ := by
  intro H locs ls hP hS hL
  exact lv_lload hB.1 hB.2.1 hd (hL.2.2.2 14 _ rfl) (k H locs ls hP hS hL)
theorem zw_aload14 {M : zM} {n pc : Nat} {X : zCx} {st : List Value} {σ : zSt} {a0 a1 a2 a3 a4 a5 a6 a7 a8 a9 a10 a11 a12 a13 : Option Value} {t : List (Option Value)} {x : Nat} (hB : zB M n X) (hd : decode M.2.1 pc = .ok (.aload 14, 2)) (k : zW X (pc + 2) (a0 :: a1 :: a2 :: a3 :: a4 :: a5 :: a6 :: a7 :: a8 :: a9 :: a10 :: a11 :: a12 :: a13 :: some (.ref x) :: t) (.ref x :: st) σ) : zW X pc (a0 :: a1 :: a2 :: a3 :: a4 :: a5 :: a6 :: a7 :: a8 :: a9 :: a10 :: a11 :: a12 :: a13 :: some (.ref x) :: t) st σ := by
  intro H locs ls hP hS hL
  exact lv_aload hB.1 hB.2.1 hd (hL.2.2.2 14 _ rfl) (k H locs ls hP hS hL)
theorem zw_iload15 {M : zM} {n pc : Nat} {X : zCx} {st : List Value} {σ : zSt} {a0 a1 a2 a3 a4 a5 a6 a7 a8 a9 a10 a11 a12 a13 a14 : Option Value} {t : List (Option Value)} {x : Int32} (hB : zB M n X) (hd : decode M.2.1 pc = .ok (.iload 15, 2)) (k : zW X (pc + 2) (a0 :: a1 :: a2 :: a3 :: a4 :: a5 :: a6 :: a7 :: a8 :: a9 :: a10 :: a11 :: a12 :: a13 :: a14 :: some (.int x) :: t) (.int x :: st) σ) : zW X pc (a0 :: a1 :: a2 :: a3 :: a4 :: a5 :: a6 :: a7 :: a8 :: a9 :: a10 :: a11 :: a12 :: a13 :: a14 :: some (.int x) :: t) st σ := by
  intro H locs ls hP hS hL
  exact lv_iload hB.1 hB.2.1 hd (hL.2.2.2 15 _ rfl) (k H locs ls hP hS hL)
theorem zw_lload15 {M : zM} {n pc : Nat} {X : zCx} {st : List Value} {σ : zSt} {a0 a1 a2 a3 a4 a5 a6 a7 a8 a9 a10 a11 a12 a13 a14 : Option Value} {t : List (Option Value)} {x : Int64} (hB : zB M n X) (hd : decode M.2.1 pc = .ok (.lload 15, 2)) (k : zW X (pc + 2) (a0 :: a1 :: a2 :: a3 :: a4 :: a5 :: a6 :: a7 :: a8 :: a9 :: a10 :: a11 :: a12 :: a13 :: a14 :: some (.long x) :: t) (.long x :: st) σ) : zW X pc (a0 :: a1 :: a2 :: a3 :: a4 :: a5 :: a6 :: a7 :: a8 :: a9 :: a10 :: a11 :: a12 :: a13 :: a14 :: some (.long x) :: t) st σ := by
  intro H locs ls hP hS hL
  exact lv_lload hB.1 hB.2.1 hd (hL.2.2.2 15 _ rfl) (k H locs ls hP hS hL)
theorem zw_aload15 {M : zM} {n pc : Nat} {X : zCx} {st : List Value} {σ : zSt} {a0 a1 a2 a3 a4 a5 a6 a7 a8 a9 a10 a11 a12 a13 a14 : Option Value} {t : List (Option Value)} {x : Nat} (hB : zB M n X) (hd : decode M.2.1 pc = .ok (.aload 15, 2)) (k : zW X (pc + 2) (a0 :: a1 :: a2 :: a3 :: a4 :: a5 :: a6 :: a7 :: a8 :: a9 :: a10 :: a11 :: a12 :: a13 :: a14 :: some (.ref x) :: t) (.ref x :: st) σ) : zW X pc (a0 :: a1 :: a2 :: a3 :: a4 :: a5 :: a6 :: a7 :: a8 :: a9 :: a10 :: a11 :: a12 :: a13 :: a14 :: some (.ref x) :: t) st σ := by
  intro H locs ls hP hS hL
  exact lv_aload hB.1 hB.2.1 hd (hL.2.2.2 15 _ rfl) (k H locs ls hP hS hL)
/-- the locals as the kit's rows want them -/
def zal (X : zCx) (lv : List (Option Value)) : List (Nat × Value) := (List.range lv.length).filterMap (fun j => match lv[j]? with | some (some v) => some (j, zV (zE X) v) | _ => none)
theorem zal_in {X : zCx} {lv : List (Option Value)} {j : Nat} {w : Value} : (j, w) ∈ zal X lv ↔ ∃ v, lv[j]? = some (some v) ∧ w = zV (zE X) v := by
  constructor
  · intro h
    obtain ⟨i, -, h2⟩ := List.mem_filterMap.mp h
    cases hi : lv[i]? with
    | none => rw [hi] at h2; simp at h2
    | some o =>
      cases o with
      | none => rw [hi] at h2; simp at h2
      | some v =>
        rw [hi] at h2
        simp at h2
        obtain ⟨rfl, rfl⟩ := h2
        exact ⟨v, hi, rfl⟩
  · rintro ⟨v, h1, rfl⟩
    refine List.mem_filterMap.mpr ⟨j, List.mem_range.mpr (List.getElem?_eq_some_iff.mp h1).1, ?_⟩
    rw [h1]
theorem zLoc.has {X : zCx} {lv : List (Option Value)} {ls : Array Slot} (h : zLoc X lv ls) : lv_has ls (zco X).maxLocals (zal X lv) :=
  ⟨h.1, h.2.2.1, fun q hq => by
    obtain ⟨v, h1, h2⟩ := zal_in.mp (show (q.1, q.2) ∈ zal X lv from hq)
    rw [h2]
    exact h.2.2.2 _ _ h1⟩
/-- behind a store of one word at i: the new locals lv' say no more than the store leaves -/
theorem zLoc.put1 {X : zCx} {lv lv' : List (Option Value)} {ls ls' : Array Slot} {i : Nat} {v : Value} (h : zLoc X lv ls) (hlen : lv'.length = lv.length)
    (hs : ∀ j w, lv'[j]? = some (some w) → (j = i ∧ w = v) ∨ (j ≠ i ∧ lv[j]? = some (some w) ∧ ¬ (j + 1 = i ∧ w.category = 2)))
    (h' : lv_has ls' (zco X).maxLocals ((i, zV (zE X) v) :: (zal X lv).filter (fun q => !(q.1 == i) && !(q.1 + 1 == i && q.2.category == 2)))) : zLoc X lv' ls' := by
  refine ⟨h'.1, by rw [hlen, h.2.1, h.1, h'.1], h'.2.1, fun j w hj => ?_⟩
  rcases hs j w hj with ⟨rfl, rfl⟩ | ⟨h1, h2, h3⟩
  · exact h'.2.2 _ List.mem_cons_self
  · refine h'.2.2 (j, zV (zE X) w) (List.mem_cons_of_mem _ (List.mem_filter.mpr ⟨zal_in.mpr ⟨w, h2, rfl⟩, ?_⟩))
    simp only [zV_cat, Bool.and_eq_true, Bool.not_eq_true', beq_eq_false_iff_ne, Bool.and_eq_false_iff, ne_eq]
    refine ⟨h1, ?_⟩
    by_cases q : j + 1 = i
    · exact Or.inr (fun z => h3 ⟨q, z⟩)
    · exact Or.inl q
theorem zLoc.put2 {X : zCx} {lv lv' : List (Option Value)} {ls ls' : Array Slot} {i : Nat} {v : Value} (h : zLoc X lv ls) (hlen : lv'.length = lv.length)
    (hs : ∀ j w, lv'[j]? = some (some w) → (j = i ∧ w = v) ∨ (j ≠ i ∧ j ≠ i + 1 ∧ lv[j]? = some (some w) ∧ ¬ (j + 1 = i ∧ w.category = 2)))
    (h' : lv_has ls' (zco X).maxLocals ((i, zV (zE X) v) :: (zal X lv).filter (fun q => !(q.1 == i) && (!(q.1 == i + 1) && !(q.1 + 1 == i && q.2.category == 2))))) : zLoc X lv' ls' := by
  refine ⟨h'.1, by rw [hlen, h.2.1, h.1, h'.1], h'.2.1, fun j w hj => ?_⟩
  rcases hs j w hj with ⟨rfl, rfl⟩ | ⟨h1, h1', h2, h3⟩
  · exact h'.2.2 _ List.mem_cons_self
  · refine h'.2.2 (j, zV (zE X) w) (List.mem_cons_of_mem _ (List.mem_filter.mpr ⟨zal_in.mpr ⟨w, h2, rfl⟩, ?_⟩))
    simp only [zV_cat, Bool.and_eq_true, Bool.not_eq_true', beq_eq_false_iff_ne, Bool.and_eq_false_iff, ne_eq]
    refine ⟨h1, h1', ?_⟩
    by_cases q : j + 1 = i
    · exact Or.inr (fun z => h3 ⟨q, z⟩)
    · exact Or.inl q
/-- not the first half of a long -/
def zc1 : Option Value → Bool
  | some (.long _) => false
  | some (.double _) => false
  | _ => true
theorem zc1_cat {o : Option Value} {w : Value} (h : zc1 o = true) (e : o = some w) : ¬ w.category = 2 := by
  subst e
  cases w <;> simp [zc1, Value.category] at h ⊢
theorem zput1_ok {lv : List (Option Value)} {i : Nat} {v : Value} (hi : i < lv.length) (hp : i = 0 ∨ ∃ o, lv[i - 1]? = some o ∧ zc1 o = true) : ∀ j w, (lv.set i (some v))[j]? = some (some w) → (j = i ∧ w = v) ∨ (j ≠ i ∧ lv[j]? = some (some w) ∧ ¬ (j + 1 = i ∧ w.category = 2)) := by
  intro j w h
  rw [List.getElem?_set] at h
  by_cases hj : i = j
  · subst hj
    rw [if_pos rfl, if_pos hi] at h
    simp at h
    exact Or.inl ⟨rfl, h.symm⟩
  · rw [if_neg hj] at h
    refine Or.inr ⟨fun e => hj e.symm, h, ?_⟩
    rintro ⟨e1, e2⟩
    rcases hp with q | ⟨o, q1, q2⟩
    · omega
    · have e3 : i - 1 = j := by omega
      rw [e3, h] at q1
      exact zc1_cat q2 (Option.some.inj q1).symm e2
theorem zput2_ok {lv : List (Option Value)} {i : Nat} {v : Value} (hi : i + 1 < lv.length) (hp : i = 0 ∨ ∃ o, lv[i - 1]? = some o ∧ zc1 o = true) : ∀ j w, ((lv.set i (some v)).set (i + 1) none)[j]? = some (some w) → (j = i ∧ w = v) ∨ (j ≠ i ∧ j ≠ i + 1 ∧ lv[j]? = some (some w) ∧ ¬ (j + 1 = i ∧ w.category = 2)) := by
  intro j w h
  rw [List.getElem?_set] at h
  by_cases hj1 : i + 1 = j
  · rw [if_pos hj1] at h
    split at h <;> simp at h
  · rw [if_neg hj1] at h
    rcases zput1_ok (by omega) hp j w h with q | ⟨q1, q2, q3⟩
    · exact Or.inl q
    · exact Or.inr ⟨q1, fun e => hj1 e.symm, q2, q3⟩
theorem zw_istore0 {M : zM} {n pc : Nat} {X : zCx} {st : List Value} {σ : zSt} {a0 : Option Value} {t : List (Option Value)} {x : Int32} (hB : zB M n X) (hd : decode M.2.1 pc = .ok (.istore_n 0, 1)) (k : zW X (pc + 1) (some (.int x) :: t) st σ) : zW X pc (a0 :: t) (.int x :: st) σ := by
  intro H locs ls hP hS hL
  have hi : 0 < (a0 :: t).length := by simp
  exact lv_istore_n hB.1 hB.2.1 hd rfl hL.has (by rw [← hL.1, ← hL.2.1]; exact hi) rfl (fun ls' h' => k H locs ls' hP hS (hL.put1 (v := .int x) rfl (zput1_ok hi (Or.inl rfl)) h'))
theorem zw_astore0 {M : zM} {n pc : Nat} {X : zCx} {st : List Value} {σ : zSt} {a0 : Option Value} {t : List (Option Value)} {x : Nat} (hB : zB M n X) (hd : decode M.2.1 pc = .ok (.astore_n 0, 1)) (k : zW X (pc + 1) (some (.ref x) :: t) st σ) : zW X pc (a0 :: t) (.ref x :: st) σ := by
  intro H locs ls hP hS hL
  have hi : 0 < (a0 :: t).length := by simp
  exact lv_astore_n hB.1 hB.2.1 hd rfl hL.has (by rw [← hL.1, ← hL.2.1]; exact hi) rfl (fun ls' h' => k H locs ls' hP hS (hL.put1 (v := .ref x) rfl (zput1_ok hi (Or.inl rfl)) h'))
theorem zw_lstore0 {M : zM} {n pc : Nat} {X : zCx} {st : List Value} {σ : zSt} {a0 a1 : Option Value} {t : List (Option Value)} {x : Int64} (hB : zB M n X) (hd : decode M.2.1 pc = .ok (.lstore_n 0, 1)) (k : zW X (pc + 1) (some (.long x) :: none :: t) st σ) : zW X pc (a0 :: a1 :: t) (.long x :: st) σ := by
  intro H locs ls hP hS hL
  have hi : 0 + 1 < (a0 :: a1 :: t).length := by simp
  exact lv_lstore_n hB.1 hB.2.1 hd rfl hL.has (by rw [← hL.1, ← hL.2.1]; exact hi) rfl (fun ls' h' => k H locs ls' hP hS (hL.put2 (v := .long x) rfl (zput2_ok hi (Or.inl rfl)) h'))
theorem zw_iinc0 {M : zM} {n pc : Nat} {X : zCx} {st : List Value} {σ : zSt} {t : List (Option Value)} {v : Int} {x y : Int32} (hB : zB M n X) (hd : decode M.2.1 pc = .ok (.iinc 0 v, 3)) (hv : x + Int32.ofInt v = y) (k : zW X (pc + 3) (some (.int y) :: t) st σ) : zW X pc (some (.int x) :: t) st σ := by
  intro H locs ls hP hS hL
  have hi : 0 < (some (.int x) :: t).length := by simp
  obtain ⟨q, hq⟩ := List.getElem?_of_mem (zal_in (X := X) (lv := some (.int x) :: t) (j := 0) (w := .int x) |>.mpr ⟨.int x, rfl, rfl⟩)
  exact lv_iinc hB.1 hB.2.1 hd hL.has hq hv (by rw [← hL.1, ← hL.2.1]; exact hi) rfl (fun ls' h' => k H locs ls' hP hS (hL.put1 (v := .int y) rfl (zput1_ok hi (Or.inl rfl)) h'))
theorem zw_istore1 {M : zM} {n pc : Nat} {X : zCx} {st : List Value} {σ : zSt} {a0 a1 : Option Value} {t : List (Option Value)} {x : Int32} (hB : zB M n X) (hd : decode M.2.1 pc = .ok (.istore_n 1, 1)) (hc : zc1 a0 = true) (k : zW X (pc + 1) (a0 :: some (.int x) :: t) st σ) : zW X pc (a0 :: a1 :: t) (.int x :: st) σ := by
  intro H locs ls hP hS hL
  have hi : 1 < (a0 :: a1 :: t).length := by simp
  exact lv_istore_n hB.1 hB.2.1 hd rfl hL.has (by rw [← hL.1, ← hL.2.1]; exact hi) rfl (fun ls' h' => k H locs ls' hP hS (hL.put1 (v := .int x) rfl (zput1_ok hi (Or.inr ⟨_, rfl, hc⟩)) h'))
theorem zw_astore1 {M : zM} {n pc : Nat} {X : zCx} {st : List Value} {σ : zSt} {a0 a1 : Option Value} {t : List (Option Value)} {x : Nat} (hB : zB M n X) (hd : decode M.2.1 pc = .ok (.astore_n 1, 1)) (hc : zc1 a0 = true) (k : zW X (pc + 1) (a0 :: some (.ref x) :: t) st σ) : zW X pc (a0 :: a1 :: t) (.ref x :: st) σ := by
  intro H locs ls hP hS hL
  have hi : 1 < (a0 :: a1 :: t).length := by simp
  exact lv_astore_n hB.1 hB.2.1 hd rfl hL.has (by rw [← hL.1, ← hL.2.1]; exact hi) rfl (fun ls' h' => k H locs ls' hP hS (hL.put1 (v := .ref x) rfl (zput1_ok hi (Or.inr ⟨_, rfl, hc⟩)) h'))
theorem zw_lstore1 {M : zM} {n pc : Nat} {X : zCx} {st : List Value} {σ : zSt} {a0 a1 a2 : Option Value} {t : List (Option Value)} {x : Int64} (hB : zB M n X) (hd : decode M.2.1 pc = .ok (.lstore_n 1, 1)) (hc : zc1 a0 = true) (k : zW X (pc + 1) (a0 :: some (.long x) :: none :: t) st σ) : zW X pc (a0 :: a1 :: a2 :: t) (.long x :: st) σ := by
  intro H locs ls hP hS hL
  have hi : 1 + 1 < (a0 :: a1 :: a2 :: t).length := by simp
  exact lv_lstore_n hB.1 hB.2.1 hd rfl hL.has (by rw [← hL.1, ← hL.2.1]; exact hi) rfl (fun ls' h' => k H locs ls' hP hS (hL.put2 (v := .long x) rfl (zput2_ok hi (Or.inr ⟨_, rfl, hc⟩)) h'))
theorem zw_iinc1 {M : zM} {n pc : Nat} {X : zCx} {st : List Value} {σ : zSt} {a0 : Option Value} {t : List (Option Value)} {v : Int} {x y : Int32} (hB : zB M n X) (hd : decode M.2.1 pc = .ok (.iinc 1 v, 3)) (hv : x + Int32.ofInt v = y) (hc : zc1 a0 = true) (k : zW X (pc + 3) (a0 :: some (.int y) :: t) st σ) : zW X pc (a0 :: some (.int x) :: t) st σ := by
  intro H locs ls hP hS hL
  have hi : 1 < (a0 :: some (.int x) :: t).length := by simp
  obtain ⟨q, hq⟩ := List.getElem?_of_mem (zal_in (X := X) (lv := a0 :: some (.int x) :: t) (j := 1) (w := .int x) |>.mpr ⟨.int x, rfl, rfl⟩)
  exact lv_iinc hB.1 hB.2.1 hd hL.has hq hv (by rw [← hL.1, ← hL.2.1]; exact hi) rfl (fun ls' h' => k H locs ls' hP hS (hL.put1 (v := .int y) rfl (zput1_ok hi (Or.inr ⟨_, rfl, hc⟩)) h'))
theorem zw_istore2 {M : zM} {n pc : Nat} {X : zCx} {st : List Value} {σ : zSt} {a0 a1 a2 : Option Value} {t : List (Option Value)} {x : Int32} (hB : zB M n X) (hd : decode M.2.1 pc = .ok (.istore_n 2, 1)) (hc : zc1 a1 = true) (k : zW X (pc + 1) (a0 :: a1 :: some (.int x) :: t) st σ) : zW X pc (a0 :: a1 :: a2 :: t) (.int x :: st) σ := by
  intro H locs ls hP hS hL
  have hi : 2 < (a0 :: a1 :: a2 :: t).length := by simp
  exact lv_istore_n hB.1 hB.2.1 hd rfl hL.has (by rw [← hL.1, ← hL.2.1]; exact hi) rfl (fun ls' h' => k H locs ls' hP hS (hL.put1 (v := .int x) rfl (zput1_ok hi (Or.inr ⟨_, rfl, hc⟩)) h'))
theorem zw_astore2 {M : zM} {n pc : Nat} {X : zCx} {st : List Value} {σ : zSt} {a0 a1 a2 : Option Value} {t : List (Option Value)} {x : Nat} (hB : zB M n X) (hd : decode M.2.1 pc = .ok (.astore_n 2, 1)) (hc : zc1 a1 = true) (k : zW X (pc + 1) (a0 :: a1 :: some (.ref x) :: t) st σ) : zW X pc (a0 :: a1 :: a2 :: t) (.ref x :: st) σ := by
  intro H locs ls hP hS hL
  have hi : 2 < (a0 :: a1 :: a2 :: t).length := by simp
  exact lv_astore_n hB.1 hB.2.1 hd rfl hL.has (by rw [← hL.1, ← hL.2.1]; exact hi) rfl (fun ls' h' => k H locs ls' hP hS (hL.put1 (v := .ref x) rfl (zput1_ok hi (Or.inr ⟨_, rfl, hc⟩)) h'))
theorem zw_lstore2 {M : zM} {n pc : Nat} {X : zCx} {st : List Value} {σ : zSt} {a0 a1 a2 a3 : Option Value} {t : List (Option Value)} {x : Int64} (hB : zB M n X) (hd : decode M.2.1 pc = .ok (.lstore_n 2, 1)) (hc : zc1 a1 = true) (k : zW X (pc + 1) (a0 :: a1 :: some (.long x) :: none :: t) st σ) : zW X pc (a0 :: a1 :: a2 :: a3 :: t) (.long x :: st) σ := by
  intro H locs ls hP hS hL
  have hi : 2 + 1 < (a0 :: a1 :: a2 :: a3 :: t).length := by simp
  exact lv_lstore_n hB.1 hB.2.1 hd rfl hL.has (by rw [← hL.1, ← hL.2.1]; exact hi) rfl (fun ls' h' => k H locs ls' hP hS (hL.put2 (v := .long x) rfl (zput2_ok hi (Or.inr ⟨_, rfl, hc⟩)) h'))
theorem zw_iinc2 {M : zM} {n pc : Nat} {X : zCx} {st : List Value} {σ : zSt} {a0 a1 : Option Value} {t : List (Option Value)} {v : Int} {x y : Int32} (hB : zB M n X) (hd : decode M.2.1 pc = .ok (.iinc 2 v, 3)) (hv : x + Int32.ofInt v = y) (hc : zc1 a1 = true) (k : zW X (pc + 3) (a0 :: a1 :: some (.int y) :: t) st σ) : zW X pc (a0 :: a1 :: some (.int x) :: t) st σ := by
  intro H locs ls hP hS hL
  have hi : 2 < (a0 :: a1 :: some (.int x) :: t).length := by simp
  obtain ⟨q, hq⟩ := List.getElem?_of_mem (zal_in (X := X) (lv := a0 :: a1 :: some (.int x) :: t) (j := 2) (w := .int x) |>.mpr ⟨.int x, rfl, rfl⟩)
  exact lv_iinc hB.1 hB.2.1 hd hL.has hq hv (by rw [← hL.1, ← hL.2.1]; exact hi) rfl (fun ls' h' => k H locs ls' hP hS (hL.put1 (v := .int y) rfl (zput1_ok hi (Or.inr ⟨_, rfl, hc⟩)) h'))
theorem zw_istore3 {M : zM} {n pc : Nat} {X : zCx} {st : List Value} {σ : zSt} {a0 a1 a2 a3 : Option Value} {t : List (Option Value)} {x : Int32} (hB : zB M n X) (hd : decode M.2.1 pc = .ok (.istore_n 3, 1)) (hc : zc1 a2 = true) (k : zW X (pc + 1) (a0 :: a1 :: a2 :: some (.int x) :: t) st σ) : zW X pc (a0 :: a1 :: a2 :: a3 :: t) (.int x :: st) σ := by
  intro H locs ls hP hS hL
  have hi : 3 < (a0 :: a1 :: a2 :: a3 :: t).length := by simp
  exact lv_istore_n hB.1 hB.2.1 hd rfl hL.has (by rw [← hL.1, ← hL.2.1]; exact hi) rfl (fun ls' h' => k H locs ls' hP hS (hL.put1 (v := .int x) rfl (zput1_ok hi (Or.inr ⟨_, rfl, hc⟩)) h'))
theorem zw_astore3 {M : zM} {n pc : Nat} {X : zCx} {st : List Value} {σ : zSt} {a0 a1 a2 a3 : Option Value} {t : List (Option Value)} {x : Nat} (hB : zB M n X) (hd : decode M.2.1 pc = .ok (.astore_n 3, 1)) (hc : zc1 a2 = true) (k : zW X (pc + 1) (a0 :: a1 :: a2 :: some (.ref x) :: t) st σ) : zW X pc (a0 :: a1 :: a2 :: a3 :: t) (.ref x :: st) σ := by
  intro H locs ls hP hS hL
  have hi : 3 < (a0 :: a1 :: a2 :: a3 :: t).length := by simp
  exact lv_astore_n hB.1 hB.2.1 hd rfl hL.has (by rw [← hL.1, ← hL.2.1]; exact hi) rfl (fun ls' h' => k H locs ls' hP hS (hL.put1 (v := .ref x) rfl (zput1_ok hi (Or.inr ⟨_, rfl, hc⟩)) h'))
theorem zw_lstore3 {M : zM} {n pc : Nat} {X : zCx} {st : List Value} {σ : zSt} {a0 a1 a2 a3 a4 : Option Value} {t : List (Option Value)} {x : Int64} (hB : zB M n X) (hd : decode M.2.1 pc = .ok (.lstore_n 3, 1)) (hc : zc1 a2 = true) (k : zW X (pc + 1) (a0 :: a1 :: a2 :: some (.long x) :: none :: t) st σ) : zW X pc (a0 :: a1 :: a2 :: a3 :: a4 :: t) (.long x :: st) σ := by
  intro H locs ls hP hS hL
  have hi : 3 + 1 < (a0 :: a1 :: a2 :: a3 :: a4 :: t).length := by simp
  exact lv_lstore_n hB.1 hB.2.1 hd rfl hL.has (by rw [← hL.1, ← hL.2.1]; exact hi) rfl (fun ls' h' => k H locs ls' hP hS (hL.put2 (v := .long x) rfl (zput2_ok hi (Or.inr ⟨_, rfl, hc⟩)) h'))
theorem zw_iinc3 {M : zM} {n pc : Nat} {X : zCx} {st : List Value} {σ : zSt} {a0 a1 a2 : Option Value} {t : List (Option Value)} {v : Int} {x y : Int32} (hB : zB M n X) (hd : decode M.2.1 pc = .ok (.iinc 3 v, 3)) (hv : x + Int32.ofInt v = y) (hc : zc1 a2 = true) (k : zW X (pc + 3) (a0 :: a1 :: a2 :: some (.int y) :: t) st σ) : zW X pc (a0 :: a1 :: a2 :: some (.int x) :: t) st σ := by
  intro H locs ls hP hS hL
  have hi : 3 < (a0 :: a1 :: a2 :: some (.int x) :: t).length := by simp
  obtain ⟨q, hq⟩ := List.getElem?_of_mem (zal_in (X := X) (lv := a0 :: a1 :: a2 :: some (.int x) :: t) (j := 3) (w := .int x) |>.mpr ⟨.int x, rfl, rfl⟩)
  exact lv_iinc hB.1 hB.2.1 hd hL.has hq hv (by rw [← hL.1, ← hL.2.1]; exact hi) rfl (fun ls' h' => k H locs ls' hP hS (hL.put1 (v := .int y) rfl (zput1_ok hi (Or.inr ⟨_, rfl, hc⟩)) h'))
theorem zw_istore4 {M : zM} {n pc : Nat} {X : zCx} {st : List Value} {σ : zSt} {a0 a1 a2 a3 a4 : Option Value} {t : List (Option Value)} {x : Int32} (hB : zB M n X) (hd : decode M.2.1 pc = .ok (.istore 4, 2)) (hc : zc1 a3 = true) (k : zW X (pc + 2) (a0 :: a1 :: a2 :: a3 :: some (.int x) :: t) st σ) : zW X pc (a0 :: a1 :: a2 :: a3 :: a4 :: t) (.int x :: st) σ := by
  intro H locs ls hP hS hL
  have hi : 4 < (a0 :: a1 :: a2 :: a3 :: a4 :: t).length := by simp
  exact lv_istore hB.1 hB.2.1 hd hL.has (by rw [← hL.1, ← hL.2.1]; exact hi) rfl (fun ls' h' => k H locs ls' hP hS (hL.put1 (v := .int x) rfl (zput1_ok hi (Or.inr ⟨_, rfl, hc⟩)) h'))
theorem zw_astore4 {M : zM} {n pc : Nat} {X : zCx} {st : List Value} {σ : zSt} {a0 a1 a2 a3 a4 : Option Value} {t : List (Option Value)} {x : Nat} (hB : zB M n X) (hd : decode M.2.1 pc = .ok (.astore 4, 2)) (hc : zc1 a3 = true) (k : zW X (pc + 2) (a0 :: a1 :: a2 :: a3 :: some (.ref x) :: t) st σ) : zW X pc (a0 :: a1 :: a2 :: a3 :: a4 :: t) (.ref x :: st) σ := by
  intro H locs ls hP hS hL
  have hi : 4 < (a0 :: a1 :: a2 :: a3 :: a4 :: t).length := by simp
  exact lv_astore hB.1 hB.2.1 hd hL.has (by rw [← hL.1, ← hL.2.1]; exact hi) rfl (fun ls' h' => k H locs ls' hP hS (hL.put1 (v := .ref x) rfl (zput1_ok hi (Or.inr ⟨_, rfl, hc⟩)) h'))
theorem zw_lstore4 {M : zM} {n pc : Nat} {X : zCx} {st : List Value} {σ : zSt} {a0 a1 a2 a3 a4 a5 : Option Value} {t : List (Option Value)} {x : Int64} (hB : zB M n X) (hd : decode M.2.1 pc = .ok (.lstore 4, 2)) (hc : zc1 a3 = true) (k : zW X (pc + 2) (a0 :: a1 :: a2 :: a3 :: some (.long x) :: none :: t) st σ) : zW X pc (a0 :: a1 :: a2 :: a3 :: a4 :: a5 :: t) (.long x :: st) σ := by
  intro H locs ls hP hS hL
  have hi : 4 + 1 < (a0 :: a1 :: a2 :: a3 :: a4 :: a5 :: t).length := by simp
  exact lv_lstore hB.1 hB.2.1 hd hL.has (by rw [← hL.1, ← hL.2.1]; exact hi) rfl (fun ls' h' => k H locs ls' hP hS (hL.put2 (v := .long x) rfl (zput2_ok hi (Or.inr ⟨_, rfl, hc⟩)) h'))
theorem zw_iinc4 {M : zM} {n pc : Nat} {X : zCx} {st : List Value} {σ : zSt} {a0 a1 a2 a3 : Option Value} {t : List (Option Value)} {v : Int} {x y : Int32} (hB : zB M n X) (hd : decode M.2.1 pc = .ok (.iinc 4 v, 3)) (hv : x + Int32.ofInt v = y) (hc : zc1 a3 = true) (k : zW X (pc + 3) (a0 :: a1 :: a2 :: a3 :: some (.int y) :: t) st σ) : zW X pc (a0 :: a1 :: a2 :: a3 :: some (.int x) :: t) st σ := by
  intro H locs ls hP hS hL
  have hi : 4 < (a0 :: a1 :: a2 :: a3 :: some (.int x) :: t).length := by simp
  obtain ⟨q, hq⟩ := List.getElem?_of_mem (zal_in (X := X) (lv := a0 :: a1 :: a2 :: a3 :: some (.int x) :: t) (j := 4) (w := .int x) |>.mpr ⟨.int x, rfl, rfl⟩)
  exact lv_iinc hB.1 hB.2.1 hd hL.has hq hv (by rw [← hL.1, ← hL.2.1]; exact hi) rfl (fun ls' h' => k H locs ls' hP hS (hL.put1 (v := .int y) rfl (zput1_ok hi (Or.inr ⟨_, rfl, hc⟩)) h'))
theorem zw_istore5 {M : zM} {n pc : Nat} {X : zCx} {st : List Value} {σ : zSt} {a0 a1 a2 a3 a4 a5 : Option Value} {t : List (Option Value)} {x : Int32} (hB : zB M n X) (hd : decode M.2.1 pc = .ok (.istore 5, 2)) (hc : zc1 a4 = true) (k : zW X (pc + 2) (a0 :: a1 :: a2 :: a3 :: a4 :: some (.int x) :: t) st σ) : zW X pc (a0 :: a1 :: a2 :: a3 :: a4 :: a5 :: t) (.int x :: st) σ := by
  intro H locs ls hP hS hL
  have hi : 5 < (a0 :: a1 :: a2 :: a3 :: a4 :: a5 :: t).length := by simp
  exact lv_istore hB.1 hB.2.1 hd hL.has (by rw [← hL.1, ← hL.2.1]; exact hi) rfl (fun ls' h' => k H locs ls' hP hS (hL.put1 (v := .int x) rfl (zput1_ok hi (Or.inr ⟨_, rfl, hc⟩)) h'))
theorem zw_astore5 {M : zM} {n pc : Nat} {X : zCx} {st : List Value} {σ : zSt} {a0 a1 a2 a3 a4 a5 : Option Value} {t : List (Option Value)} {x : Nat} (hB : zB M n X) (hd : decode M.2.1 pc = .ok (.astore 5, 2)) (hc : zc1 a4 = true) (k : zW X (pc + 2) (a0 :: a1 :: a2 :: a3 :: a4 :: some (.ref x) :: t) st σ) : zW X pc (a0 :: a1 :: a2 :: a3 :: a4 :: a5 :: t) (.ref x :: st) σ := by
  intro H locs ls hP hS hL
  have hi : 5 < (a0 :: a1 :: a2 :: a3 :: a4 :: a5 :: t).length := by simp
  exact lv_astore hB.1 hB.2.1 hd hL.has (by rw [← hL.1, ← hL.2.1]; exact hi) rfl (fun ls' h' => k H locs ls' hP hS (hL.put1 (v := .ref x) rfl (zput1_ok hi (Or.inr ⟨_, rfl, hc⟩)) h'))
theorem zw_lstore5 {M : zM} {n pc : Nat} {X : zCx} {st : List Value} {σ : zSt} {a0 a1 a2 a3 a4 a5 a6 : Option Value} {t : List (Option Value)} {x : Int64} (hB : zB M n X) (hd : decode M.2.1 pc = .ok (.lstore 5, 2)) (hc : zc1 a4 = true) (k : zW X (pc + 2) (a0 :: a1 :: a2 :: a3 :: a4 :: some (.long x) :: none :: t) st σ) : zW X pc (a0 :: a1 :: a2 :: a3 :: a4 :: a5 :: a6 :: t) (.long x :: st) σ := by
  intro H locs ls hP hS hL
  have hi : 5 + 1 < (a0 :: a1 :: a2 :: a3 :: a4 :: a5 :: a6 :: t).length := by simp
  exact lv_lstore hB.1 hB.2.1 hd hL.has (by rw [← hL.1, ← hL.2.1]; exact hi) rfl (fun ls' h' => k H locs ls' hP hS (hL.put2 (v := .long x) rfl (zput2_ok hi (Or.inr ⟨_, rfl, hc⟩)) h'))
theorem zw_iinc5 {M : zM} {n pc : Nat} {X : zCx} {st : List Value} {σ : zSt} {a0 a1 a2 a3 a4 : Option Value} {t : List (Option Value)} {v : Int} {x y : Int32} (hB : zB M n X) (hd : decode M.2.1 pc = .ok (.iinc 5 v, 3)) (hv : x + Int32.ofInt v = y) (hc : zc1 a4 = true) (k : zW X (pc + 3) (a0 :: a1 :: a2 :: a3 :: a4 :: some (.int y) :: t) st σ) : zW X pc (a0 :: a1 :: a2 :: a3 :: a4 :: some (.int x) :: t) st σ := by
  intro H locs ls hP hS hL
  have hi : 5 < (a0 :: a1 :: a2 :: a3 :: a4 :: some (.int x) :: t).length := by simp
  obtain ⟨q, hq⟩ := List.getElem?_of_mem (zal_in (X := X) (lv := a0 :: a1 :: a2 :: a3 :: a4 :: some (.int x) :: t) (j := 5) (w := .int x) |>.mpr ⟨.int x, rfl, rfl⟩)
  exact lv_iinc hB.1 hB.2.1 hd hL.has hq hv (by rw [← hL.1, ← hL.2.1]; exact hi) rfl (fun ls' h' => k H locs ls' hP hS (hL.put1 (v := .int y) rfl (zput1_ok hi (Or.inr ⟨_, rfl, hc⟩)) h'))
theorem zw_istore6 {M : zM} {n pc : Nat} {X : zCx} {st : List Value} {σ : zSt} {a0 a1 a2 a3 a4 a5 a6 : Option Value} {t : List (Option Value)} {x : Int32} (hB : zB M n X) (hd : decode M.2.1 pc = .ok (.istore 6, 2)) (hc : zc1 a5 = true) (k : zW X (pc + 2) (a0 :: a1 :: a2 :: a3 :: a4 :: a5 :: some (.int x) :: t) st σ) : zW X pc (a0 :: a1 :: a2 :: a3 :: a4 :: a5 :: a6 :: t) (.int x :: st) σ := by
  intro H locs ls hP hS hL
  have hi : 6 < (a0 :: a1 :: a2 :: a3 :: a4 :: a5 :: a6 :: t).length := by simp
  exact lv_istore hB.1 hB.2.1 hd hL.has (by rw [← hL.1, ← hL.2.1]; exact hi) rfl (fun ls' h' => k H locs ls' hP hS (hL.put1 (v := .int x) rfl (zput1_ok hi (Or.inr ⟨_, rfl, hc⟩)) h'))
theorem zw_astore6 {M : zM} {n pc : Nat} {X : zCx} {st : List Value} {σ : zSt} {a0 a1 a2 a3 a4 a5 a6 : Option Value} {t : List (Option Value)} {x : Nat} (hB : zB M n X) (hd : decode M.2.1 pc = .ok (.astore 6, 2)) (hc : zc1 a5 = true) (k : zW X (pc + 2) (a0 :: a1 :: a2 :: a3 :: a4 :: a5 :: some (.ref x) :: t) st σ) : zW X pc (a0 :: a1 :: a2 :: a3 :: a4 :: a5 :: a6 :: t) (.ref x :: st) σ := by
  intro H locs ls hP hS hL
  have hi : 6 < (a0 :: a1 :: a2 :: a3 :: a4 :: a5 :: a6 :: t).length := by simp
  exact lv_astore hB.1 hB.2.1 hd hL.has (by rw [← hL.1, ← hL.2.1]; exact hi) rfl (fun ls' h' => k H locs ls' hP hS (hL.put1 (v := .ref x) rfl (zput1_ok hi (Or.inr ⟨_, rfl, hc⟩)) h'))
theorem zw_lstore6 {M : zM} {n pc : Nat} {X : zCx} {st : List Value} {σ : zSt} {a0 a1 a2 a3 a4 a5 a6 a7 : Option Value} {t : List (Option Value)} {x : Int64} (hB : zB M n X) (hd : decode M.2.1 pc = .ok (.lstore 6, 2)) (hc : zc1 a5 = true) (k : zW X (pc + 2) (a0 :: a1 :: a2 :: a3 :: a4 :: a5 :: some (.long x) :: none :: t) st σ) : zW X pc (a0 :: a1 :: a2 :: a3 :: a4 :: a5 :: a6 :: a7 :: t) (.long x :: st) σ := by
  intro H locs ls hP hS hL
  have hi : 6 + 1 < (a0 :: a1 :: a2 :: a3 :: a4 :: a5 :: a6 :: a7 :: t).length := by simp
  exact lv_lstore hB.1 hB.2.1 hd hL.has (by rw [← hL.1, ← hL.2.1]; exact hi) rfl (fun ls' h' => k H locs ls' hP hS (hL.put2 (v := .long x) rfl (zput2_ok hi (Or.inr ⟨_, rfl, hc⟩)) h'))
theorem zw_iinc6 {M : zM} {n pc : Nat} {X : zCx} {st : List Value} {σ : zSt} {a0 a1 a2 a3 a4 a5 : Option Value} {t : List (Option Value)} {v : Int} {x y : Int32} (hB : zB M n X) (hd : decode M.2.1 pc = .ok (.iinc 6 v, 3)) (hv : x + Int32.ofInt v = y) (hc : zc1 a5 = true) (k : zW X (pc + 3) (a0 :: a1 :: a2 :: a3 :: a4 :: a5 :: some (.int y) :: t) st σ) : zW X pc (a0 :: a1 :: a2 :: a3 :: a4 :: a5 :: some (.int x) :: t) st σ := by
  intro H locs ls hP hS hL
  have hi : 6 < (a0 :: a1 :: a2 :: a3 :: a4 :: a5 :: some (.int x) :: t).length := by simp
  obtain ⟨q, hq⟩ := List.getElem?_of_mem (zal_in (X := X) (lv := a0 :: a1 :: a2 :: a3 :: a4 :: a5 :: some (.int x) :: t) (j := 6) (w := .int x) |>.mpr ⟨.int x, rfl, rfl⟩)
  exact lv_iinc hB.1 hB.2.1 hd hL.has hq hv (by rw [← hL.1, ← hL.2.1]; exact hi) rfl (fun ls' h' => k H locs ls' hP hS (hL.put1 (v := .int y) rfl (zput1_ok hi (Or.inr ⟨_, rfl, hc⟩)) h'))
theorem zw_istore7 {M : zM} {n pc : Nat} {X : zCx} {st : List Value} {σ : zSt} {a0 a1 a2 a3 a4 a5 a6 a7 : Option Value} {t : List (Option Value)} {x : Int32} (hB : zB M n X) (hd : decode M.2.1 pc = .ok (.istore 7, 2)) (hc : zc1 a6 = true) (k : zW X (pc + 2) (a0 :: a1 :: a2 :: a3 :: a4 :: a5 :: a6 :: some (.int x) :: t) st σ) : zW X pc (a0 :: a1 :: a2 :: a3 :: a4 :: a5 :: a6 :: a7 :: t) (.int x :: st) σ := by
  intro H locs ls hP hS hL
  have hi : 7 < (a0 :: a1 :: a2 :: a3 :: a4 :: a5 :: a6 :: a7 :: t).length := by simp
  exact lv_istore hB.1 hB.2.1 hd hL.has (by rw [← hL.1, ← hL.2.1]; exact hi) rfl (fun ls' h' => k H locs ls' hP hS (hL.put1 (v := .int x) rfl (zput1_ok hi (Or.inr ⟨_, rfl, hc⟩)) h'))
theorem zw_astore7 {M : zM} {n pc : Nat} {X : zCx} {st : List Value} {σ : zSt} {a0 a1 a2 a3 a4 a5 a6 a7 : Option Value} {t : List (Option Value)} {x : Nat} (hB : zB M n X) (hd : decode M.2.1 pc = .ok (.astore 7, 2)) (hc : zc1 a6 = true) (k : zW X (pc + 2) (a0 :: a1 :: a2 :: a3 :: a4 :: a5 :: a6 :: some (.ref x) :: t) st σ) : zW X pc (a0 :: a1 :: a2 :: a3 :: a4 :: a5 :: a6 :: a7 :: t) (.ref x :: st) σ := by
  intro H locs ls hP hS hL
  have hi : 7 < (a0 :: a1 :: a2 :: a3 :: a4 :: a5 :: a6 :: a7 :: t).length := by simp
  exact lv_astore hB.1 hB.2.1 hd hL.has (by rw [← hL.1, ← hL.2.1]; exact hi) rfl (fun ls' h' => k H locs ls' hP hS (hL.put1 (v := .ref x) rfl (zput1_ok hi (Or.inr ⟨_, rfl, hc⟩)) h'))
theorem zw_lstore7 {M : zM} {n pc : Nat} {X : zCx} {st : List Value} {σ : zSt} {a0 a1 a2 a3 a4 a5 a6 a7 a8 : Option Value} {t : List (Option Value)} {x : Int64} (hB : zB M n X) (hd : decode M.2.1 pc = .ok (.lstore 7, 2)) (hc : zc1 a6 = true) (k : zW X (pc + 2) (a0 :: a1 :: a2 :: a3 :: a4 :: a5 :: a6 :: some (.long x) :: none :: t) st σ) : zW X pc (a0 :: a1 :: a2 :: a3 :: a4 :: a5 :: a6 :: a7 :: a8 :: t) (.long x :: st) σ := by
  intro H locs ls hP hS hL
  have hi : 7 + 1 < (a0 :: a1 :: a2 :: a3 :: a4 :: a5 :: a6 :: a7 :: a8 :: t).length := by simp
  exact lv_lstore hB.1 hB.2.1 hd hL.has (by rw [← hL.1, ← hL.2.1]; exact hi) rfl (fun ls' h' => k H locs ls' hP hS (hL.put2 (v := .long x) rfl (zput2_ok hi (Or.inr ⟨_, rfl, hc⟩)) h'))
theorem zw_iinc7 {M : zM} {n pc : Nat} {X : zCx} {st : List Value} {σ : zSt} {a0 a1 a2 a3 a4 a5 a6 : Option Value} {t : List (Option Value)} {v : Int} {x y : Int32} (hB : zB M n X) (hd : decode M.2.1 pc = .ok (.iinc 7 v, 3)) (hv : x + Int32.ofInt v = y) (hc : zc1 a6 = true) (k : zW X (pc + 3) (a0 :: a1 :: a2 :: a3 :: a4 :: a5 :: a6 :: some (.int y) :: t) st σ) : zW X pc (a0 :: a1 :: a2 :: a3 :: a4 :: a5 :: a6 :: some (.int x) :: t) st σ := by
  intro H locs ls hP hS hL
  have hi : 7 < (a0 :: a1 :: a2 :: a3 :: a4 :: a5 :: a6 :: some (.int x) :: t).length := by simp
  obtain ⟨q, hq⟩ := List.getElem?_of_mem (zal_in (X := X) (lv := a0 :: a1 :: a2 :: a3 :: a4 :: a5 :: a6 :: some (.int x) :: t) (j := 7) (w := .int x) |>.mpr ⟨.int x, rfl, rfl⟩)
  exact lv_iinc hB.1 hB.2.1 hd hL.has hq hv (by rw [← hL.1, ← hL.2.1]; exact hi) rfl (fun ls' h' => k H locs ls' hP hS (hL.put1 (v := .int y) rfl (zput1_ok hi (Or.inr ⟨_, rfl, hc⟩)) h'))
theorem zw_istore8 {M : zM} {n pc : Nat} {X : zCx} {st : List Value} {σ : zSt} {a0 a1 a2 a3 a4 a5 a6 a7 a8 : Option Value} {t : List (Option Value)} {x : Int32} (hB : zB M n X) (hd : decode M.2.1 pc = .ok (.istore 8, 2)) (hc : zc1 a7 = true) (k : zW X (pc + 2) (a0 :: a1 :: a2 :: a3 :: a4 :: a5 :: a6 :: a7 :: some (.int x) :: t) st σ) : zW X pc (a0 :: a1 :: a2 :: a3 :: a4 :: a5 :: a6 :: a7 :: a8 :: t) (.int x :: st) σ := by
  intro H locs ls hP hS hL
  have hi : 8 < (a0 :: a1 :: a2 :: a3 :: a4 :: a5 :: a6 :: a7 :: a8 :: t).length := by simp
  exact lv_istore hB.1 hB.2.1 hd hL.has (by rw [← hL.1, ← hL.2.1]; exact hi) rfl (fun ls' h' => k H locs ls' hP hS (hL.put1 (v := .int x) rfl (zput1_ok hi (Or.inr ⟨_, rfl, hc⟩)) h'))
theorem zw_astore8 {M : zM} {n pc : Nat} {X : zCx} {st : List Value} {σ : zSt} {a0 a1 a2 a3 a4 a5 a6 a7 a8 : Option Value} {t : List (Option Value)} {x : Nat} (hB : zB M n X) (hd : decode M.2.1 pc = .ok (.astore 8, 2)) (hc : zc1 a7 = true) (k : zW X (pc + 2) (a0 :: a1 :: a2 :: a3 :: a4 :: a5 :: a6 :: a7 :: some (.ref x) :: t) st σ) : zW X pc (a0 :: a1 :: a2 :: a3 :: a4 :: a5 :: a6 :: a7 :: a8 :: t) (.ref x :: st) σ := by
  intro H locs ls hP hS hL
  have hi : 8 < (a0 :: a1 :: a2 :: a3 :: a4 :: a5 :: a6 :: a7 :: a8 :: t).length := by simp
  exact lv_astore hB.1 hB.2.1 hd hL.has (by rw [← hL.1, ← hL.2.1]; exact hi) rfl (fun ls' h' => k H locs ls' hP hS (hL.put1 (v := .ref x) rfl (zput1_ok hi (Or.inr ⟨_, rfl, hc⟩)) h'))
theorem zw_lstore8 {M : zM} {n pc : Nat} {X : zCx} {st : List Value} {σ : zSt} {a0 a1 a2 a3 a4 a5 a6 a7 a8 a9 : Option Value} {t : List (Option Value)} {x : Int64} (hB : zB M n X) (hd : decode M.2.1 pc = .ok (.lstore 8, 2)) (hc : zc1 a7 = true) (k : zW X (pc + 2) (a0 :: a1 :: a2 :: a3 :: a4 :: a5 :: a6 :: a7 :: some (.long x) :: none :: t) st σ) : zW X pc (a0 :: a1 :: a2 :: a3 :: a4 :: a5 :: a6 :: a7 :: a8 :: a9 :: t) (.long x :: st) σ := by
  intro H locs ls hP hS hL
  have hi : 8 + 1 < (a0 :: a1 :: a2 :: a3 :: a4 :: a5 :: a6 :: a7 :: a8 :: a9 :: t).length := by simp
  exact lv_lstore hB.1 hB.2.1 hd hL.has (by rw [← hL.1, ← hL.2.1]; exact hi) rfl (fun ls' h' => k H locs ls' hP hS (hL.put2 (v := .long x) rfl (zput2_ok hi (Or.inr ⟨_, rfl, hc⟩)) h'))
theorem zw_iinc8 {M : zM} {n pc : Nat} {X : zCx} {st : List Value} {σ : zSt} {a0 a1 a2 a3 a4 a5 a6 a7 : Option Value} {t : List (Option Value)} {v : Int} {x y : Int32} (hB : zB M n X) (hd : decode M.2.1 pc = .ok (.iinc 8 v, 3)) (hv : x + Int32.ofInt v = y) (hc : zc1 a7 = true) (k : zW X (pc + 3) (a0 :: a1 :: a2 :: a3 :: a4 :: a5 :: a6 :: a7 :: some (.int y) :: t) st σ) : zW X pc (a0 :: a1 :: a2 :: a3 :: a4 :: a5 :: a6 :: a7 :: some (.int x) :: t) st σ := by
  intro H locs ls hP hS hL
  have hi : 8 < (a0 :: a1 :: a2 :: a3 :: a4 :: a5 :: a6 :: a7 :: some (.int x) :: t).length := by simp
  obtain ⟨q, hq⟩ := List.getElem?_of_mem (zal_in (X := X) (lv := a0 :: a1 :: a2 :: a3 :: a4 :: a5 :: a6 :: a7 :: some (.int x) :: t) (j := 8) (w := .int x) |>.mpr ⟨.int x, rfl, rfl⟩)
  exact lv_iinc hB.1 hB.2.1 hd hL.has hq hv (by rw [← hL.1, ← hL.2.1]; exact hi) rfl (fun ls' h' => k H locs ls' hP hS (hL.put1 (v := .int y) rfl (zput1_ok hi (Or.inr ⟨_, rfl, hc⟩)) h'))
theorem zw_istore9 {M : zM} {n pc : Nat} {X : zCx} {st : List Value} {σ : zSt} {a0 a1 a2 a3 a4 a5 a6 a7 a8 a9 : Option Value} {t : List (Option Value)} {x : Int32} (hB : zB M n X) (hd : decode M.2.1 pc = .ok (.istore 9, 2)) (hc : zc1 a8 = true) (k : zW X (pc + 2) (a0 :: a1 :: a2 :: a3 :: a4 :: a5 :: a6 :: a7 :: a8 :: some (.int x) :: t) st σ) : zW X pc (a0 :: a1 :: a2 :: a3 :: a4 :: a5 :: a6 :: a7 :: a8 :: a9 :: t) (.int x :: st) σ := by
  intro H locs ls hP hS hL
  have hi : 9 < (a0 :: a1 :: a2 :: a3 :: a4 :: a5 :: a6 :: a7 :: a8 :: a9 :: t).length := by simp
  exact lv_istore hB.1 hB.2.1 hd hL.has (by rw [← hL.1, ← hL.2.1]; exact hi) rfl (fun ls' h' => k H locs ls' hP hS (hL.put1 (v := .int x) rfl (zput1_ok hi (Or.inr ⟨_, rfl, hc⟩)) h'))
theorem zw_astore9 {M : zM} {n pc : Nat} {X : zCx} {st : List Value} {σ : zSt} {a0 a1 a2 a3 a4 a5 a6 a7 a8 a9 : Option Value} {t : List (Option Value)} {x : Nat} (hB : zB M n X) (hd : decode M.2.1 pc = .ok (.astore 9, 2)) (hc : zc1 a8 = true) (k : zW X (pc + 2) (a0 :: a1 :: a2 :: a3 :: a4 :: a5 :: a6 :: a7 :: a8 :: some (.ref x) :: t) st σ) : zW X pc (a0 :: a1 :: a2 :: a3 :: a4 :: a5 :: a6 :: a7 :: a8 :: a9 :: t) (.ref x :: st) σ := by
  intro H locs ls hP hS hL
  have hi : 9 < (a0 :: a1 :: a2 :: a3 :: a4 :: a5 :: a6 :: a7 :: a8 :: a9 :: t).length := by simp
  exact lv_astore hB.1 hB.2.1 hd hL.has (by rw [← hL.1, ← hL.2.1]; exact hi) rfl (fun ls' h' => k H locs ls' hP hS (hL.put1 (v := .ref x) rfl (zput1_ok hi (Or.inr ⟨_, rfl, hc⟩)) h'))
theorem zw_lstore9 {M : zM} {n pc : Nat} {X : zCx} {st : List Value} {σ : zSt} {a0 a1 a2 a3 a4 a5 a6 a7 a8 a9 a10 : Option Value} {t : List (Option Value)} {x : Int64} (hB : zB M n X) (hd : decode M.2.1 pc = .ok (.lstore 9, 2)) (hc : zc1 a8 = true) (k : zW X (pc + 2) (a0 :: a1 :: a2 :: a3 :: a4 :: a5 :: a6 :: a7 :: a8 :: some (.long x) :: none :: t) st σ) : zW X pc (a0 :: a1 :: a2 :: a3 :: a4 :: a5 :: a6 :: a7 :: a8 :: a9 :: a10 :: t) (.long x :: st) σ := by
  intro H locs ls hP hS hL
  have hi : 9 + 1 < (a0 :: a1 :: a2 :: a3 :: a4 :: a5 :: a6 :: a7 :: a8 :: a9 :: a10 :: t).length := by simp
  exact lv_lstore hB.1 hB.2.1 hd hL.has (by rw [← hL.1, ← hL.2.1]; exact hi) rfl (fun ls' h' => k H locs ls' hP hS (hL.put2 (v := .long x) rfl (zput2_ok hi (Or.inr ⟨_, rfl, hc⟩)) h'))
theorem zw_iinc9 {M : zM} {n pc : Nat} {X : zCx} {st : List Value} {σ : zSt} {a0 a1 a2 a3 a4 a5 a6 a7 a8 : Option Value} {t : List (Option Value)} {v : Int} {x y : Int32} (hB : zB M n X) (hd : decode M.2.1 pc = .ok (.iinc 9 v, 3)) (hv : x + Int32.ofInt v = y) (hc : zc1 a8 = true) (k : zW X (pc + 3) (a0 :: a1 :: a2 :: a3 :: a4 :: a5 :: a6 :: a7 :: a8 :: some (.int y) :: t) st σ) : zW X pc (a0 :: a1 :: a2 :: a3 :: a4 :: a5 :: a6 :: a7 :: a8 :: some (.int x) :: t) st σ := by
  intro H locs ls hP hS hL
  have hi : 9 < (a0 :: a1 :: a2 :: a3 :: a4 :: a5 :: a6 :: a7 :: a8 :: some (.int x) :: t).length := by simp
  obtain ⟨q, hq⟩ := List.getElem?_of_mem (zal_in (X := X) (lv := a0 :: a1 :: a2 :: a3 :: a4 :: a5 :: a6 :: a7 :: a8 :: some (.int x) :: t) (j := 9) (w := .int x) |>.mpr ⟨.int x, rfl, rfl⟩)
  exact lv_iinc hB.1 hB.2.1 hd hL.has hq hv (by rw [← hL.1, ← hL.2.1]; exact hi) rfl (fun ls' h' => k H locs ls' hP hS (hL.put1 (v := .int y) rfl (zput1_ok hi (Or.inr ⟨_, rfl, hc⟩)) h'))
theorem zw_istore10 {M : zM} {n pc : Nat} {X : zCx} {st : List Value} {σ : zSt} {a0 a1 a2 a3 a4 a5 a6 a7 a8 a9 a10 : Option Value} {t : List (Option Value)} {x : Int32} (hB : zB M n X) (hd : decode M.2.1 pc = .ok (.istore 10, 2)) (hc : zc1 a9 = true) (k : zW X (pc + 2) (a0 :: a1 :: a2 :: a3 :: a4 :: a5 :: a6 :: a7 :: a8 :: a9 :: some (.int x) :: t) st σ) : zW X pc (a0 :: a1 :: a2 :: a3 :: a4 :: a5 :: a6 :: a7 :: a8 :: a9 :: a10 :: t) (.int x :: st) σ := by
  intro H locs ls hP hS hL
  have hi : 10 < (a0 :: a1 :: a2 :: a3 :: a4 :: a5 :: a6 :: a7 :: a8 :: a9 :: a10 :: t).length := by simp
  exact lv_istore hB.1 hB.2.1 hd hL.has (by rw [← hL.1, ← hL.2.1]; exact hi) rfl (fun ls' h' => k H locs ls' hP hS (hL.put1 (v := .int x) rfl (zput1_ok hi (Or.inr ⟨_, rfl, hc⟩)) h'))
theorem zw_astore10 {M : zM} {n pc : Nat} {X : zCx} {st : List Value} {σ : zSt} {a0 a1 a2 a3 a4 a5 a6 a7 a8 a9 a10 : Option Value} {t : List (Option Value)} {x : Nat} (hB : zB M n X) (hd : decode M.2.1 pc = .ok (.astore 10, 2)) (hc : zc1 a9 = true) (k : zW X (pc + 2) (a0 :: a1 :: a2 :: a3 :: a4 :: a5 :: a6 :: a7 :: a8 :: a9 :: some (.ref x) :: t) st σ) : zW X pc (a0 :: a1 :: a2 :: a3 :: a4 :: a5 :: a6 :: a7 :: a8 :: a9 :: a10 :: t) (.ref x :: st) σ := by
  intro H locs ls hP hS hL
  have hi : 10 < (a0 :: a1 :: a2 :: a3 :: a4 :: a5 :: a6 :: a7 :: a8 :: a9 :: a10 :: t).length := by simp
  exact lv_astore hB.1 hB.2.1 hd hL.has (by rw [← hL.1, ← hL.2.1]; exact hi) rfl (fun ls' h' => k H locs ls' hP hS (hL.put1 (v := .ref x) rfl (zput1_ok hi (Or.inr ⟨_, rfl, hc⟩)) h'))
theorem zw_lstore10 {M : zM} {n pc : Nat} {X : zCx} {st : List Value} {σ : zSt} {a0 a1 a2 a3 a4 a5 a6 a7 a8 a9 a10 a11 : Option Value} {t : List (Option Value)} {x : Int64} (hB : zB M n X) (hd : decode M.2.1 pc = .ok (.lstore 10, 2)) (hc : zc1 a9 = true) (k : zW X (pc + 2) (a0 :: a1 :: a2 :: a3 :: a4 :: a5 :: a6 :: a7 :: a8 :: a9 :: some (.long x) :: none :: t) st σ) : zW X pc (a0 :: a1 :: a2 :: a3 :: a4 :: a5 :: a6 :: a7 :: a8 :: a9 :: a10 :: a11 :: t) (.long x :: st) σ := by
  intro H locs ls hP hS hL
  have hi : 10 + 1 < (a0 :: a1 :: a2 :: a3 :: a4 :: a5 :: a6 :: a7 :: a8 :: a9 :: a10 :: a11 :: t).length := by simp
  exact lv_lstore hB.1 hB.2.1 hd hL.has (by rw [← hL.1, ← hL.2.1]; exact hi) rfl (fun ls' h' => k H locs ls' hP hS (hL.put2 (v := .long x) rfl (zput2_ok hi (Or.inr ⟨_, rfl, hc⟩)) h'))
theorem zw_iinc10 {M : zM} {n pc : Nat} {X : zCx} {st : List Value} {σ : zSt} {a0 a1 a2 a3 a4 a5 a6 a7 a8 a9 : Option Value} {t : List (Option Value)} {v : Int} {x y : Int32} (hB : zB M n X) (hd : decode M.2.1 pc = .ok (.iinc 10 v, 3)) (hv : x + Int32.ofInt v = y) (hc : zc1 a9 = true) (k : zW X (pc + 3) (a0 :: a1 :: a2 :: a3 :: a4 :: a5 :: a6 :: a7 :: a8 :: a9 :: some (.int y) :: t) st σ) : zW X pc (a0 :: a1 :: a2 :: a3 :: a4 :: a5 :: a6 :: a7 :: a8 :: a9 :: some (.int x) :: t) st σ := by
  intro H locs ls hP hS hL
  have hi : 10 < (a0 :: a1 :: a2 :: a3 :: a4 :: a5 :: a6 :: a7 :: a8 :: a9 :: some (.int x) :: t).length := by simp
  obtain ⟨q, hq⟩ := List.getElem?_of_mem (zal_in (X := X) (lv := a0 :: a1 :: a2 :: a3 :: a4 :: a5 :: a6 :: a7 :: a8 :: a9 :: some (.int x) :: t) (j := 10) (w := .int x) |>.mpr ⟨.int x, rfl, rfl⟩)
  exact lv_iinc hB.1 hB.2.1 hd hL.has hq hv (by rw [← hL.1, ← hL.2.1]; exact hi) rfl (fun ls' h' => k H locs ls' hP hS (hL.put1 (v := .int y) rfl (zput1_ok hi (Or.inr ⟨_, rfl, hc⟩)) h'))
theorem zw_istore11 {M : zM} {n pc : Nat} {X : zCx} {st : List Value} {σ : zSt} {a0 a1 a2 a3 a4 a5 a6 a7 a8 a9 a10 a11 : Option Value} {t : List (Option Value)} {x : Int32} (hB : zB M n X) (hd : decode M.2.1 pc = .ok (.istore 11, 2)) (hc : zc1 a10 = true) (k : zW X (pc + 2) (a0 :: a1 :: a2 :: a3 :: a4 :: a5 :: a6 :: a7 :: a8 :: a9 :: a10 :: some (.int x) :: t) st σ) : zW X pc (a0 :: a1 :: a2 :: a3 :: a4 :: a5 :: a6 :: a7 :: a8 :: a9 :: a10 :: a11 :: t) (.int x :: st) σ := by
  intro H locs ls hP hS hL
  have hi : 11 < (a0 :: a1 :: a2 :: a3 :: a4 :: a5 :: a6 :: a7 :: a8 :: a9 :: a10 :: a11 :: t).length := by simp
  exact lv_istore hB.1 hB.2.1 hd hL.has (by rw [← hL.1, ← hL.2.1]; exact hi) rfl (fun ls' h' => k H locs ls' hP hS (hL.put1 (v := .int x) rfl (zput1_ok hi (Or.inr ⟨_, rfl, hc⟩)) h'))
theorem zw_astore11 {M : zM} {n pc : Nat} {X : zCx} {st : List Value} {σ : zSt} {a0 a1 a2 a3 a4 a5 a6 a7 a8 a9 a10 a11 : Option Value} {t : List (Option Value)} {x : Nat} (hB : zB M n X) (hd : decode M.2.1 pc = .ok (.astore 11, 2)) (hc : zc1 a10 = true) (k : zW X (pc + 2) (a0 :: a1 :: a2 :: a3 :: a4 :: a5 :: a6 :: a7 :: a8 :: a9 :: a10 :: some (.ref x) :: t) st σ) : zW X pc (a0 :: a1 :: a2 :: a3 :: a4 :: a5 :: a6 :: a7 :: a8 :: a9 :: a10 :: a11 :: t) (.ref x :: st) σ := by
  intro H locs ls hP hS hL
  have hi : 11 < (a0 :: a1 :: a2 :: a3 :: a4 :: a5 :: a6 :: a7 :: a8 :: a9 :: a10 :: a11 :: t).length := by simp
  exact lv_astore hB.1 hB.2.1 hd hL.has (by rw [← hL.1, ← hL.2.1]; exact hi) rfl (fun ls' h' => k H locs ls' hP hS (hL.put1 (v := .ref x) rfl (zput1_ok hi (Or.inr ⟨_, rfl, hc⟩)) h'))
theorem zw_lstore11 {M : zM} {n pc : Nat} {X : zCx} {st : List Value} {σ : zSt} {a0 a1 a2 a3 a4 a5 a6 a7 a8 a9 a10 a11 a12 : Option Value} {t : List (Option Value)} {x : Int64} (hB : zB M n X) (hd : decode M.2.1 pc = .ok (.lstore 11, 2)) (hc : zc1 a10 = true) (k : zW X (pc + 2) (a0 :: a1 :: a2 :: a3 :: a4 :: a5 :: a6 :: a7 :: a8 :: a9 :: a10 :: some (.long x) :: none :: t) st σ) : zW X pc (a0 :: a1 :: a2 :: a3 :: a4 :: a5 :: a6 :: a7 :: a8 :: a9 :: a10 :: a11 :: a12 :: t) (.long x :: st) σ := by
  intro H locs ls hP hS hL
  have hi : 11 + 1 < (a0 :: a1 :: a2 :: a3 :: a4 :: a5 :: a6 :: a7 :: a8 :: a9 :: a10 :: a11 :: a12 :: t).length := by simp
  exact lv_lstore hB.1 hB.2.1 hd hL.has (by rw [← hL.1, ← hL.2.1]; exact hi) rfl (fun ls' h' => k H locs ls' hP hS (hL.put2 (v := .long x) rfl (zput2_ok hi (Or.inr ⟨_, rfl, hc⟩)) h'))
theorem zw_iinc11 {M : zM} {n pc : Nat} {X : zCx} {st : List Value} {σ : zSt} {a0 a1 a2 a3 a4 a5 a6 a7 a8 a9 a10 : Option Value} {t : List (Option Value)} {v : Int} {x y : Int32} (hB : zB M n X) (hd : decode M.2.1 pc = .ok (.iinc 11 v, 3)) (hv : x + Int32.ofInt v = y) (hc : zc1 a10 = true) (k : zW X (pc + 3) (a0 :: a1 :: a2 :: a3 :: a4 :: a5 :: a6 :: a7 :: a8 :: a9 :: a10 :: some (.int y) :: t) st σ) : zW X pc (a0 :: a1 :: a2 :: a3 :: a4 :: a5 :: a6 :: a7 :: a8 :: a9 :: a10 :: some (.int x) :: t) st σ := by
  intro H locs ls hP hS hL
  have hi : 11 < (a0 :: a1 :: a2 :: a3 :: a4 :: a5 :: a6 :: a7 :: a8 :: a9 :: a10 :: some (.int x) :: t).length := by simp
  obtain ⟨q, hq⟩ := List.getElem?_of_mem (zal_in (X := X) (lv := a0 :: a1 :: a2 :: a3 :: a4 :: a5 :: a6 :: a7 :: a8 :: a9 :: a10 :: some (.int x) :: t) (j := 11) (w := .int x) |>.mpr ⟨.int x, rfl, rfl⟩)
  exact lv_iinc hB.1 hB.2.1 hd hL.has hq hv (by rw [← hL.1, ← hL.2.1]; exact hi) rfl (fun ls' h' => k H locs ls' hP hS (hL.put1 (v := .int y) rfl (zput1_ok hi (Or.inr ⟨_, rfl, hc⟩)) h'))
theorem zw_istore12 {M : zM} {n pc : Nat} {X : zCx} {st : List Value} {σ : zSt} {a0 a1 a2 a3 a4 a5 a6 a7 a8 a9 a10 a11 a12 : Option Value} {t : List (Option Value)} {x : Int32} (hB : zB M n X) (hd : decode M.2.1 pc = .ok (.istore 12, 2)) (hc : zc1 a11 = true) (k : zW X (pc + 2) (a0 :: a1 :: a2 :: a3 :: a4 :: a5 :: a6 :: a7 :: a8 :: a9 :: a10 :: a11 :: some (.int x) :: t) st σ) : zW X pc (a0 :: a1 :: a2 :: a3 :: a4 :: a5 :: a6 :: a7 :: a8 :: a9 :: a10 :: a11 :: a12 :: t) (.int x :: st) σ := by
  intro H locs ls hP hS hL
  have hi : 12 < (a0 :: a1 :: a2 :: a3 :: a4 :: a5 :: a6 :: a7 :: a8 :: a9 :: a10 :: a11 :: a12 :: t).length := by simp
  exact lv_istore hB.1 hB.2.1 hd hL.has (by rw [← hL.1, ← hL.2.1]; exact hi) rfl (fun ls' h' => k H locs ls' hP hS (hL.put1 (v := .int x) rfl (zput1_ok hi (Or.inr ⟨_, rfl, hc⟩)) h'))
theorem zw_astore12 {M : zM} {n pc : Nat} {X : zCx} {st : List Value} {σ : zSt} {a0 a1 a2 a3 a4 a5 a6 a7 a8 a9 a10 a11 a12 : Option Value} {t : List (Option Value)} {x : Nat} (hB : zB M n X) (hd : decode M.2.1 pc = .ok (.astore 12, 2)) (hc : zc1 a11 = true) (k : zW X (pc + 2) (a0 :: a1 :: a2 :: a3 :: a4 :: a5 :: a6 :: a7 :: a8 :: a9 :: a10 :: a11 :: some (.ref x) :: t) st σ) : zW X pc (a0 :: a1 :: a2 :: a3 :: a4 :: a5 :: a6 :: a7 :: a8 :: a9 :: a10 :: a11 :: a12 :: t) (.ref x :: st) σ := by
  intro H locs ls hP hS hL
  have hi : 12 < (a0 :: a1 :: a2 :: a3 :: a4 :: a5 :: a6 :: a7 :: a8 :: a9 :: a10 :: a11 :: a12 :: t).length := by simp
  exact lv_astore hB.1 hB.2.1 hd hL.has (by rw [← hL.1, ← hL.2.1]; exact hi) rfl (fun ls' h' => k H locs ls' hP hS (hL.put1 (v := .ref x) rfl (zput1_ok hi (Or.inr ⟨_, rfl, hc⟩)) h'))
theorem zw_lstore12 {M : zM} {n pc : Nat} {X : zCx} {st : List Value} {σ : zSt} {a0 a1 a2 a3 a4 a5 a6 a7 a8 a9 a10 a11 a12 a13 : Option Value} {t : List (Option Value)} {x : Int64} (hB : zB M n X) (hd : decode M.2.1 pc = .ok (.lstore 12, 2)) (hc : zc1 a11 = true) (k : zW X (pc + 2) (a0 :: a1 :: a2 :: a3 :: a4 :: a5 :: a6 :: a7 :: a8 :: a9 :: a10 :: a11 :: some (.long x) :: none :: t) st σ) : zW X pc (a0 :: a1 :: a2 :: a3 :: a4 :: a5 :: a6 :: a7 :: a8 :: a9 :: a10 :: a11 :: a12 :: a13 :: t) (.long x :: st) σ := by
  intro H locs ls hP hS hL
  have hi : 12 + 1 < (a0 :: a1 :: a2 :: a3 :: a4 :: a5 :: a6 :: a7 :: a8 :: a9 :: a10 :: a11 :: a12 :: a13 :: t).length := by simp
  exact lv_lstore hB.1 hB.2.1 hd hL.has (by rw [← hL.1, ← hL.2.1]; exact hi) rfl (fun ls' h' => k H locs ls' hP hS (hL.put2 (v := .long x) rfl (zput2_ok hi (Or.inr ⟨_, rfl, hc⟩)) h'))
theorem zw_iinc12 {M : zM} {n pc : Nat} {X : zCx} {st : List Value} {σ : zSt} {a0 a1 a2 a3 a4 a5 a6 a7 a8 a9 a10 a11 : Option Value} {t : List (Option Value)} {v : Int} {x y : Int32} (hB : zB M n X) (hd : decode M.2.1 pc = .ok (.iinc 12 v, 3)) (hv : x + Int32.ofInt v = y) (hc : zc1 a11 = true) (k : zW X (pc + 3) (a0 :: a1 :: a2 :: a3 :: a4 :: a5 :: a6 :: a7 :: a8 :: a9 :: a10 :: a11 :: some (.int y) :: t) st σ) : zW X pc (a0 :: a1 :: a2 :: a3 :: a4 :: a5 :: a6 :: a7 :: a8 :: a9 :: a10 :: a11 :: some (.int x) :: t) st σ := by
  intro H locs ls hP hS hL
  have hi : 12 < (a0 :: a1 :: a2 :: a3 :: a4 :: a5 :: a6 :: a7 :: a8 :: a9 :: a10 :: a11 :: some (.int x) :: t).length := by simp
  obtain ⟨q, hq⟩ := List.getElem?_of_mem (zal_in (X := X) (lv := a0 :: a1 :: a2 :: a3 :: a4 :: a5 :: a6 :: a7 :: a8 :: a9 :: a10 :: a11 :: some (.int x) :: t) (j := 12) (w := .int x) |>.mpr ⟨.int x, rfl, rfl⟩)
  exact lv_iinc hB.1 hB.2.1 hd hL.has hq hv (by rw [← hL.1, ← hL.2.1]; exact hi) rfl (fun ls' h' => k H locs ls' hP hS (hL.put1 (v := .int y) rfl (zput1_ok hi (Or.inr ⟨_, rfl, hc⟩)) h'))
theorem zw_istore13 {M : zM} {n pc : Nat} {X : zCx} {st : List Value} {σ : zSt} {a0 a1 a2 a3 a4 a5 a6 a7 a8 a9 a10 a11 a12 a13 : Option Value} {t : List (Option Value)} {x : Int32} (hB : zB M n X) (hd : decode M.2.1 pc = .ok (.istore 13, 2)) (hc : zc1 a12 = true) (k : zW X (pc + 2) (a0 :: a1 :: a2 :: a3 :: a4 :: a5 :: a6 :: a7 :: a8 :: a9 :: a10 :: a11 :: a12 :: some (.int x) :: t) st σ) : zW X pc (a0 :: a1 :: a2 :: a3 :: a4 :: a5 :: a6 :: a7 :: a8 :: a9 :: a10 :: a11 :: a12 :: a13 :: t) (.int x :: st) σ := by
  intro H locs ls hP hS hL
  have hi : 13 < (a0 :: a1 :: a2 :: a3 :: a4 :: a5 :: a6 :: a7 :: a8 :: a9 :: a10 :: a11 :: a12 :: a13 :: t).length := by simp
  exact lv_istore hB.1 hB.2.1 hd hL.has (by rw [← hL.1, ← hL.2.1]; exact hi) rfl (fun ls' h' => k H locs ls' hP hS (hL.put1 (v := .int x) rfl (zput1_ok hi (Or.inr ⟨_, rfl, hc⟩)) h'))
theorem zw_astore13 {M : zM} {n pc : Nat} {X : zCx} {st : List Value} {σ : zSt} {a0 a1 a2 a3 a4 a5 a6 a7 a8 a9 a10 a11 a12 a13 : Option Value} {t : List (Option Value)} {x : Nat} (hB : zB M n X) (hd : decode M.2.1 pc = .ok (.astore 13, 2)) (hc : zc1 a12 = true) (k : zW X (pc + 2) (a0 :: a1 :: a2 :: a3 :: a4 :: a5 :: a6 :: a7 :: a8 :: a9 :: a10 :: a11 :: a12 :: some (.ref x) :: t) st σ) : zW X pc (a0 :: a1 :: a2 :: a3 :: a4 :: a5 :: a6 :: a7 :: a8 :: a9 :: a10 :: a11 :: a12 :: a13 :: t) (.ref x :: st) σ := by
  intro H locs ls hP hS hL
  have hi : 13 < (a0 :: a1 :: a2 :: a3 :: a4 :: a5 :: a6 :: a7 :: a8 :: a9 :: a10 :: a11 :: a12 :: a13 :: t).length := by simp
  exact lv_astore hB.1 hB.2.1 hd hL.has (by rw [← hL.1, ← hL.2.1]; exact hi) rfl (fun ls' h' => k H locs ls' hP hS (hL.put1 (v := .ref x) rfl (zput1_ok hi (Or.inr ⟨_, rfl, hc⟩)) h'))
theorem zw_lstore13 {M : zM} {n pc : Nat} {X : zCx} {st : List Value} {σ : zSt} {a0 a1 a2 a3 a4 a5 a6 a7 a8 a9 a10 a11 a12 a13 a14 : Option Value} {t : List (Option Value)} {x : Int64} (hB : zB M n X) (hd : decode M.2.1 pc = .ok (.lstore 13, 2)) (hc : zc1 a12 = true) (k : zW X (pc + 2) (a0 :: a1 :: a2 :: a3 :: a4 :: a5 :: a6 :: a7 :: a8 :: a9 :: a10 :: a11 :: a12 :: some (.long x) :: none :: t) st σ) : zW X pc (a0 :: a1 :: a2 :: a3 :: a4 :: a5 :: a6 :: a7 :: a8 :: a9 :: a10 :: a11 :: a12 :: a13 :: a14 :: t) (.long x :: st) σ := by
  intro H locs ls hP hS hL
  have hi : 13 + 1 < (a0 :: a1 :: a2 :: a3 :: a4 :: a5 :: a6 :: a7 :: a8 :: a9 :: a10 :: a11 :: a12 :: a13 :: a14 :: t).length := by simp
  exact lv_lstore hB.1 hB.2.1 hd hL.has (by rw [← hL.1, ← hL.2.1]; exact hi) rfl (fun ls' h' => k H locs ls' hP hS (hL.put2 (v := .long x) rfl (zput2_ok hi (Or.inr ⟨_, rfl, hc⟩)) h'))
theorem zw_iinc13 {M : zM} {n pc : Nat} {X : zCx} {st : List Value} {σ : zSt} {a0 a1 a2 a3 a4 a5 a6 a7 a8 a9 a10 a11 a12 : Option Value} {t : List (Option Value)} {v : Int} {x y : Int32} (hB : zB M n X) (hd : decode M.2.1 pc = .ok (.iinc 13 v, 3)) (hv : x + Int32.ofInt v = y) (hc : zc1 a12 = true) (k : zW X (pc + 3) (a0 :: a1 :: a2 :: a3 :: a4 :: a5 :: a6 :: a7 :: a8 :: a9 :: a10 :: a11 :: a12 :: some (.int y) :: t) st σ) : zW X pc (a0 :: a1 :: a2 :: a3 :: a4 :: a5 :: a6 :: a7 :: a8 :: a9 :: a10 :: a11 :: a12 :: some (.int x) :: t) st σ := by
  intro H locs ls hP hS hL
  have hi : 13 < (a0 :: a1 :: a2 :: a3 :: a4 :: a5 :: a6 :: a7 :: a8 :: a9 :: a10 :: a11 :: a12 :: some (.int x) :: t).length := by simp
  obtain ⟨q, hq⟩ := List.getElem?_of_mem (zal_in (X := X) (lv := a0 :: a1 :: a2 :: a3 :: a4 :: a5 :: a6 :: a7 :: a8 :: a9 :: a10 :: a11 :: a12 :: some (.int x) :: t) (j := 13) (w := .int x) |>.mpr ⟨.int x, rfl, rfl⟩)
  exact lv_iinc hB.1 hB.2.1 hd hL.has hq hv (by rw [← hL.1, ← hL.2.1]; exact hi) rfl (fun ls' h' => k H locs ls' hP hS (hL.put1 (v := .int y) rfl (zput1_ok hi (Or.inr ⟨_, rfl, hc⟩)) h'))
theorem zw_istore14 {M : zM} {n pc : Nat} {X : zCx} {st : List Value} {σ : zSt} {a0 a1 a2 a3 a4 a5 a6 a7 a8 a9 a10 a11 a12 a13 a14 : Option Value} {t : List (Option Value)} {x : Int32} (hB : zB M n X) (hd : decode M.2.1 pc = .ok (.istore 14, 2)) (hc : zc1 a13 = true) (k : zW X (pc + 2) (a0 :: a1 :: a2 :: a3 :: a4 :: a5 :: a6 :: a7 :: a8 :: a9 :: a10 :: a11 :: a12 :: a13 :: some (.int x) :: t) st σ) : zW X pc (a0 :: a1 :: a2 :: a3 :: a4 :: a5 :: a6 :: a7 :: a8 :: a9 :: a10 :: a11 :: a12 :: a13 :: a14 :: t) (.int x :: st) σ := by
  intro H locs ls hP hS hL
  have hi : 14 < (a0 :: a1 :: a2 :: a3 :: a4 :: a5 :: a6 :: a7 :: a8 :: a9 :: a10 :: a11 :: a12 :: a13 :: a14 :: t).length := by simp
  exact lv_istore hB.1 hB.2.1 hd hL.has (by rw [← hL.1, ← hL.2.1]; exact hi) rfl (fun ls' h' => k H locs ls' hP hS (hL.put1 (v := .int x) rfl (zput1_ok hi (Or.inr ⟨_, rfl, hc⟩)) h'))
theorem zw_astore14 {M : zM} {n pc : Nat} {X : zCx} {st : List Value} {σ : zSt} {a0 a1 a2 a3 a4 a5 a6 a7 a8 a9 a10 a11 a12 a13 a14 : Option Value} {t : List (Option Value)} {x : Nat} (hB : zB M n X) (hd : decode M.2.1 pc = .ok (.astore 14, 2)) (hc : zc1 a13 = true) (k : zW X (pc + 2) (a0 :: a1 :: a2 :: a3 :: a4 :: a5 :: a6 :: a7 :: a8 :: a9 :: a10 :: a11 :: a12 :: a13 :: some (.ref x) :: t) st σ) : zW X pc (a0 :: a1 :: a2 :: a3 :: a4 :: a5 :: a6 :: a7 :: a8 :: a9 :: a10 :: a11 :: a12 :: a13 :: a14 :: t) (.ref x :: st) σ := by
  intro H locs ls hP hS hL
  have hi : 14 < (a0 :: a1 :: a2 :: a3 :: a4 :: a5 :: a6 :: a7 :: a8 :: a9 :: a10 :: a11 :: a12 :: a13 :: a14 :: t).length := by simp
  exact lv_astore hB.1 hB.2.1 hd hL.has (by rw [← hL.1, ← hL.2.1]; exact hi) rfl (fun ls' h' => k H locs ls' hP hS (hL.put1 (v := .ref x) rfl (zput1_ok hi (Or.inr ⟨_, rfl, hc⟩)) h'))
theorem zw_lstore14 {M : zM} {n pc : Nat} {X : zCx} {st : List Value} {σ : zSt} {a0 a1 a2 a3 a4 a5 a6 a7 a8 a9 a10 a11 a12 a13 a14 a15 : Option Value} {t : List (Option Value)} {x : Int64} (hB : zB M n X) (hd : decode M.2.1 pc = .ok (.lstore 14, 2)) (hc : zc1 a13 = true) (k : zW X (pc + 2) (a0 :: a1 :: a2 :: a3 :: a4 :: a5 :: a6 :: a7 :: a8 :: a9 :: a10 :: a11 :: a12 :: a13 :: some (.long x) :: none :: t) st σ) : zW X pc (a0 :: a1 :: a2 :: a3 :: a4 :: a5 :: a6 :: a7 :: a8 :: a9 :: a10 :: a11 :: a12 :: a13 :: a14 :: a15 :: t) (.long x :: st) σ := by
  intro H locs ls hP hS hL
  have hi : 14 + 1 < (a0 :: a1 :: a2 :: a3 :: a4 :: a5 :: a6 :: a7 :: a8 :: a9 :: a10 :: a11 :: a12 :: a13 :: a14 :: a15 :: t).length := by simp
  exact lv_lstore hB.1 hB.2.1 hd hL.has (by rw [← hL.1, ← hL.2.1]; exact hi) rfl (fun ls' h' => k H locs ls' hP hS (hL.put2 (v := .long x) rfl (zput2_ok hi (Or.inr ⟨_, rfl, hc⟩)) h'))
theorem zw_iinc14 {M : zM} {n pc : Nat} {X : zCx} {st : List Value} {σ : zSt} {a0 a1 a2 a3 a4 a5 a6 a7 a8 a9 a10 a11 a12 a13 : Option Value} {t : List (Option Value)} {v : Int} {x y : Int32} (hB : zB M n X) (hd : decode M.2.1 pc = .ok (.iinc 14 v, 3)) (hv : x + Int32.ofInt v = y) (hc : zc1 a13 = true) (k : zW X (pc + 3) (a0 :: a1 :: a2 :: a3 :: a4 :: a5 :: a6 :: a7 :: a8 :: a9 :: a10 :: a11 :: a12 :: a13 :: some (.int y) :: t) st σ) : zW X pc (a0 :: a1 :: a2 :: a3 :: a4 :: a5 :: a6 :: a7 :: a8 :: a9 :: a10 :: a11 :: a12 :: a13 :: some (.int x) :: t) st σ := by
  intro H locs ls hP hS hL
  have hi : 14 < (a0 :: a1 :: a2 :: a3 :: a4 :: a5 :: a6 :: a7 :: a8 :: a9 :: a10 :: a11 :: a12 :: a13 :: some (.int x) :: t).length := by simp
  obtain ⟨q, hq⟩ := List.getElem?_of_mem (zal_in (X := X) (lv := a0 :: a1 :: a2 :: a3 :: a4 :: a5 :: a6 :: a7 :: a8 :: a9 :: a10 :: a11 :: a12 :: a13 :: some (.int x) :: t) (j := 14) (w := .int x) |>.mpr ⟨.int x, rfl, rfl⟩)
  exact lv_iinc hB.1 hB.2.1 hd hL.has hq hv (by rw [← hL.1, ← hL.2.1]; exact hi) rfl (fun ls' h' => k H locs ls' hP hS (hL.put1 (v := .int y) rfl (zput1_ok hi (Or.inr ⟨_, rfl, hc⟩)) h'))
theorem zw_istore15 {M : zM} {n pc : Nat} {X : zCx} {st : List Value} {σ : zSt} {a0 a1 a2 a3 a4 a5 a6 a7 a8 a9 a10 a11 a12 a13 a14 a15 : Option Value} {t : List (Option Value)} {x : Int32} (hB : zB M n X) (hd : decode M.2.1 pc = .ok (.istore 15, 2)) (hc : zc1 a14 = true) (k : zW X (pc + 2) (a0 :: a1 :: a2 :: a3 :: a4 :: a5 :: a6 :: a7 :: a8 :: a9 :: a10 :: a11 :: a12 :: a13 :: a14 :: some (.int x) :: t) st σ) : zW X pc (a0 :: a1 :: a2 :: a3 :: a4 :: a5 :: a6 :: a7 :: a8 :: a9 :: a10 :: a11 :: a12 :: a13 :: a14 :: a15 :: t) (.int x :: st) σ := by
  intro H locs ls hP hS hL
  have hi : 15 < (a0 :: a1 :: a2 :: a3 :: a4 :: a5 :: a6 :: a7 :: a8 :: a9 :: a10 :: a11 :: a12 :: a13 :: a14 :: a15 :: t).length := by simp
  exact lv_istore hB.1 hB.2.1 hd hL.has (by rw [← hL.1, ← hL.2.1]; exact hi) rfl (fun ls' h' => k H locs ls' hP hS (hL.put1 (v := .int x) rfl (zput1_ok hi (Or.inr ⟨_, rfl, hc⟩)) h'))
theorem zw_astore15 {M : zM} {n pc : Nat} {X : zCx} {st : List Value} {σ : zSt} {a0 a1 a2 a3 a4 a5 a6 a7 a8 a9 a10 a11 a12 a13 a14 a15 : Option Value} {t : List (Option Value)} {x : Nat} (hB : zB M n X) (hd : decode M.2.1 pc = .ok (.astore 15, 2)) (hc : zc1 a14 = true) (k : zW X (pc + 2) (a0 :: a1 :: a2 :: a3 :: a4 :: a5 :: a6 :: a7 :: a8 :: a9 :: a10 :: a11 :: a12 :: a13 :: a14 :: some (.ref x) :: t) st σ) : zW X pc (a0 :: a1 :: a2 :: a3 :: a4 :: a5 :: a6 :: a7 :: a8 :: a9 :: a10 :: a11 :: a12 :: a13 :: a14 :: a15 :: t) (.ref x :: st) σ := by
  intro H locs ls hP hS hL
  have hi : 15 < (a0 :: a1 :: a2 :: a3 :: a4 :: a5 :: a6 :: a7 :: a8 :: a9 :: a10 :: a11 :: a12 :: a13 :: a14 :: a15 :: t).length := by simp
  exact lv_astore hB.1 hB.2.1 hd hL.has (by rw [← hL.1, ← hL.2.1]; exact hi) rfl (fun ls' h' => k H locs ls' hP hS (hL.put1 (v := .ref x) rfl (zput1_ok hi (Or.inr ⟨_, rfl, hc⟩)) h'))
theorem zw_iinc15 {M : zM} {n pc : Nat} {X : zCx} {st : List Value} {σ : zSt} {a0 a1 a2 a3 a4 a5 a6 a7 a8 a9 a10 a11 a12 a13 a14 : Option Value} {t : List (Option Value)} {v : Int} {x y : Int32} (hB : zB M n X) (hd : decode M.2.1 pc = .ok (.iinc 15 v, 3)) (hv : x + Int32.ofInt v = y) (hc : zc1 a14 = true) (k : zW X (pc + 3) (a0 :: a1 :: a2 :: a3 :: a4 :: a5 :: a6 :: a7 :: a8 :: a9 :: a10 :: a11 :: a12 :: a13 :: a14 :: some (.int y) :: t) st σ) : zW X pc (a0 :: a1 :: a2 :: a3 :: a4 :: a5 :: a6 :: a7 :: a8 :: a9 :: a10 :: a11 :: a12 :: a13 :: a14 :: some (.int x) :: t) st σ := by
  intro H locs ls hP hS hL
  have hi : 15 < (a0 :: a1 :: a2 :: a3 :: a4 :: a5 :: a6 :: a7 :: a8 :: a9 :: a10 :: a11 :: a12 :: a13 :: a14 :: some (.int x) :: t).length := by simp
  obtain ⟨q, hq⟩ := List.getElem?_of_mem (zal_in (X := X) (lv := a0 :: a1 :: a2 :: a3 :: a4 :: a5 :: a6 :: a7 :: a8 :: a9 :: a10 :: a11 :: a12 :: a13 :: a14 :: some (.int x) :: t) (j := 15) (w := .int x) |>.mpr ⟨.int x, rfl, rfl⟩)
  exact lv_iinc hB.1 hB.2.1 hd hL.has hq hv (by rw [← hL.1, ← hL.2.1]; exact hi) rfl (fun ls' h' => k H locs ls' hP hS (hL.put1 (v := .int y) rfl (zput1_ok hi (Or.inr ⟨_, rfl, hc⟩)) h'))
end
section
/-! RULES: returns, fields, arrays, calls -/
section zRT
variable {M : zM} {n pc : Nat} {X : zCx} {lv : List (Option Value)} {σ : zSt} {Q : Option Value → zSt → Prop}
theorem zw_iret {v : Int32} (hB : zB M n X) (hR : zRt X Q) (hd : decode M.2.1 pc = .ok (.ireturn, 1)) (hr : M.2.2.2 = some .int) (hq : Q (some (.int v)) σ) : zW X pc lv [.int v] σ := by
  intro H locs ls hP hS hL
  rw [hR.1]
  exact W.iret hB.1 hB.2.1 (hB.2.2.1.trans hr) (fun t ht _ => ⟨⟨some (.int v), σ, rfl, hq, by rw [ht]; exact hP⟩, hS.F ht⟩) hS.2.2 hd hR.2
theorem zw_zret {v : Int32} {ty : FieldType} (hB : zB M n X) (hR : zRt X Q) (hd : decode M.2.1 pc = .ok (.ireturn, 1)) (hr : M.2.2.2 = some ty) (hn : narrow ty (.int v) = .int v) (hq : Q (some (.int v)) σ) : zW X pc lv [.int v] σ := by
  intro H locs ls hP hS hL
  rw [hR.1]
  exact W.zret hB.1 hB.2.1 (hB.2.2.1.trans hr) hn (fun t ht _ => ⟨⟨some (.int v), σ, rfl, hq, by rw [ht]; exact hP⟩, hS.F ht⟩) hS.2.2 hd hR.2
theorem zw_lret {v : Int64} (hB : zB M n X) (hR : zRt X Q) (hd : decode M.2.1 pc = .ok (.lreturn, 1)) (hr : M.2.2.2 = some .long) (hq : Q (some (.long v)) σ) : zW X pc lv [.long v] σ := by
  intro H locs ls hP hS hL
  rw [hR.1]
  exact W.lret hB.1 hB.2.1 (hB.2.2.1.trans hr) (fun t ht _ => ⟨⟨some (.long v), σ, rfl, hq, by rw [ht]; exact hP⟩, hS.F ht⟩) hS.2.2 hd hR.2
theorem zw_vret (hB : zB M n X) (hR : zRt X Q) (hd : decode M.2.1 pc = .ok (.return_, 1)) (hr : M.2.2.2 = none) (hq : Q none σ) : zW X pc lv [] σ := by
  intro H locs ls hP hS hL
  rw [hR.1]
  exact W.vret hB.1 hB.2.1 (hB.2.2.1.trans hr) (fun t ht _ => ⟨⟨none, σ, rfl, hq, by rw [ht]; exact hP⟩, hS.F ht⟩) hS.2.2 hd hR.2
theorem zw_aret {j : Nat} {nm : String} (hB : zB M n X) (hR : zRt X Q) (hd : decode M.2.1 pc = .ok (.areturn, 1)) (hr : M.2.2.2 = some (.object nm)) (hq : Q (some (.ref j)) σ) : zW X pc lv [.ref j] σ := by
  intro H locs ls hP hS hL
  rw [hR.1]
  exact W.aret hB.1 hB.2.1 (hB.2.2.1.trans hr) (Or.inl ⟨_, rfl⟩) (Or.inr ⟨_, rfl⟩) (fun t ht _ => ⟨⟨some (.ref j), σ, rfl, hq, by rw [ht]; exact hP⟩, hS.F ht⟩) hS.2.2 hd hR.2
end zRT
/-- field idx of class own's pool: slot k of class number ci -/
def zF (own : String) (idx ci k : Nat) : Prop := ∃ (C : String) (T : u_T) (N : Nat), zcl[ci]? = some (C, T, N) ∧ k < N ∧ (∀ w ∈ u_ws C T N, w ∈ zts) ∧ Cond.fieldLink own idx C (T k).2.1 (T k).2.2.1 ∈ zts ∧ (T k).1 = C
/-- and it may be written: an int (or boolean) that isn't final -/
def zFw (own : String) (idx ci k : Nat) (ty : FieldType) : Prop := ∃ (C : String) (T : u_T) (N : Nat) (ty0 : Nat → FieldType), zcl[ci]? = some (C, T, N) ∧ k < N ∧ (∀ w ∈ u_ws C T N, w ∈ zts) ∧ Cond.fieldLink own idx C (T k).2.1 (T k).2.2.1 ∈ zts ∧ (T k).1 = C ∧
  (∀ k, k < N → parseFieldDescriptor (T k).2.2.1 = some (ty0 k)) ∧ (∀ a, a < N → ∀ b, b < N → a ≠ b → (T a).2.1 ≠ (T b).2.1) ∧ (T k).2.2.2 = false ∧ parseFieldDescriptor (T k).2.2.1 = some ty
section zFD
variable {M : zM} {n pc : Nat} {X : zCx} {lv : List (Option Value)} {st : List Value} {σ : zSt}
theorem zw_getfI {idx ci k i : Nat} {fs : List (Option Nat)} (hB : zB M n X) (hd : decode M.2.1 pc = .ok (.getfield idx, 3)) (hf : zF M.1.cls idx ci k) (hl : zLY[i]? = some (.inr (ci, fs))) (hk : fs[k]? = some none) (kk : zW X (pc + 3) lv (.int (σ i k) :: st) σ) : zW X pc lv (.ref i :: st) σ := by
  intro H locs ls hP hS hL
  obtain ⟨C, T, N, h1, h2, h3, h4, h5⟩ := hf
  exact va_get (T := T) (v := .int (σ i k)) hB.1 hB.2.1 hB.2.2.2.2.2.1 h3 hB.2.2.2.2.1 hB.2.2.2.2.2.2.1 hP i (zws_at hl) h1 k h2 (hB.2.2.2.2.2.1 _ h4) (fun x hx => by rw [h5] at hx; exact hx) (by simp [hk, zfld]) hd (kk H locs ls hP hS hL)
theorem zw_getfR {idx ci k i j : Nat} {fs : List (Option Nat)} (hB : zB M n X) (hd : decode M.2.1 pc = .ok (.getfield idx, 3)) (hf : zF M.1.cls idx ci k) (hl : zLY[i]? = some (.inr (ci, fs))) (hk : fs[k]? = some (some j)) (kk : zW X (pc + 3) lv (.ref j :: st) σ) : zW X pc lv (.ref i :: st) σ := by
  intro H locs ls hP hS hL
  obtain ⟨C, T, N, h1, h2, h3, h4, h5⟩ := hf
  exact va_get (T := T) (v := .ref ((zE X).2.2 j)) hB.1 hB.2.1 hB.2.2.2.2.2.1 h3 hB.2.2.2.2.1 hB.2.2.2.2.2.2.1 hP i (zws_at hl) h1 k h2 (hB.2.2.2.2.2.1 _ h4) (fun x hx => by rw [h5] at hx; exact hx) (by simp [hk, zfld]) hd (kk H locs ls hP hS hL)
theorem zws_putf {E : zEn} {i ci k : Nat} {fs : List (Option Nat)} {x : Int32} (hl : zLY[i]? = some (.inr (ci, fs))) (hk : fs[k]? = some none) : (zws E σ).set i (E.2.2 i, .inr (ci, (fs.mapIdx (fun k f => zfld E σ i k f)).set k (.int x))) = zws E (zC σ i (upd (σ i) k x)) := by
  rw [← zws_set (σ := σ) (τ := zC σ i (upd (σ i) k x)) hl (fun a ha => zC_n ha)]
  congr 1
  simp only [zcell, Prod.mk.injEq, true_and, Sum.inr.injEq]
  apply List.ext_getElem?
  intro j
  rw [List.getElem?_set]
  by_cases hj : k = j
  · subst hj
    have hlt : k < fs.length := (List.getElem?_eq_some_iff.mp hk).1
    rw [if_pos rfl, if_pos (by simpa using hlt), List.getElem?_mapIdx, hk]
    simp [zfld, zC, upd]
  · rw [if_neg hj, List.getElem?_mapIdx, List.getElem?_mapIdx]
    cases fs[j]? with
    | none => rfl
    | some f =>
      cases f with
      | none => simp [zfld, zC, upd, Ne.symm hj]
      | some q => simp [zfld]
theorem zw_putfG {idx ci k i : Nat} {fs : List (Option Nat)} {x : Int32} {ty : FieldType} (hB : zB M n X) (hd : decode M.2.1 pc = .ok (.putfield idx, 3)) (hf : zFw M.1.cls idx ci k ty) (hl : zLY[i]? = some (.inr (ci, fs))) (hk : fs[k]? = some none) (hn : narrow ty (.int x) = .int x) (hft : fits ty (.int x) = true) (kk : zW X (pc + 3) lv st (zC σ i (upd (σ i) k x))) : zW X pc lv (.int x :: .ref i :: st) σ := by
  intro H locs ls hP hS hL
  obtain ⟨C, T, N, ty0, h1, h2, h3, h4, h5, h6, h7, h8, h9⟩ := hf
  refine va_put (T := T) (v := .int x) hB.1 hB.2.1 hB.2.2.2.2.2.1 h3 ty0 h6 h7 hB.2.2.2.2.1 hB.2.2.2.2.2.2.1 hP (zD hB.2.2.2.2.2.2.2.1 σ) hS i (zws_at hl) h1 k h2 (hB.2.2.2.2.2.1 _ h4) (fun x hx => by rw [h5] at hx; exact hx) h8 h9 hn hft (by simpa using (List.getElem?_eq_some_iff.mp hk).1) hd (fun H1 locs1 hP1 _ hS1 => ?_)
  rw [zws_putf hl hk] at hP1
  exact kk H1 locs1 ls hP1 hS1 hL
theorem zw_putfI {idx ci k i : Nat} {fs : List (Option Nat)} {x : Int32} (hB : zB M n X) (hd : decode M.2.1 pc = .ok (.putfield idx, 3)) (hf : zFw M.1.cls idx ci k .int) (hl : zLY[i]? = some (.inr (ci, fs))) (hk : fs[k]? = some none) (kk : zW X (pc + 3) lv st (zC σ i (upd (σ i) k x))) : zW X pc lv (.int x :: .ref i :: st) σ := zw_putfG hB hd hf hl hk rfl rfl kk
theorem zw_iald {i N : Nat} {j : Int32} (hB : zB M n X) (hd : decode M.2.1 pc = .ok (.iaload, 1)) (hl : zLY[i]? = some (.inl N)) (hj : vp_in j N) (kk : zW X (pc + 1) lv (.int (σ i j.toNatClampNeg) :: st) σ) : zW X pc lv (.int j :: .ref i :: st) σ := by
  intro H locs ls hP hS hL
  exact va_iald hB.1 hB.2.1 hB.2.2.2.2.2.2.1 hP i 0 (zws_at hl) rfl hj hd (kk H locs ls hP hS hL)
theorem zw_alen {i N : Nat} (hB : zB M n X) (hd : decode M.2.1 pc = .ok (.arraylength, 1)) (hl : zLY[i]? = some (.inl N)) (kk : zW X (pc + 1) lv (.int (nI N) :: st) σ) : zW X pc lv (.ref i :: st) σ := by
  intro H locs ls hP hS hL
  exact va_alen hB.1 hB.2.1 hB.2.2.2.2.2.2.1 hP i 0 (zws_at hl) rfl rfl hd (kk H locs ls hP hS hL)
theorem zws_puta {E : zEn} {i N : Nat} {f : Nat → Int32} (hl : zLY[i]? = some (.inl N)) : (zws E σ).set i (E.2.2 i, .inl (E.2.1, N, .inl f)) = zws E (zC σ i f) := by
  rw [← zws_set (σ := σ) (τ := zC σ i f) hl (fun a ha => zC_n ha)]
  simp [zcell, zC]
theorem zw_iast {i N : Nat} {j x : Int32} (hB : zB M n X) (hd : decode M.2.1 pc = .ok (.iastore, 1)) (hl : zLY[i]? = some (.inl N)) (hj : vp_in j N) (kk : zW X (pc + 1) lv st (zC σ i (upd (σ i) j.toNatClampNeg x))) : zW X pc lv (.int x :: .int j :: .ref i :: st) σ := by
  intro H locs ls hP hS hL
  refine va_iast hB.1 hB.2.1 hB.2.2.2.2.2.2.1 hP (zD hB.2.2.2.2.2.2.2.1 σ) hS i 0 (zws_at hl) rfl hj hd (fun H1 locs1 hP1 _ hS1 => ?_)
  rw [zws_puta hl] at hP1
  exact kk H1 locs1 ls hP1 hS1 hL
theorem zw_copy {i0 i1 N0 N1 idx : Nat} {sp dp k : Int32} (hB : zB M (n + 1) X) (hd : decode M.2.1 pc = .ok (.invokestatic idx, 3)) (hw : Cond.methodLink M.1.cls idx arraycopyName ∈ zts) (hst : st = []) (hl0 : zLY[i0]? = some (.inl N0)) (hl1 : zLY[i1]? = some (.inl N1)) (h1 : ¬ sp < 0) (h2 : ¬ dp < 0) (h3 : ¬ k < 0) (h4 : sp.toNatClampNeg + k.toNatClampNeg ≤ N0) (h5 : dp.toNatClampNeg + k.toNatClampNeg ≤ N1)
    (kk : zW X (pc + 3) lv st (zC σ i1 (va_cpy (σ i0) (σ i1) sp.toNatClampNeg dp.toNatClampNeg k.toNatClampNeg))) : zW X pc lv (.int k :: .int dp :: .ref i1 :: .int sp :: .ref i0 :: st) σ := by
  intro H locs ls hP hS hL
  subst hst
  have hR := hB.2.2.2.2.2.2.2.2.2.1
  have hlo : 0 + (nativeFrameWords "java/lang/System" "arraycopy" 5 + 11) ≤ (zR X).locals := by
    have e : nativeFrameWords "java/lang/System" "arraycopy" 5 + 11 = 18 := by decide +kernel
    omega
  refine va_copyi hB.1 hB.2.1 hL.1.symm hB.2.2.2.2.1 (hB.2.2.2.2.2.1 _ hw) (hB.2.2.2.2.2.1 _ zt_nat) (hB.2.2.2.2.2.1 _ zt_stat) (hB.2.2.2.2.2.1 _ zt_ini) hB.2.2.2.2.2.2.1 hP (zD hB.2.2.2.2.2.2.2.1 σ) hS i0 i1 0 0 (zws_at hl0) (zws_at hl1) rfl rfl rfl h1 h2 h3 h4 h5 (fun _ _ => rfl) (by omega) hlo hd (fun H1 locs1 hP1 _ hS1 => ?_)
  rw [zws_puta hl1] at hP1
  exact kk H1 locs1 ls hP1 hS1 hL
theorem zw_max {idx : Nat} {x y : Int32} (hB : zB M (n + 1) X) (hd : decode M.2.1 pc = .ok (.invokestatic idx, 3)) (hw : Cond.methodLink M.1.cls idx Lib.Math.max.name ∈ zts) (hst : (st.map fun v => v.category).sum ≤ 8) (kk : zW X (pc + 3) lv (.int (if x < y then y else x) :: st) σ) : zW X pc lv (.int y :: .int x :: st) σ := by
  intro H locs ls hP hS hL
  have hR := hB.2.2.2.2.2.2.2.2.2.1
  have hC := hB.2.2.2.2.2.2.2.2.2.2
  have hst' : ((st.map (zV (zE X))).map fun v => v.category).sum ≤ 8 := by rw [List.map_map]; simpa [Function.comp_def, zV_cat] using hst
  exact va_mmax hB.1 hB.2.1 hL.1.symm hB.2.2.2.2.1 (hB.2.2.2.2.2.1 _ hw) (hB.2.2.2.2.2.1 _ zt_maxs) (hB.2.2.2.2.2.1 _ zt_math) (hB.2.2.2.2.2.1 _ zt_maxc) (by omega) (by omega) hC.1 hC.2 hd (kk H locs ls hP hS hL)
theorem zw_min {idx : Nat} {x y : Int32} (hB : zB M (n + 1) X) (hd : decode M.2.1 pc = .ok (.invokestatic idx, 3)) (hw : Cond.methodLink M.1.cls idx Lib.Math.min.name ∈ zts) (hst : (st.map fun v => v.category).sum ≤ 8) (kk : zW X (pc + 3) lv (.int (if y < x then y else x) :: st) σ) : zW X pc lv (.int y :: .int x :: st) σ := by
  intro H locs ls hP hS hL
  have hR := hB.2.2.2.2.2.2.2.2.2.1
  have hC := hB.2.2.2.2.2.2.2.2.2.2
  have hst' : ((st.map (zV (zE X))).map fun v => v.category).sum ≤ 8 := by rw [List.map_map]; simpa [Function.comp_def, zV_cat] using hst
  exact va_mmin hB.1 hB.2.1 hL.1.symm hB.2.2.2.2.1 (hB.2.2.2.2.2.1 _ hw) (hB.2.2.2.2.2.1 _ zt_mins) (hB.2.2.2.2.2.1 _ zt_math) (hB.2.2.2.2.2.1 _ zt_minc) (by omega) (by omega) hC.1 hC.2 hd (kk H locs ls hP hS hL)
end zFD


theorem zw_maxl {M : zM} {n pc : Nat} {X : zCx} {lv : List (Option Value)} {st : List Value} {σ : zSt} {idx : Nat} {x y : Int64} (hB : zB M (n + 1) X) (hd : decode M.2.1 pc = .ok (.invokestatic idx, 3)) (hw : Cond.methodLink M.1.cls idx Lib.MathLoose.max_long.x ∈ zts) (hst : (st.map fun v => v.category).sum ≤ 8) (kk : zW X (pc + 3) lv (.long (if y < x then x else y) :: st) σ) : zW X pc lv (.long y :: .long x :: st) σ := by
  intro H locs ls hP hS hL
  have hR := hB.2.2.2.2.2.2.2.2.2.1
  have hC := hB.2.2.2.2.2.2.2.2.2.2
  have hst' : ((st.map (zV (zE X))).map fun v => v.category).sum ≤ 8 := by rw [List.map_map]; simpa [Function.comp_def, zV_cat] using hst
  exact va_mmax_long hB.1 hB.2.1 hL.1.symm hB.2.2.2.2.1 (hB.2.2.2.2.2.1 _ hw) (hB.2.2.2.2.2.1 _ zt_maxls) (hB.2.2.2.2.2.1 _ zt_math) (hB.2.2.2.2.2.1 _ zt_maxlc) (by omega) (by omega) hC.1 hC.2 hd (kk H locs ls hP hS hL)
/-! what never changes -/
section zKR
variable {M : zM} {n pc : Nat} {X : zCx} {lv : List (Option Value)} {st : List Value} {σ : zSt}
theorem zK_get {X : zCx} {H : Heap} {locs : List Loc} (hS : va_S (zA (zE X)) (zs X).heap H locs) (a : Nat) (ha : a < (zs X).heap.size) (hn : ¬ zA (zE X) a) : H[a]? = (zs X).heap[a]? := hS.2.1 a ha hn
theorem zw_giving {idx : Nat} (hB : zB M n X) (hd : decode M.2.1 pc = .ok (.getstatic idx, 3)) (hw : Cond.fieldLink M.1.cls idx "RotationOfFarmers$Kinds" "GIVING" "[I" ∈ zts) (kk : zW X (pc + 3) lv (.ref 120 :: st) σ) : zW X pc lv st σ := by
  intro H locs ls hP hS hL
  exact va_gets hB.1 hB.2.1 hB.2.2.2.2.2.2.2.2.1.2.2.1.1 hS hB.2.2.2.2.1 (hB.2.2.2.2.2.1 _ hw) (fun _ h => h) hd (kk H locs ls hP hS hL)
theorem zw_tiring {idx : Nat} (hB : zB M n X) (hd : decode M.2.1 pc = .ok (.getstatic idx, 3)) (hw : Cond.fieldLink M.1.cls idx "RotationOfFarmers$Kinds" "TIRING" "[I" ∈ zts) (kk : zW X (pc + 3) lv (.ref 121 :: st) σ) : zW X pc lv st σ := by
  intro H locs ls hP hS hL
  exact va_gets hB.1 hB.2.1 hB.2.2.2.2.2.2.2.2.1.2.2.2.1.1 hS hB.2.2.2.2.1 (hB.2.2.2.2.2.1 _ hw) (fun _ h => h) hd (kk H locs ls hP hS hL)
theorem zw_compact {idx : Nat} (hB : zB M n X) (hd : decode M.2.1 pc = .ok (.getstatic idx, 3)) (hw : Cond.fieldLink M.1.cls idx "java/lang/String" "COMPACT_STRINGS" "Z" ∈ zts) (kk : zW X (pc + 3) lv (.int 1 :: st) σ) : zW X pc lv st σ := by
  intro H locs ls hP hS hL
  exact va_gets hB.1 hB.2.1 hB.2.2.2.2.2.2.2.2.1.2.2.2.2 hS hB.2.2.2.2.1 (hB.2.2.2.2.2.1 _ hw) (fun _ h => h) hd (kk H locs ls hP hS hL)
theorem zw_ldgiv {j : Int32} (hB : zB M n X) (hd : decode M.2.1 pc = .ok (.iaload, 1)) (hj : vp_in j 18) (kk : zW X (pc + 1) lv (.int (zgiv.getD j.toNatClampNeg 0) :: st) σ) : zW X pc lv (.int j :: .ref 120 :: st) σ := by
  intro H locs ls hP hS hL
  exact va_ti hB.1 hB.2.1 hB.2.2.2.2.2.2.2.2.1.2.2.1.2 hS hj rfl hd (kk H locs ls hP hS hL)
theorem zw_ldtir {j : Int32} (hB : zB M n X) (hd : decode M.2.1 pc = .ok (.iaload, 1)) (hj : vp_in j 6) (kk : zW X (pc + 1) lv (.int (ztir.getD j.toNatClampNeg 0) :: st) σ) : zW X pc lv (.int j :: .ref 121 :: st) σ := by
  intro H locs ls hP hS hL
  exact va_ti hB.1 hB.2.1 hB.2.2.2.2.2.2.2.2.1.2.2.2.1.2 hS hj rfl hd (kk H locs ls hP hS hL)
theorem zw_lengiv (hB : zB M n X) (hd : decode M.2.1 pc = .ok (.arraylength, 1)) (kk : zW X (pc + 1) lv (.int (nI 18) :: st) σ) : zW X pc lv (.ref 120 :: st) σ := by
  intro H locs ls hP hS hL
  exact va_tlen hB.1 hB.2.1 hB.2.2.2.2.2.2.2.2.1.2.2.1.2 hS rfl hd (kk H locs ls hP hS hL)
theorem zw_lentir (hB : zB M n X) (hd : decode M.2.1 pc = .ok (.arraylength, 1)) (kk : zW X (pc + 1) lv (.int (nI 6) :: st) σ) : zW X pc lv (.ref 121 :: st) σ := by
  intro H locs ls hP hS hL
  exact va_tlen hB.1 hB.2.1 hB.2.2.2.2.2.2.2.2.1.2.2.2.1.2 hS rfl hd (kk H locs ls hP hS hL)
theorem zw_svalue {idx i : Nat} (hi : i < 7) (hB : zB M n X) (hd : decode M.2.1 pc = .ok (.getfield idx, 3)) (hw : Cond.fieldLink M.1.cls idx "java/lang/String" "value" "[B" ∈ zts) (kk : zW X (pc + 3) lv (.ref (110 + i) :: st) σ) : zW X pc lv (.ref (100 + i) :: st) σ := by
  intro H locs ls hP hS hL
  exact vk_getf hB.1 hB.2.1 ((hB.2.2.2.2.2.2.2.2.1.1.1 i hi).2.2.1) hS hB.2.2.2.2.1 (hB.2.2.2.2.2.1 _ hw) (fun _ h => h) hd (kk H locs ls hP hS hL)
theorem zw_scoder {idx i : Nat} (hi : i < 7) (hB : zB M n X) (hd : decode M.2.1 pc = .ok (.getfield idx, 3)) (hw : Cond.fieldLink M.1.cls idx "java/lang/String" "coder" "B" ∈ zts) (kk : zW X (pc + 3) lv (.int 0 :: st) σ) : zW X pc lv (.ref (100 + i) :: st) σ := by
  intro H locs ls hP hS hL
  exact vk_getf hB.1 hB.2.1 ((hB.2.2.2.2.2.2.2.2.1.1.1 i hi).2.1) hS hB.2.2.2.2.1 (hB.2.2.2.2.2.1 _ hw) (fun _ h => h) hd (kk H locs ls hP hS hL)
theorem zw_sbyte {i : Nat} {j : Int32} (hi : i < 7) (hB : zB M n X) (hd : decode M.2.1 pc = .ok (.baload, 1)) (hj : vp_in j (zlen.getD i 0)) (kk : zW X (pc + 1) lv (.int ((zbyt.getD i []).getD j.toNatClampNeg 0) :: st) σ) : zW X pc lv (.int j :: .ref (110 + i) :: st) σ := by
  intro H locs ls hP hS hL
  exact va_tb hB.1 hB.2.1 ((hB.2.2.2.2.2.2.2.2.1.1.1 i hi).2.2.2) hS hj rfl hd (kk H locs ls hP hS hL)
theorem zw_slen {i : Nat} (hi : i < 7) (hB : zB M n X) (hd : decode M.2.1 pc = .ok (.arraylength, 1)) (kk : zW X (pc + 1) lv (.int (nI (zlen.getD i 0)) :: st) σ) : zW X pc lv (.ref (110 + i) :: st) σ := by
  intro H locs ls hP hS hL
  exact va_tlen hB.1 hB.2.1 ((hB.2.2.2.2.2.2.2.2.1.1.1 i hi).2.2.2) hS rfl hd (kk H locs ls hP hS hL)
end zKR
/-! calls -/
def zRc (C : String) (i : Nat) : Prop := (∃ (ci : Nat) (fs : List (Option Nat)) (q : vw_C), zLY[i]? = some (.inr (ci, fs)) ∧ zcl[ci]? = some q ∧ q.1 = C) ∨ (C = "java/lang/String" ∧ ∃ k, k < 7 ∧ i = 100 + k)
theorem zRc.of {C : String} {i ci : Nat} {fs : List (Option Nat)} {q : vw_C} (h : zLY[i]? = some (.inr (ci, fs))) (hc : zcl[ci]? = some q) (hq : q.1 = C) : zRc C i := Or.inl ⟨ci, fs, q, h, hc, hq⟩
theorem zRc.st {k : Nat} (h : k < 7) : zRc "java/lang/String" (100 + k) := Or.inr ⟨rfl, k, h, rfl⟩
theorem zblind (E : zEn) (as : List Value) (σ : zSt) : FrameBlind (va_Pc (as.map (zV E)) (fun U => zWd E σ U)) := by
  intro a U g mk q
  obtain ⟨q1, q2, q3, q4, q5⟩ := q
  exact ⟨q1, q2, va_K.moved (u := U) (U := U.calling g mk a) (Vm.Alike.refl U.vm) q3, q4, zK.same (u := U) (U := U.calling g mk a) rfl q5⟩
theorem zWd.of {M : zM} {n : Nat} {X : zCx} {σ : zSt} {H : Heap} {locs : List Loc} (hB : zB M n X) (hP : va_P (zE X).1 zcl (zws (zE X) σ) H) (hS : va_S (zA (zE X)) (zs X).heap H locs) {U : State} (hU : U.heap = H) (hW : (zs X).WarmedH U.vm) : zWd (zE X) σ U :=
  ⟨by rw [hU]; exact hP, va_K.moved hW.alike hB.2.2.2.2.2.2.1, hB.2.2.2.2.2.2.2.1, by rw [hU]; exact zK.to hW hB.2.2.2.2.2.2.2.2.1 (fun a h1 h2 => hS.2.1 a h1 h2)⟩
theorem zrun_go {M : zM} {n pc : Nat} {X : zCx} {H : Heap} {locs : List Loc} {ls : Array Slot} {rest st0 : List Value} {a : Array Value} {Q : Option Value → zSt → Prop}
    (hr : va_Run (zp X) (zl X) (ze X) (zR X) (zs X) (zm X) (zar X) (zbl X) (zmt X) (zco X) H locs (zce X) (zsl X) 0 0 (F0 (zm X) pc ls st0) rest (zQ (zE X) Q a) (zA (zE X))) (hS : va_S (zA (zE X)) (zs X).heap H locs)
    (kk : ∀ (v : Option Value) (τ : zSt) (H1 : Heap) (locs1 : List Loc), Q v τ → va_P (zE X).1 zcl (zws (zE X) τ) H1 → va_S (zA (zE X)) (zs X).heap H1 locs1 → W (zp X) (zl X) (ze X) (zR X) (zs X) (zm X) (zar X) (zbl X) (zmt X) (zco X) H1 locs1 (zce X) (zsl X) (zZ X) (F0 (zm X) (pc + 3) ls ((v.map (zV (zE X))).toList ++ rest))) :
    W (zp X) (zl X) (ze X) (zR X) (zs X) (zm X) (zar X) (zbl X) (zmt X) (zco X) H locs (zce X) (zsl X) (zZ X) (F0 (zm X) pc ls st0) := by
  intro T hT Y
  obtain ⟨v, st₀, t, T', L, h0, Y', hL, e1, e2, ⟨⟨r, τ, hv, hq, hb⟩, hz, hk⟩, st⟩ := hr T hT Y
  have hv : v = r.map (zV (zE X)) := by cases hv; rfl
  subst hv
  rw [h0] at hz hk
  obtain ⟨t2, a1, b1⟩ := kk r τ T'.heap (locs ++ L) hq (by rw [e1]; exact hb)
    ⟨Nat.le_trans hS.1 (by rw [e1]; exact hz), fun q h1 h2 => by rw [e1, hk q (Nat.lt_of_lt_of_le h1 hS.1) h2]; exact hS.2.1 q h1 h2, fun q hq => by
      rcases List.mem_append.mp hq with h | h
      · exact hS.2.2 q h
      · exact hL q h⟩ T' rfl Y'
  exact ⟨t2, st t2 a1, b1⟩
theorem zcat_sum (E : zEn) (st : List Value) : ((st.map (zV E)).map fun v => v.category).sum = (st.map fun v => v.category).sum := by
  rw [List.map_map]
  simp [Function.comp_def, zV_cat]
theorem zopt_list (E : zEn) (v : Option Value) (st : List Value) : (v.map (zV E)).toList ++ st.map (zV E) = (v.toList ++ st).map (zV E) := by cases v <;> simp
section zCL
variable {M M' : zM} {n n' k pc idx i : Nat} {X : zCx} {lv : List (Option Value)} {st as : List Value} {σ : zSt} {Q' : Option Value → zSt → Prop}
theorem zw_callG (hB : zB M (n + 1) X) (hd : decode M.2.1 pc = .ok (.invokevirtual idx, 3)) (hl : Cond.methodLink M.1.cls idx M'.1 ∈ zts) (hg : zGV M' k) (hk : as.length = k) (hmx : M'.2.2.1 ≤ 40) (hrc : zRc M'.1.cls i) (hst : (st.map fun v => v.category).sum ≤ 8) (hs : zSem n M' (.ref i :: as) σ Q')
    (kk : ∀ v τ, Q' v τ → zW X (pc + 3) lv (v.toList ++ st) τ) : zW X pc lv (as.reverse ++ .ref i :: st) σ := by
  intro H locs ls hP hS hL
  have hR := hB.2.2.2.2.2.2.2.2.2.1
  have hC := hB.2.2.2.2.2.2.2.2.2.2
  have hts := hB.2.2.2.2.2.1
  refine zrun_go (M := M) (n := n + 1) (rest := st.map (zV (zE X))) (va_runV (C := M'.1.cls) (As := as.map (zV (zE X))) (rest := st.map (zV (zE X))) (cc := M.2.1) (nL := M.2.2.1) (own := M.1.cls) (Ts := zts) ⟨hB.1, hB.2.1, hB.2.2.2.1, hB.2.2.2.2.1, hts⟩ (hs (zl X) (zE X))
    ⟨callB_of k hts (zgoodIn M' hg.1) rfl rfl rfl (hts _ hg.1.2.1) (hts _ hl) hg.1.2.2 ⟨?_, ?_⟩, hts _ hg.2.1, hts _ hg.2.2⟩ ⟨zblind _ _ _, ?_, fun U hU hW => ⟨rfl, zWd.of hB hP hS hU hW⟩⟩ rfl (by simpa using hk) (hL.1.trans hB.2.2.2.1) ?_ ?_ hd ⟨hC.1, hC.2⟩) hS (fun v τ H1 locs1 hq hP1 hS1 => ?_)
  · show n + 1 ≤ _
    omega
  · show 8 + (M'.2.2.1 + 11) + 64 * n ≤ _
    omega
  · rcases hrc with ⟨ci, fs, q, h1, h2, h3⟩ | ⟨h1, j, h2, h3⟩
    · obtain ⟨cell, c1, c2, c3⟩ := va_recv hB.2.2.2.2.2.2.1 hP h2 (zws_at h1)
      exact ⟨cell, c1, c2, by rw [← h3]; exact c3⟩
    · subst h3
      rw [h1]
      exact vk_recv (adK := fun i => (zE X).2.2 (100 + i)) (i := j) hB.2.2.2.2.2.2.2.2.1.1 h2 hS
  · simp [zV]
  · show 2 * 0 + _ ≤ 8
    rw [zcat_sum]
    omega
  · rw [zopt_list]
    exact kk v τ hq H1 locs1 ls hP1 hS1 hL
theorem zw_callSG (hB : zB M (n + 1) X) (hd : decode M.2.1 pc = .ok (.invokestatic idx, 3)) (hl : Cond.methodLink M.1.cls idx M'.1 ∈ zts) (hg : zGS M' k) (hk : as.length = k) (hmx : M'.2.2.1 ≤ 40) (hst : (st.map fun v => v.category).sum ≤ 8) (hs : zSem n M' as σ Q')
    (kk : ∀ v τ, Q' v τ → zW X (pc + 3) lv (v.toList ++ st) τ) : zW X pc lv (as.reverse ++ st) σ := by
  intro H locs ls hP hS hL
  have hR := hB.2.2.2.2.2.2.2.2.2.1
  have hC := hB.2.2.2.2.2.2.2.2.2.2
  have hts := hB.2.2.2.2.2.1
  refine zrun_go (M := M) (n := n + 1) (rest := st.map (zV (zE X))) (va_runS (As := as.map (zV (zE X))) (rest := st.map (zV (zE X))) (cc := M.2.1) (nL := M.2.2.1) (own := M.1.cls) (Ts := zts) ⟨hB.1, hB.2.1, hB.2.2.2.1, hB.2.2.2.2.1, hts⟩ (hs (zl X) (zE X))
    ⟨callB_of k hts (zgoodIn M' hg.1) rfl rfl rfl (hts _ hg.1.2.1) (hts _ hl) hg.1.2.2 ⟨?_, ?_⟩, hts _ hg.2⟩ ⟨zblind _ _ _, fun U hU hW => ⟨rfl, zWd.of hB hP hS hU hW⟩⟩ rfl (by simpa using hk) (hL.1.trans hB.2.2.2.1) ?_ ?_ hd ⟨hC.1, hC.2⟩) hS (fun v τ H1 locs1 hq hP1 hS1 => ?_)
  · show n + 1 ≤ _
    omega
  · show 8 + (M'.2.2.1 + 11) + 64 * n ≤ _
    omega
  · simp
  · show 2 * 0 + _ ≤ 8
    rw [zcat_sum]
    omega
  · rw [zopt_list]
    exact kk v τ hq H1 locs1 ls hP1 hS1 hL
end zCL

theorem zw_callV0 {M M' : zM} {n pc idx i : Nat} {X : zCx} {lv : List (Option Value)} {st : List Value} {σ : zSt} {Q' : Option Value → zSt → Prop} (hB : zB M (n + 1) X) (hd : decode M.2.1 pc = .ok (.invokevirtual idx, 3)) (hl : Cond.methodLink M.1.cls idx M'.1 ∈ zts) (hg : zGV M' 0) (hrc : zRc M'.1.cls i) (hs : zSem n M' [.ref i] σ Q') (kk : ∀ v τ, Q' v τ → zW X (pc + 3) lv (v.toList ++ st) τ) (hmx : M'.2.2.1 ≤ 40 := by decide) (hst : (st.map fun v => v.category).sum ≤ 8 := by first | exact Nat.le_of_ble_eq_true rfl | decide) : zW X pc lv (.ref i :: st) σ := zw_callG (as := []) hB hd hl hg rfl hmx hrc hst hs kk
theorem zw_callS0 {M M' : zM} {n pc idx : Nat} {X : zCx} {lv : List (Option Value)} {st : List Value} {σ : zSt} {Q' : Option Value → zSt → Prop} (hB : zB M (n + 1) X) (hd : decode M.2.1 pc = .ok (.invokestatic idx, 3)) (hl : Cond.methodLink M.1.cls idx M'.1 ∈ zts) (hg : zGS M' 0) (hs : zSem n M' [] σ Q') (kk : ∀ v τ, Q' v τ → zW X (pc + 3) lv (v.toList ++ st) τ) (hmx : M'.2.2.1 ≤ 40 := by decide) (hst : (st.map fun v => v.category).sum ≤ 8 := by first | exact Nat.le_of_ble_eq_true rfl | decide) : zW X pc lv (st) σ := zw_callSG (as := []) hB hd hl hg rfl hmx hst hs kk
theorem zw_callV1 {M M' : zM} {n pc idx i : Nat} {X : zCx} {lv : List (Option Value)} {st : List Value} {σ : zSt} {Q' : Option Value → zSt → Prop} {v0 : Value} (hB : zB M (n + 1) X) (hd : decode M.2.1 pc = .ok (.invokevirtual idx, 3)) (hl : Cond.methodLink M.1.cls idx M'.1 ∈ zts) (hg : zGV M' 1) (hrc : zRc M'.1.cls i) (hs : zSem n M' [.ref i, v0] σ Q') (kk : ∀ v τ, Q' v τ → zW X (pc + 3) lv (v.toList ++ st) τ) (hmx : M'.2.2.1 ≤ 40 := by decide) (hst : (st.map fun v => v.category).sum ≤ 8 := by first | exact Nat.le_of_ble_eq_true rfl | decide) : zW X pc lv (v0 :: .ref i :: st) σ := zw_callG (as := [v0]) hB hd hl hg rfl hmx hrc hst hs kk
theorem zw_callS1 {M M' : zM} {n pc idx : Nat} {X : zCx} {lv : List (Option Value)} {st : List Value} {σ : zSt} {Q' : Option Value → zSt → Prop} {v0 : Value} (hB : zB M (n + 1) X) (hd : decode M.2.1 pc = .ok (.invokestatic idx, 3)) (hl : Cond.methodLink M.1.cls idx M'.1 ∈ zts) (hg : zGS M' 1) (hs : zSem n M' [v0] σ Q') (kk : ∀ v τ, Q' v τ → zW X (pc + 3) lv (v.toList ++ st) τ) (hmx : M'.2.2.1 ≤ 40 := by decide) (hst : (st.map fun v => v.category).sum ≤ 8 := by first | exact Nat.le_of_ble_eq_true rfl | decide) : zW X pc lv (v0 :: st) σ := zw_callSG (as := [v0]) hB hd hl hg rfl hmx hst hs kk
theorem zw_callV2 {M M' : zM} {n pc idx i : Nat} {X : zCx} {lv : List (Option Value)} {st : List Value} {σ : zSt} {Q' : Option Value → zSt → Prop} {v0 v1 : Value} (hB : zB M (n + 1) X) (hd : decode M.2.1 pc = .ok (.invokevirtual idx, 3)) (hl : Cond.methodLink M.1.cls idx M'.1 ∈ zts) (hg : zGV M' 2) (hrc : zRc M'.1.cls i) (hs : zSem n M' [.ref i, v0, v1] σ Q') (kk : ∀ v τ, Q' v τ → zW X (pc + 3) lv (v.toList ++ st) τ) (hmx : M'.2.2.1 ≤ 40 := by decide) (hst : (st.map fun v => v.category).sum ≤ 8 := by first | exact Nat.le_of_ble_eq_true rfl | decide) : zW X pc lv (v1 :: v0 :: .ref i :: st) σ := zw_callG (as := [v0, v1]) hB hd hl hg rfl hmx hrc hst hs kk
theorem zw_callS2 {M M' : zM} {n pc idx : Nat} {X : zCx} {lv : List (Option Value)} {st : List Value} {σ : zSt} {Q' : Option Value → zSt → Prop} {v0 v1 : Value} (hB : zB M (n + 1) X) (hd : decode M.2.1 pc = .ok (.invokestatic idx, 3)) (hl : Cond.methodLink M.1.cls idx M'.1 ∈ zts) (hg : zGS M' 2) (hs : zSem n M' [v0, v1] σ Q') (kk : ∀ v τ, Q' v τ → zW X (pc + 3) lv (v.toList ++ st) τ) (hmx : M'.2.2.1 ≤ 40 := by decide) (hst : (st.map fun v => v.category).sum ≤ 8 := by first | exact Nat.le_of_ble_eq_true rfl | decide) : zW X pc lv (v1 :: v0 :: st) σ := zw_callSG (as := [v0, v1]) hB hd hl hg rfl hmx hst hs kk
theorem zw_callV3 {M M' : zM} {n pc idx i : Nat} {X : zCx} {lv : List (Option Value)} {st : List Value} {σ : zSt} {Q' : Option Value → zSt → Prop} {v0 v1 v2 : Value} (hB : zB M (n + 1) X) (hd : decode M.2.1 pc = .ok (.invokevirtual idx, 3)) (hl : Cond.methodLink M.1.cls idx M'.1 ∈ zts) (hg : zGV M' 3) (hrc : zRc M'.1.cls i) (hs : zSem n M' [.ref i, v0, v1, v2] σ Q') (kk : ∀ v τ, Q' v τ → zW X (pc + 3) lv (v.toList ++ st) τ) (hmx : M'.2.2.1 ≤ 40 := by decide) (hst : (st.map fun v => v.category).sum ≤ 8 := by first | exact Nat.le_of_ble_eq_true rfl | decide) : zW X pc lv (v2 :: v1 :: v0 :: .ref i :: st) σ := zw_callG (as := [v0, v1, v2]) hB hd hl hg rfl hmx hrc hst hs kk
theorem zw_callS3 {M M' : zM} {n pc idx : Nat} {X : zCx} {lv : List (Option Value)} {st : List Value} {σ : zSt} {Q' : Option Value → zSt → Prop} {v0 v1 v2 : Value} (hB : zB M (n + 1) X) (hd : decode M.2.1 pc = .ok (.invokestatic idx, 3)) (hl : Cond.methodLink M.1.cls idx M'.1 ∈ zts) (hg : zGS M' 3) (hs : zSem n M' [v0, v1, v2] σ Q') (kk : ∀ v τ, Q' v τ → zW X (pc + 3) lv (v.toList ++ st) τ) (hmx : M'.2.2.1 ≤ 40 := by decide) (hst : (st.map fun v => v.category).sum ≤ 8 := by first | exact Nat.le_of_ble_eq_true rfl | decide) : zW X pc lv (v2 :: v1 :: v0 :: st) σ := zw_callSG (as := [v0, v1, v2]) hB hd hl hg rfl hmx hst hs kk
theorem zw_callV4 {M M' : zM} {n pc idx i : Nat} {X : zCx} {lv : List (Option Value)} {st : List Value} {σ : zSt} {Q' : Option Value → zSt → Prop} {v0 v1 v2 v3 : Value} (hB : zB M (n + 1) X) (hd : decode M.2.1 pc = .ok (.invokevirtual idx, 3)) (hl : Cond.methodLink M.1.cls idx M'.1 ∈ zts) (hg : zGV M' 4) (hrc : zRc M'.1.cls i) (hs : zSem n M' [.ref i, v0, v1, v2, v3] σ Q') (kk : ∀ v τ, Q' v τ → zW X (pc + 3) lv (v.toList ++ st) τ) (hmx : M'.2.2.1 ≤ 40 := by decide) (hst : (st.map fun v => v.category).sum ≤ 8 := by first | exact Nat.le_of_ble_eq_true rfl | decide) : zW X pc lv (v3 :: v2 :: v1 :: v0 :: .ref i :: st) σ := zw_callG (as := [v0, v1, v2, v3]) hB hd hl hg rfl hmx hrc hst hs kk
theorem zw_callS4 {M M' : zM} {n pc idx : Nat} {X : zCx} {lv : List (Option Value)} {st : List Value} {σ : zSt} {Q' : Option Value → zSt → Prop} {v0 v1 v2 v3 : Value} (hB : zB M (n + 1) X) (hd : decode M.2.1 pc = .ok (.invokestatic idx, 3)) (hl : Cond.methodLink M.1.cls idx M'.1 ∈ zts) (hg : zGS M' 4) (hs : zSem n M' [v0, v1, v2, v3] σ Q') (kk : ∀ v τ, Q' v τ → zW X (pc + 3) lv (v.toList ++ st) τ) (hmx : M'.2.2.1 ≤ 40 := by decide) (hst : (st.map fun v => v.category).sum ≤ 8 := by first | exact Nat.le_of_ble_eq_true rfl | decide) : zW X pc lv (v3 :: v2 :: v1 :: v0 :: st) σ := zw_callSG (as := [v0, v1, v2, v3]) hB hd hl hg rfl hmx hst hs kk
theorem zw_callV5 {M M' : zM} {n pc idx i : Nat} {X : zCx} {lv : List (Option Value)} {st : List Value} {σ : zSt} {Q' : Option Value → zSt → Prop} {v0 v1 v2 v3 v4 : Value} (hB : zB M (n + 1) X) (hd : decode M.2.1 pc = .ok (.invokevirtual idx, 3)) (hl : Cond.methodLink M.1.cls idx M'.1 ∈ zts) (hg : zGV M' 5) (hrc : zRc M'.1.cls i) (hs : zSem n M' [.ref i, v0, v1, v2, v3, v4] σ Q') (kk : ∀ v τ, Q' v τ → zW X (pc + 3) lv (v.toList ++ st) τ) (hmx : M'.2.2.1 ≤ 40 := by decide) (hst : (st.map fun v => v.category).sum ≤ 8 := by first | exact Nat.le_of_ble_eq_true rfl | decide) : zW X pc lv (v4 :: v3 :: v2 :: v1 :: v0 :: .ref i :: st) σ := zw_callG (as := [v0, v1, v2, v3, v4]) hB hd hl hg rfl hmx hrc hst hs kk
theorem zw_callS5 {M M' : zM} {n pc idx : Nat} {X : zCx} {lv : List (Option Value)} {st : List Value} {σ : zSt} {Q' : Option Value → zSt → Prop} {v0 v1 v2 v3 v4 : Value} (hB : zB M (n + 1) X) (hd : decode M.2.1 pc = .ok (.invokestatic idx, 3)) (hl : Cond.methodLink M.1.cls idx M'.1 ∈ zts) (hg : zGS M' 5) (hs : zSem n M' [v0, v1, v2, v3, v4] σ Q') (kk : ∀ v τ, Q' v τ → zW X (pc + 3) lv (v.toList ++ st) τ) (hmx : M'.2.2.1 ≤ 40 := by decide) (hst : (st.map fun v => v.category).sum ≤ 8 := by first | exact Nat.le_of_ble_eq_true rfl | decide) : zW X pc lv (v4 :: v3 :: v2 :: v1 :: v0 :: st) σ := zw_callSG (as := [v0, v1, v2, v3, v4]) hB hd hl hg rfl hmx hst hs kk
theorem zw_callV6 {M M' : zM} {n pc idx i : Nat} {X : zCx} {lv : List (Option Value)} {st : List Value} {σ : zSt} {Q' : Option Value → zSt → Prop} {v0 v1 v2 v3 v4 v5 : Value} (hB : zB M (n + 1) X) (hd : decode M.2.1 pc = .ok (.invokevirtual idx, 3)) (hl : Cond.methodLink M.1.cls idx M'.1 ∈ zts) (hg : zGV M' 6) (hrc : zRc M'.1.cls i) (hs : zSem n M' [.ref i, v0, v1, v2, v3, v4, v5] σ Q') (kk : ∀ v τ, Q' v τ → zW X (pc + 3) lv (v.toList ++ st) τ) (hmx : M'.2.2.1 ≤ 40 := by decide) (hst : (st.map fun v => v.category).sum ≤ 8 := by first | exact Nat.le_of_ble_eq_true rfl | decide) : zW X pc lv (v5 :: v4 :: v3 :: v2 :: v1 :: v0 :: .ref i :: st) σ := zw_callG (as := [v0, v1, v2, v3, v4, v5]) hB hd hl hg rfl hmx hrc hst hs kk
end
section
/-! FIELDS: by program -/
theorem zin1 : ∀ w ∈ u_ws RX1 TX1 13, w ∈ zts := by
  intro w hw
  have h1 := goodIn_of (big := lw_tbl) (u_ws RX1 TX1 13) (by decide +kernel) w hw
  exact List.mem_filter.mpr ⟨h1.1, (List.all_eq_true.mp (show (u_ws RX1 TX1 13).all goodWord = true by decide +kernel)) w hw⟩
theorem zin2 : ∀ w ∈ u_ws RX2 TX2 2, w ∈ zts := by
  intro w hw
  have h1 := goodIn_of (big := lw_tbl) (u_ws RX2 TX2 2) (by decide +kernel) w hw
  exact List.mem_filter.mpr ⟨h1.1, (List.all_eq_true.mp (show (u_ws RX2 TX2 2).all goodWord = true by decide +kernel)) w hw⟩
theorem zin3 : ∀ w ∈ u_ws RX3 TX3 6, w ∈ zts := by
  intro w hw
  have h1 := goodIn_of (big := lw_tbl) (u_ws RX3 TX3 6) (by decide +kernel) w hw
  exact List.mem_filter.mpr ⟨h1.1, (List.all_eq_true.mp (show (u_ws RX3 TX3 6).all goodWord = true by decide +kernel)) w hw⟩
theorem zin4 : ∀ w ∈ u_ws RX4 TX4 1, w ∈ zts := by
  intro w hw
  have h1 := goodIn_of (big := lw_tbl) (u_ws RX4 TX4 1) (by decide +kernel) w hw
  exact List.mem_filter.mpr ⟨h1.1, (List.all_eq_true.mp (show (u_ws RX4 TX4 1).all goodWord = true by decide +kernel)) w hw⟩
theorem zin5 : ∀ w ∈ u_ws RX5 TX5 9, w ∈ zts := by
  intro w hw
  have h1 := goodIn_of (big := lw_tbl) (u_ws RX5 TX5 9) (by decide +kernel) w hw
  exact List.mem_filter.mpr ⟨h1.1, (List.all_eq_true.mp (show (u_ws RX5 TX5 9).all goodWord = true by decide +kernel)) w hw⟩
theorem zin6 : ∀ w ∈ u_ws RX6 TX6 18, w ∈ zts := by
  intro w hw
  have h1 := goodIn_of (big := lw_tbl) (u_ws RX6 TX6 18) (by decide +kernel) w hw
  exact List.mem_filter.mpr ⟨h1.1, (List.all_eq_true.mp (show (u_ws RX6 TX6 18).all goodWord = true by decide +kernel)) w hw⟩
theorem zf_X1_37 : zF RX1 37 0 0 := ⟨RX1, TX1, 13, rfl, by decide, zin1, zmem 63 (by decide +kernel) rfl, rfl⟩
theorem zfw_X1_37 : zFw RX1 37 0 0 .int := ⟨RX1, TX1, 13, tyX1, rfl, by decide, zin1, zmem 63 (by decide +kernel) rfl, rfl, tyX1_ok, nmX1, rfl, by decide +kernel⟩
theorem zf_X4_15 : zF RX4 15 0 0 := ⟨RX1, TX1, 13, rfl, by decide, zin1, zmem 64 (by decide +kernel) rfl, rfl⟩
theorem zfw_X4_15 : zFw RX4 15 0 0 .int := ⟨RX1, TX1, 13, tyX1, rfl, by decide, zin1, zmem 64 (by decide +kernel) rfl, rfl, tyX1_ok, nmX1, rfl, by decide +kernel⟩
theorem zf_X2_95 : zF RX2 95 0 0 := ⟨RX1, TX1, 13, rfl, by decide, zin1, zmem 65 (by decide +kernel) rfl, rfl⟩
theorem zfw_X2_95 : zFw RX2 95 0 0 .int := ⟨RX1, TX1, 13, tyX1, rfl, by decide, zin1, zmem 65 (by decide +kernel) rfl, rfl, tyX1_ok, nmX1, rfl, by decide +kernel⟩
theorem zf_X3_114 : zF RX3 114 0 0 := ⟨RX1, TX1, 13, rfl, by decide, zin1, zmem 66 (by decide +kernel) rfl, rfl⟩
theorem zfw_X3_114 : zFw RX3 114 0 0 .int := ⟨RX1, TX1, 13, tyX1, rfl, by decide, zin1, zmem 66 (by decide +kernel) rfl, rfl, tyX1_ok, nmX1, rfl, by decide +kernel⟩
theorem zf_X5_237 : zF RX5 237 0 0 := ⟨RX1, TX1, 13, rfl, by decide, zin1, zmem 67 (by decide +kernel) rfl, rfl⟩
theorem zfw_X5_237 : zFw RX5 237 0 0 .int := ⟨RX1, TX1, 13, tyX1, rfl, by decide, zin1, zmem 67 (by decide +kernel) rfl, rfl, tyX1_ok, nmX1, rfl, by decide +kernel⟩
theorem zf_X1_40 : zF RX1 40 0 1 := ⟨RX1, TX1, 13, rfl, by decide, zin1, zmem 68 (by decide +kernel) rfl, rfl⟩
theorem zfw_X1_40 : zFw RX1 40 0 1 .int := ⟨RX1, TX1, 13, tyX1, rfl, by decide, zin1, zmem 68 (by decide +kernel) rfl, rfl, tyX1_ok, nmX1, rfl, by decide +kernel⟩
theorem zf_X4_21 : zF RX4 21 0 1 := ⟨RX1, TX1, 13, rfl, by decide, zin1, zmem 69 (by decide +kernel) rfl, rfl⟩
theorem zfw_X4_21 : zFw RX4 21 0 1 .int := ⟨RX1, TX1, 13, tyX1, rfl, by decide, zin1, zmem 69 (by decide +kernel) rfl, rfl, tyX1_ok, nmX1, rfl, by decide +kernel⟩
theorem zf_X2_104 : zF RX2 104 0 1 := ⟨RX1, TX1, 13, rfl, by decide, zin1, zmem 70 (by decide +kernel) rfl, rfl⟩
theorem zfw_X2_104 : zFw RX2 104 0 1 .int := ⟨RX1, TX1, 13, tyX1, rfl, by decide, zin1, zmem 70 (by decide +kernel) rfl, rfl, tyX1_ok, nmX1, rfl, by decide +kernel⟩
theorem zf_X3_75 : zF RX3 75 0 1 := ⟨RX1, TX1, 13, rfl, by decide, zin1, zmem 71 (by decide +kernel) rfl, rfl⟩
theorem zfw_X3_75 : zFw RX3 75 0 1 .int := ⟨RX1, TX1, 13, tyX1, rfl, by decide, zin1, zmem 71 (by decide +kernel) rfl, rfl, tyX1_ok, nmX1, rfl, by decide +kernel⟩
theorem zf_X5_269 : zF RX5 269 0 1 := ⟨RX1, TX1, 13, rfl, by decide, zin1, zmem 72 (by decide +kernel) rfl, rfl⟩
theorem zfw_X5_269 : zFw RX5 269 0 1 .int := ⟨RX1, TX1, 13, tyX1, rfl, by decide, zin1, zmem 72 (by decide +kernel) rfl, rfl, tyX1_ok, nmX1, rfl, by decide +kernel⟩
theorem zf_X1_9 : zF RX1 9 0 2 := ⟨RX1, TX1, 13, rfl, by decide, zin1, zmem 73 (by decide +kernel) rfl, rfl⟩
theorem zfw_X1_9 : zFw RX1 9 0 2 .int := ⟨RX1, TX1, 13, tyX1, rfl, by decide, zin1, zmem 73 (by decide +kernel) rfl, rfl, tyX1_ok, nmX1, rfl, by decide +kernel⟩
theorem zf_X3_63 : zF RX3 63 0 2 := ⟨RX1, TX1, 13, rfl, by decide, zin1, zmem 74 (by decide +kernel) rfl, rfl⟩
theorem zfw_X3_63 : zFw RX3 63 0 2 .int := ⟨RX1, TX1, 13, tyX1, rfl, by decide, zin1, zmem 74 (by decide +kernel) rfl, rfl, tyX1_ok, nmX1, rfl, by decide +kernel⟩
theorem zf_X5_132 : zF RX5 132 0 2 := ⟨RX1, TX1, 13, rfl, by decide, zin1, zmem 75 (by decide +kernel) rfl, rfl⟩
theorem zfw_X5_132 : zFw RX5 132 0 2 .int := ⟨RX1, TX1, 13, tyX1, rfl, by decide, zin1, zmem 75 (by decide +kernel) rfl, rfl, tyX1_ok, nmX1, rfl, by decide +kernel⟩
theorem zf_X2_133 : zF RX2 133 0 2 := ⟨RX1, TX1, 13, rfl, by decide, zin1, zmem 76 (by decide +kernel) rfl, rfl⟩
theorem zfw_X2_133 : zFw RX2 133 0 2 .int := ⟨RX1, TX1, 13, tyX1, rfl, by decide, zin1, zmem 76 (by decide +kernel) rfl, rfl, tyX1_ok, nmX1, rfl, by decide +kernel⟩
theorem zf_X1_43 : zF RX1 43 0 3 := ⟨RX1, TX1, 13, rfl, by decide, zin1, zmem 77 (by decide +kernel) rfl, rfl⟩
theorem zfw_X1_43 : zFw RX1 43 0 3 .int := ⟨RX1, TX1, 13, tyX1, rfl, by decide, zin1, zmem 77 (by decide +kernel) rfl, rfl, tyX1_ok, nmX1, rfl, by decide +kernel⟩
theorem zf_X5_141 : zF RX5 141 0 3 := ⟨RX1, TX1, 13, rfl, by decide, zin1, zmem 78 (by decide +kernel) rfl, rfl⟩
theorem zfw_X5_141 : zFw RX5 141 0 3 .int := ⟨RX1, TX1, 13, tyX1, rfl, by decide, zin1, zmem 78 (by decide +kernel) rfl, rfl, tyX1_ok, nmX1, rfl, by decide +kernel⟩
theorem zf_X1_46 : zF RX1 46 0 4 := ⟨RX1, TX1, 13, rfl, by decide, zin1, zmem 79 (by decide +kernel) rfl, rfl⟩
theorem zfw_X1_46 : zFw RX1 46 0 4 .int := ⟨RX1, TX1, 13, tyX1, rfl, by decide, zin1, zmem 79 (by decide +kernel) rfl, rfl, tyX1_ok, nmX1, rfl, by decide +kernel⟩
theorem zf_X5_266 : zF RX5 266 0 4 := ⟨RX1, TX1, 13, rfl, by decide, zin1, zmem 80 (by decide +kernel) rfl, rfl⟩
theorem zfw_X5_266 : zFw RX5 266 0 4 .int := ⟨RX1, TX1, 13, tyX1, rfl, by decide, zin1, zmem 80 (by decide +kernel) rfl, rfl, tyX1_ok, nmX1, rfl, by decide +kernel⟩
theorem zf_X3_108 : zF RX3 108 0 5 := ⟨RX1, TX1, 13, rfl, by decide, zin1, zmem 81 (by decide +kernel) rfl, rfl⟩
theorem zfw_X3_108 : zFw RX3 108 0 5 .int := ⟨RX1, TX1, 13, tyX1, rfl, by decide, zin1, zmem 81 (by decide +kernel) rfl, rfl, tyX1_ok, nmX1, rfl, by decide +kernel⟩
theorem zf_X1_110 : zF RX1 110 0 5 := ⟨RX1, TX1, 13, rfl, by decide, zin1, zmem 82 (by decide +kernel) rfl, rfl⟩
theorem zfw_X1_110 : zFw RX1 110 0 5 .int := ⟨RX1, TX1, 13, tyX1, rfl, by decide, zin1, zmem 82 (by decide +kernel) rfl, rfl, tyX1_ok, nmX1, rfl, by decide +kernel⟩
theorem zf_X5_278 : zF RX5 278 0 5 := ⟨RX1, TX1, 13, rfl, by decide, zin1, zmem 83 (by decide +kernel) rfl, rfl⟩
theorem zfw_X5_278 : zFw RX5 278 0 5 .int := ⟨RX1, TX1, 13, tyX1, rfl, by decide, zin1, zmem 83 (by decide +kernel) rfl, rfl, tyX1_ok, nmX1, rfl, by decide +kernel⟩
theorem zf_X1_15 : zF RX1 15 0 6 := ⟨RX1, TX1, 13, rfl, by decide, zin1, zmem 84 (by decide +kernel) rfl, rfl⟩
theorem zf_X3_117 : zF RX3 117 0 6 := ⟨RX1, TX1, 13, rfl, by decide, zin1, zmem 85 (by decide +kernel) rfl, rfl⟩
theorem zf_X1_19 : zF RX1 19 0 7 := ⟨RX1, TX1, 13, rfl, by decide, zin1, zmem 86 (by decide +kernel) rfl, rfl⟩
theorem zf_X3_60 : zF RX3 60 0 7 := ⟨RX1, TX1, 13, rfl, by decide, zin1, zmem 87 (by decide +kernel) rfl, rfl⟩
theorem zf_X1_22 : zF RX1 22 0 8 := ⟨RX1, TX1, 13, rfl, by decide, zin1, zmem 88 (by decide +kernel) rfl, rfl⟩
theorem zf_X3_43 : zF RX3 43 0 8 := ⟨RX1, TX1, 13, rfl, by decide, zin1, zmem 89 (by decide +kernel) rfl, rfl⟩
theorem zf_X5_101 : zF RX5 101 0 8 := ⟨RX1, TX1, 13, rfl, by decide, zin1, zmem 90 (by decide +kernel) rfl, rfl⟩
theorem zf_X1_25 : zF RX1 25 0 9 := ⟨RX1, TX1, 13, rfl, by decide, zin1, zmem 91 (by decide +kernel) rfl, rfl⟩
theorem zf_X3_46 : zF RX3 46 0 9 := ⟨RX1, TX1, 13, rfl, by decide, zin1, zmem 92 (by decide +kernel) rfl, rfl⟩
theorem zf_X5_104 : zF RX5 104 0 9 := ⟨RX1, TX1, 13, rfl, by decide, zin1, zmem 93 (by decide +kernel) rfl, rfl⟩
theorem zf_X1_28 : zF RX1 28 0 10 := ⟨RX1, TX1, 13, rfl, by decide, zin1, zmem 94 (by decide +kernel) rfl, rfl⟩
theorem zf_X5_107 : zF RX5 107 0 10 := ⟨RX1, TX1, 13, rfl, by decide, zin1, zmem 95 (by decide +kernel) rfl, rfl⟩
theorem zf_X3_99 : zF RX3 99 0 10 := ⟨RX1, TX1, 13, rfl, by decide, zin1, zmem 96 (by decide +kernel) rfl, rfl⟩
theorem zf_X1_31 : zF RX1 31 0 11 := ⟨RX1, TX1, 13, rfl, by decide, zin1, zmem 97 (by decide +kernel) rfl, rfl⟩
theorem zf_X5_110 : zF RX5 110 0 11 := ⟨RX1, TX1, 13, rfl, by decide, zin1, zmem 98 (by decide +kernel) rfl, rfl⟩
theorem zf_X3_78 : zF RX3 78 0 11 := ⟨RX1, TX1, 13, rfl, by decide, zin1, zmem 99 (by decide +kernel) rfl, rfl⟩
theorem zf_X2_124 : zF RX2 124 0 11 := ⟨RX1, TX1, 13, rfl, by decide, zin1, zmem 100 (by decide +kernel) rfl, rfl⟩
theorem zf_X1_34 : zF RX1 34 0 12 := ⟨RX1, TX1, 13, rfl, by decide, zin1, zmem 101 (by decide +kernel) rfl, rfl⟩
theorem zf_X3_96 : zF RX3 96 0 12 := ⟨RX1, TX1, 13, rfl, by decide, zin1, zmem 102 (by decide +kernel) rfl, rfl⟩
theorem zf_X2_9 : zF RX2 9 1 0 := ⟨RX2, TX2, 2, rfl, by decide, zin2, zmem 137 (by decide +kernel) rfl, rfl⟩
theorem zf_X2_15 : zF RX2 15 1 1 := ⟨RX2, TX2, 2, rfl, by decide, zin2, zmem 138 (by decide +kernel) rfl, rfl⟩
theorem zfw_X2_15 : zFw RX2 15 1 1 .int := ⟨RX2, TX2, 2, tyX2, rfl, by decide, zin2, zmem 138 (by decide +kernel) rfl, rfl, tyX2_ok, nmX2, rfl, by decide +kernel⟩
theorem zf_X5_66 : zF RX5 66 1 1 := ⟨RX2, TX2, 2, rfl, by decide, zin2, zmem 139 (by decide +kernel) rfl, rfl⟩
theorem zfw_X5_66 : zFw RX5 66 1 1 .int := ⟨RX2, TX2, 2, tyX2, rfl, by decide, zin2, zmem 139 (by decide +kernel) rfl, rfl, tyX2_ok, nmX2, rfl, by decide +kernel⟩
theorem zf_X4_11 : zF RX4 11 3 0 := ⟨RX4, TX4, 1, rfl, by decide, zin4, zmem 159 (by decide +kernel) rfl, rfl⟩
theorem zf_X3_12 : zF RX3 12 2 0 := ⟨RX3, TX3, 6, rfl, by decide, zin3, zmem 163 (by decide +kernel) rfl, rfl⟩
theorem zf_X5_272 : zF RX5 272 2 0 := ⟨RX3, TX3, 6, rfl, by decide, zin3, zmem 164 (by decide +kernel) rfl, rfl⟩
theorem zf_X3_24 : zF RX3 24 2 1 := ⟨RX3, TX3, 6, rfl, by decide, zin3, zmem 165 (by decide +kernel) rfl, rfl⟩
theorem zf_X5_178 : zF RX5 178 2 1 := ⟨RX3, TX3, 6, rfl, by decide, zin3, zmem 166 (by decide +kernel) rfl, rfl⟩
theorem zf_X3_18 : zF RX3 18 2 2 := ⟨RX3, TX3, 6, rfl, by decide, zin3, zmem 167 (by decide +kernel) rfl, rfl⟩
theorem zf_X3_28 : zF RX3 28 2 3 := ⟨RX3, TX3, 6, rfl, by decide, zin3, zmem 168 (by decide +kernel) rfl, rfl⟩
theorem zf_X3_32 : zF RX3 32 2 4 := ⟨RX3, TX3, 6, rfl, by decide, zin3, zmem 169 (by decide +kernel) rfl, rfl⟩
theorem zf_X3_111 : zF RX3 111 2 5 := ⟨RX3, TX3, 6, rfl, by decide, zin3, zmem 170 (by decide +kernel) rfl, rfl⟩
theorem zfw_X3_111 : zFw RX3 111 2 5 .int := ⟨RX3, TX3, 6, tyX3, rfl, by decide, zin3, zmem 170 (by decide +kernel) rfl, rfl, tyX3_ok, nmX3, rfl, by decide +kernel⟩
theorem zf_X5_10 : zF RX5 10 4 0 := ⟨RX5, TX5, 9, rfl, by decide, zin5, zmem 184 (by decide +kernel) rfl, rfl⟩
theorem zf_X5_16 : zF RX5 16 4 1 := ⟨RX5, TX5, 9, rfl, by decide, zin5, zmem 185 (by decide +kernel) rfl, rfl⟩
theorem zf_X5_262 : zF RX5 262 4 2 := ⟨RX5, TX5, 9, rfl, by decide, zin5, zmem 186 (by decide +kernel) rfl, rfl⟩
theorem zfw_X5_262 : zFw RX5 262 4 2 .boolean := ⟨RX5, TX5, 9, tyX5, rfl, by decide, zin5, zmem 186 (by decide +kernel) rfl, rfl, tyX5_ok, nmX5, rfl, by decide +kernel⟩
theorem zf_X5_19 : zF RX5 19 4 3 := ⟨RX5, TX5, 9, rfl, by decide, zin5, zmem 187 (by decide +kernel) rfl, rfl⟩
theorem zf_X5_25 : zF RX5 25 4 4 := ⟨RX5, TX5, 9, rfl, by decide, zin5, zmem 188 (by decide +kernel) rfl, rfl⟩
theorem zf_X5_32 : zF RX5 32 4 5 := ⟨RX5, TX5, 9, rfl, by decide, zin5, zmem 189 (by decide +kernel) rfl, rfl⟩
theorem zf_X5_36 : zF RX5 36 4 6 := ⟨RX5, TX5, 9, rfl, by decide, zin5, zmem 190 (by decide +kernel) rfl, rfl⟩
theorem zf_X5_252 : zF RX5 252 4 7 := ⟨RX5, TX5, 9, rfl, by decide, zin5, zmem 191 (by decide +kernel) rfl, rfl⟩
theorem zfw_X5_252 : zFw RX5 252 4 7 .int := ⟨RX5, TX5, 9, tyX5, rfl, by decide, zin5, zmem 191 (by decide +kernel) rfl, rfl, tyX5_ok, nmX5, rfl, by decide +kernel⟩
theorem zf_X5_40 : zF RX5 40 4 8 := ⟨RX5, TX5, 9, rfl, by decide, zin5, zmem 192 (by decide +kernel) rfl, rfl⟩
theorem zf_X6_9 : zF RX6 9 5 0 := ⟨RX6, TX6, 18, rfl, by decide, zin6, zmem 866 (by decide +kernel) rfl, rfl⟩
theorem zf_X6_13 : zF RX6 13 5 1 := ⟨RX6, TX6, 18, rfl, by decide, zin6, zmem 867 (by decide +kernel) rfl, rfl⟩
theorem zf_X6_16 : zF RX6 16 5 2 := ⟨RX6, TX6, 18, rfl, by decide, zin6, zmem 868 (by decide +kernel) rfl, rfl⟩
theorem zf_X6_19 : zF RX6 19 5 3 := ⟨RX6, TX6, 18, rfl, by decide, zin6, zmem 869 (by decide +kernel) rfl, rfl⟩
theorem zf_X6_22 : zF RX6 22 5 4 := ⟨RX6, TX6, 18, rfl, by decide, zin6, zmem 870 (by decide +kernel) rfl, rfl⟩
theorem zf_X6_25 : zF RX6 25 5 5 := ⟨RX6, TX6, 18, rfl, by decide, zin6, zmem 871 (by decide +kernel) rfl, rfl⟩
theorem zf_X6_197 : zF RX6 197 5 6 := ⟨RX6, TX6, 18, rfl, by decide, zin6, zmem 872 (by decide +kernel) rfl, rfl⟩
theorem zfw_X6_197 : zFw RX6 197 5 6 .boolean := ⟨RX6, TX6, 18, tyX6, rfl, by decide, zin6, zmem 872 (by decide +kernel) rfl, rfl, tyX6_ok, nmX6, rfl, by decide +kernel⟩
theorem zf_X6_28 : zF RX6 28 5 7 := ⟨RX6, TX6, 18, rfl, by decide, zin6, zmem 873 (by decide +kernel) rfl, rfl⟩
theorem zf_X6_31 : zF RX6 31 5 8 := ⟨RX6, TX6, 18, rfl, by decide, zin6, zmem 874 (by decide +kernel) rfl, rfl⟩
theorem zf_X6_34 : zF RX6 34 5 9 := ⟨RX6, TX6, 18, rfl, by decide, zin6, zmem 875 (by decide +kernel) rfl, rfl⟩
theorem zf_X6_91 : zF RX6 91 5 10 := ⟨RX6, TX6, 18, rfl, by decide, zin6, zmem 876 (by decide +kernel) rfl, rfl⟩
theorem zfw_X6_91 : zFw RX6 91 5 10 .int := ⟨RX6, TX6, 18, tyX6, rfl, by decide, zin6, zmem 876 (by decide +kernel) rfl, rfl, tyX6_ok, nmX6, rfl, by decide +kernel⟩
theorem zf_X6_185 : zF RX6 185 5 11 := ⟨RX6, TX6, 18, rfl, by decide, zin6, zmem 877 (by decide +kernel) rfl, rfl⟩
theorem zfw_X6_185 : zFw RX6 185 5 11 .int := ⟨RX6, TX6, 18, tyX6, rfl, by decide, zin6, zmem 877 (by decide +kernel) rfl, rfl, tyX6_ok, nmX6, rfl, by decide +kernel⟩
theorem zf_X6_95 : zF RX6 95 5 12 := ⟨RX6, TX6, 18, rfl, by decide, zin6, zmem 878 (by decide +kernel) rfl, rfl⟩
theorem zfw_X6_95 : zFw RX6 95 5 12 .int := ⟨RX6, TX6, 18, tyX6, rfl, by decide, zin6, zmem 878 (by decide +kernel) rfl, rfl, tyX6_ok, nmX6, rfl, by decide +kernel⟩
theorem zf_X6_37 : zF RX6 37 5 13 := ⟨RX6, TX6, 18, rfl, by decide, zin6, zmem 879 (by decide +kernel) rfl, rfl⟩
theorem zf_X6_40 : zF RX6 40 5 14 := ⟨RX6, TX6, 18, rfl, by decide, zin6, zmem 880 (by decide +kernel) rfl, rfl⟩
theorem zf_X6_43 : zF RX6 43 5 15 := ⟨RX6, TX6, 18, rfl, by decide, zin6, zmem 881 (by decide +kernel) rfl, rfl⟩
theorem zf_X6_148 : zF RX6 148 5 16 := ⟨RX6, TX6, 18, rfl, by decide, zin6, zmem 882 (by decide +kernel) rfl, rfl⟩
theorem zfw_X6_148 : zFw RX6 148 5 16 .int := ⟨RX6, TX6, 18, tyX6, rfl, by decide, zin6, zmem 882 (by decide +kernel) rfl, rfl, tyX6_ok, nmX6, rfl, by decide +kernel⟩
theorem zf_X6_188 : zF RX6 188 5 17 := ⟨RX6, TX6, 18, rfl, by decide, zin6, zmem 883 (by decide +kernel) rfl, rfl⟩
theorem zfw_X6_188 : zFw RX6 188 5 17 .int := ⟨RX6, TX6, 18, tyX6, rfl, by decide, zin6, zmem 883 (by decide +kernel) rfl, rfl, tyX6_ok, nmX6, rfl, by decide +kernel⟩
theorem zj_compact_J0 : Cond.fieldLink RJ0 38 "java/lang/String" "COMPACT_STRINGS" "Z" ∈ zts := zmem 265 (by decide +kernel) rfl
theorem zj_giving : Cond.fieldLink RX0 17 "RotationOfFarmers$Kinds" "GIVING" "[I" ∈ zts := zmem 494 (by decide +kernel) rfl
theorem zj_tiring : Cond.fieldLink RX0 23 "RotationOfFarmers$Kinds" "TIRING" "[I" ∈ zts := zmem 499 (by decide +kernel) rfl
theorem zj_value : Cond.fieldLink RJ0 9 "java/lang/String" "value" "[B" ∈ zts := zmem 1202 (by decide +kernel) rfl
theorem zj_coder : Cond.fieldLink RJ0 15 "java/lang/String" "coder" "B" ∈ zts := zmem 1203 (by decide +kernel) rfl
end
section
/-! RULES over written numbers: nI a with a : Nat -/
theorem zinc (i : Nat) : nI i + Int32.ofInt 1 = nI (i + 1) := nI_1 i
def zb (c : Prop) [Decidable c] : Int32 := if c then 1 else 0
theorem zb_t {c : Prop} [Decidable c] (h : c) : zb c = 1 := if_pos h
theorem zb_f {c : Prop} [Decidable c] (h : ¬ c) : zb c = 0 := if_neg h
theorem zb_1 {c : Prop} [Decidable c] (h : c) : nI 1 = zb c := (if_pos h).symm
theorem zb_0 {c : Prop} [Decidable c] (h : ¬ c) : nI 0 = zb c := (if_neg h).symm
theorem zb_ne {c : Prop} [Decidable c] : ¬ zb c = 0 ↔ c := by
  unfold zb
  by_cases h : c <;> simp [h]
theorem zb_eq {c : Prop} [Decidable c] : zb c = 0 ↔ ¬ c := by
  unfold zb
  by_cases h : c <;> simp [h]
theorem vp_ge {x : Int32} {n : Nat} (hn : n < 2 ^ 31) (h0 : ¬ x < 0) (h1 : ¬ nI n ≤ x) : vp_in x n := by
  obtain ⟨j, hj, rfl⟩ := nI_of h0
  exact vp_in_nI (Nat.lt_of_not_le fun q => h1 (nI_le q hj)) hn
/-- an answer, and nothing changed -/
def zP (σ : zSt) (r : Value) : Option Value → zSt → Prop := fun v τ => v = some r ∧ τ = σ
/-- no answer, and the world is σ -/
def zU (σ : zSt) : Option Value → zSt → Prop := fun v τ => v = none ∧ τ = σ
theorem zP_t {σ : zSt} {c : Prop} [Decidable c] (h : c) : zP σ (.int (zb c)) (some (.int (nI 1))) σ := ⟨by rw [zb_t h]; rfl, rfl⟩
theorem zP_f {σ : zSt} {c : Prop} [Decidable c] (h : ¬ c) : zP σ (.int (zb c)) (some (.int (nI 0))) σ := ⟨by rw [zb_f h]; rfl, rfl⟩
theorem zpos {a : Nat} (h : a < 2 ^ 31) : ¬ nI a < 0 := nI_pos h
/-- any int against a bound -/
theorem zix (x : Int32) (n : Nat) (hn : n < 2 ^ 31) : (x < 0 ∨ (¬ x < 0 ∧ nI n ≤ x)) ∨ ∃ j : Nat, j < n ∧ x = nI j := by
  by_cases h0 : x < 0
  · exact Or.inl (Or.inl h0)
  · by_cases h1 : nI n ≤ x
    · exact Or.inl (Or.inr ⟨h0, h1⟩)
    · obtain ⟨j, hj, rfl⟩ := nI_of h0
      exact Or.inr ⟨j, Nat.lt_of_not_le fun q => h1 (nI_le q hj), rfl⟩
theorem zw_iaddN {M : zM} {n pc : Nat} {X : zCx} {lv : List (Option Value)} {st : List Value} {σ : zSt} {a b : Nat} (hB : zB M n X) (hd : decode M.2.1 pc = .ok (.iadd, 1)) (k : zW X (pc + 1) lv (.int (nI (a + b)) :: st) σ) : zW X pc lv (.int (nI b) :: .int (nI a) :: st) σ := zw_iadd hB hd (by rw [nI_add]; exact k)
theorem zw_imulN {M : zM} {n pc : Nat} {X : zCx} {lv : List (Option Value)} {st : List Value} {σ : zSt} {a b : Nat} (hB : zB M n X) (hd : decode M.2.1 pc = .ok (.imul, 1)) (k : zW X (pc + 1) lv (.int (nI (a * b)) :: st) σ) : zW X pc lv (.int (nI b) :: .int (nI a) :: st) σ := zw_imul hB hd (by rw [pk_mul]; exact k)
theorem zw_isubN {M : zM} {n pc : Nat} {X : zCx} {lv : List (Option Value)} {st : List Value} {σ : zSt} {a b : Nat} (hB : zB M n X) (hd : decode M.2.1 pc = .ok (.isub, 1)) (h : b ≤ a) (k : zW X (pc + 1) lv (.int (nI (a - b)) :: st) σ) : zW X pc lv (.int (nI b) :: .int (nI a) :: st) σ := zw_isub hB hd (by rw [pk_sub h]; exact k)
theorem zw_idivN {M : zM} {n pc : Nat} {X : zCx} {lv : List (Option Value)} {st : List Value} {σ : zSt} {a b : Nat} (hB : zB M n X) (hd : decode M.2.1 pc = .ok (.idiv, 1)) (ha : a < 2 ^ 31) (h0 : 0 < b) (hb : b < 2 ^ 31) (k : zW X (pc + 1) lv (.int (nI (a / b)) :: st) σ) : zW X pc lv (.int (nI b) :: .int (nI a) :: st) σ := zw_idiv hB hd (nI_ne0 h0 hb) (by rw [pk_div ha h0 hb]; exact k)
theorem zw_iremN {M : zM} {n pc : Nat} {X : zCx} {lv : List (Option Value)} {st : List Value} {σ : zSt} {a b : Nat} (hB : zB M n X) (hd : decode M.2.1 pc = .ok (.irem, 1)) (ha : a < 2 ^ 31) (h0 : 0 < b) (hb : b < 2 ^ 31) (k : zW X (pc + 1) lv (.int (nI (a % b)) :: st) σ) : zW X pc lv (.int (nI b) :: .int (nI a) :: st) σ := zw_irem hB hd (nI_ne0 h0 hb) (by rw [pk_rem ha h0 hb]; exact k)
theorem zw_ialdN {M : zM} {n pc : Nat} {X : zCx} {lv : List (Option Value)} {st : List Value} {σ : zSt} {i N j : Nat} (hB : zB M n X) (hd : decode M.2.1 pc = .ok (.iaload, 1)) (hl : zLY[i]? = some (.inl N)) (hj : j < N) (hN : N < 2 ^ 31) (kk : zW X (pc + 1) lv (.int (σ i j) :: st) σ) : zW X pc lv (.int (nI j) :: .ref i :: st) σ := zw_iald hB hd hl (vp_in_nI hj hN) (by rw [nI_clamp (Nat.lt_trans hj hN)]; exact kk)
theorem zw_iastN {M : zM} {n pc : Nat} {X : zCx} {lv : List (Option Value)} {st : List Value} {σ : zSt} {i N j : Nat} {x : Int32} (hB : zB M n X) (hd : decode M.2.1 pc = .ok (.iastore, 1)) (hl : zLY[i]? = some (.inl N)) (hj : j < N) (hN : N < 2 ^ 31) (kk : zW X (pc + 1) lv st (zC σ i (upd (σ i) j x))) : zW X pc lv (.int x :: .int (nI j) :: .ref i :: st) σ := zw_iast hB hd hl (vp_in_nI hj hN) (by rw [nI_clamp (Nat.lt_trans hj hN)]; exact kk)
theorem zw_ialdV {M : zM} {n pc : Nat} {X : zCx} {lv : List (Option Value)} {st : List Value} {σ : zSt} {i N j : Nat} {x : Int32} (hB : zB M n X) (hd : decode M.2.1 pc = .ok (.iaload, 1)) (hl : zLY[i]? = some (.inl N)) (hj : j < N) (hN : N < 2 ^ 31) (hx : σ i j = x) (kk : zW X (pc + 1) lv (.int x :: st) σ) : zW X pc lv (.int (nI j) :: .ref i :: st) σ := zw_ialdN hB hd hl hj hN (by rw [hx]; exact kk)
theorem zw_getfV {M : zM} {n pc : Nat} {X : zCx} {lv : List (Option Value)} {st : List Value} {σ : zSt} {idx ci k i : Nat} {fs : List (Option Nat)} {x : Int32} (hB : zB M n X) (hd : decode M.2.1 pc = .ok (.getfield idx, 3)) (hf : zF M.1.cls idx ci k) (hl : zLY[i]? = some (.inr (ci, fs))) (hk : fs[k]? = some none) (hx : σ i k = x) (kk : zW X (pc + 3) lv (.int x :: st) σ) : zW X pc lv (.ref i :: st) σ := zw_getfI hB hd hf hl hk (by rw [hx]; exact kk)
theorem zw_eqI {M : zM} {n pc : Nat} {X : zCx} {lv : List (Option Value)} {st : List Value} {σ : zSt} {x y : Int32} (h : x = y) (k : zW X pc lv (.int y :: st) σ) : zW X pc lv (.int x :: st) σ := by rw [h]; exact k
theorem zw_icmp_ltN {M : zM} {n pc : Nat} {X : zCx} {lv : List (Option Value)} {st : List Value} {σ : zSt} {a b : Nat} {off : Int} {tgt : Nat} (hB : zB M n X) (hd : decode M.2.1 pc = .ok (.if_icmp .lt off, 3)) (ht : (pc : Int) + off = (tgt : Int)) (ha : a < 2 ^ 31) (hb : b < 2 ^ 31) (kt : a < b → zW X tgt lv st σ) (kf : b ≤ a → zW X (pc + 3) lv st σ) : zW X pc lv (.int (nI b) :: .int (nI a) :: st) σ := zw_icmp_lt hB hd ht (fun q => kt ((nI_ltI ha hb).mp q)) (fun q => kf (Nat.le_of_not_lt fun z => q ((nI_ltI ha hb).mpr z)))
theorem zw_icmp_geN {M : zM} {n pc : Nat} {X : zCx} {lv : List (Option Value)} {st : List Value} {σ : zSt} {a b : Nat} {off : Int} {tgt : Nat} (hB : zB M n X) (hd : decode M.2.1 pc = .ok (.if_icmp .ge off, 3)) (ht : (pc : Int) + off = (tgt : Int)) (ha : a < 2 ^ 31) (hb : b < 2 ^ 31) (kt : b ≤ a → zW X tgt lv st σ) (kf : a < b → zW X (pc + 3) lv st σ) : zW X pc lv (.int (nI b) :: .int (nI a) :: st) σ := zw_icmp_ge hB hd ht (fun q => kt ((nI_leI hb ha).mp q)) (fun q => kf (Nat.lt_of_not_le fun z => q ((nI_leI hb ha).mpr z)))
theorem zw_icmp_gtN {M : zM} {n pc : Nat} {X : zCx} {lv : List (Option Value)} {st : List Value} {σ : zSt} {a b : Nat} {off : Int} {tgt : Nat} (hB : zB M n X) (hd : decode M.2.1 pc = .ok (.if_icmp .gt off, 3)) (ht : (pc : Int) + off = (tgt : Int)) (ha : a < 2 ^ 31) (hb : b < 2 ^ 31) (kt : b < a → zW X tgt lv st σ) (kf : a ≤ b → zW X (pc + 3) lv st σ) : zW X pc lv (.int (nI b) :: .int (nI a) :: st) σ := zw_icmp_gt hB hd ht (fun q => kt ((nI_ltI hb ha).mp q)) (fun q => kf (Nat.le_of_not_lt fun z => q ((nI_ltI hb ha).mpr z)))
theorem zw_icmp_leN {M : zM} {n pc : Nat} {X : zCx} {lv : List (Option Value)} {st : List Value} {σ : zSt} {a b : Nat} {off : Int} {tgt : Nat} (hB : zB M n X) (hd : decode M.2.1 pc = .ok (.if_icmp .le off, 3)) (ht : (pc : Int) + off = (tgt : Int)) (ha : a < 2 ^ 31) (hb : b < 2 ^ 31) (kt : a ≤ b → zW X tgt lv st σ) (kf : b < a → zW X (pc + 3) lv st σ) : zW X pc lv (.int (nI b) :: .int (nI a) :: st) σ := zw_icmp_le hB hd ht (fun q => kt ((nI_leI ha hb).mp q)) (fun q => kf (Nat.lt_of_not_le fun z => q ((nI_leI ha hb).mpr z)))
theorem zw_icmp_eqN {M : zM} {n pc : Nat} {X : zCx} {lv : List (Option Value)} {st : List Value} {σ : zSt} {a b : Nat} {off : Int} {tgt : Nat} (hB : zB M n X) (hd : decode M.2.1 pc = .ok (.if_icmp .eq off, 3)) (ht : (pc : Int) + off = (tgt : Int)) (ha : a < 2 ^ 31) (hb : b < 2 ^ 31) (kt : a = b → zW X tgt lv st σ) (kf : a ≠ b → zW X (pc + 3) lv st σ) : zW X pc lv (.int (nI b) :: .int (nI a) :: st) σ := zw_icmp_eq hB hd ht (fun q => kt ((nI_eq ha hb).mp q)) (fun q => kf (fun z => q ((nI_eq ha hb).mpr z)))
theorem zw_icmp_neN {M : zM} {n pc : Nat} {X : zCx} {lv : List (Option Value)} {st : List Value} {σ : zSt} {a b : Nat} {off : Int} {tgt : Nat} (hB : zB M n X) (hd : decode M.2.1 pc = .ok (.if_icmp .ne off, 3)) (ht : (pc : Int) + off = (tgt : Int)) (ha : a < 2 ^ 31) (hb : b < 2 ^ 31) (kt : a ≠ b → zW X tgt lv st σ) (kf : a = b → zW X (pc + 3) lv st σ) : zW X pc lv (.int (nI b) :: .int (nI a) :: st) σ := zw_icmp_ne hB hd ht (fun q => kt (fun z => q ((nI_eq ha hb).mpr z))) (fun q => kf ((nI_eq ha hb).mp q))
theorem zw_if_eqB {M : zM} {n pc : Nat} {X : zCx} {lv : List (Option Value)} {st : List Value} {σ : zSt} {c : Prop} [Decidable c] {off : Int} {tgt : Nat} (hB : zB M n X) (hd : decode M.2.1 pc = .ok (.ifCond .eq off, 3)) (ht : (pc : Int) + off = (tgt : Int)) (kt : ¬ c → zW X tgt lv st σ) (kf : c → zW X (pc + 3) lv st σ) : zW X pc lv (.int (zb c) :: st) σ := zw_if_eq hB hd ht (fun q => kt (zb_eq.mp q)) (fun q => kf (zb_ne.mp q))
theorem zw_if_neB {M : zM} {n pc : Nat} {X : zCx} {lv : List (Option Value)} {st : List Value} {σ : zSt} {c : Prop} [Decidable c] {off : Int} {tgt : Nat} (hB : zB M n X) (hd : decode M.2.1 pc = .ok (.ifCond .ne off, 3)) (ht : (pc : Int) + off = (tgt : Int)) (kt : c → zW X tgt lv st σ) (kf : ¬ c → zW X (pc + 3) lv st σ) : zW X pc lv (.int (zb c) :: st) σ := zw_if_ne hB hd ht (fun q => kt (zb_ne.mp q)) (fun q => kf (zb_eq.mp q))
end
section
/-! LEAVES of the class: lands' reads and writes; kinds; words of refusal -/
def zLd (b : Nat) : Prop := zLY[b]? = some (.inr (0, [none, none, none, none, none, none, some (b + 1), some (b + 2), some (b + 3), some (b + 4), some (b + 5), some (b + 6), some (b + 7)])) ∧ zLY[b + 1]? = some (.inl 18) ∧ zLY[b + 2]? = some (.inl 6) ∧ zLY[b + 3]? = some (.inl 6) ∧ zLY[b + 4]? = some (.inl 6) ∧ zLY[b + 5]? = some (.inl 6) ∧ zLY[b + 6]? = some (.inl 6) ∧ zLY[b + 7]? = some (.inl 6)
theorem zld1 : zLd 1 := ⟨rfl, rfl, rfl, rfl, rfl, rfl, rfl, rfl⟩
theorem zld9 : zLd 9 := ⟨rfl, rfl, rfl, rfl, rfl, rfl, rfl, rfl⟩
theorem zld17 : zLd 17 := ⟨rfl, rfl, rfl, rfl, rfl, rfl, rfl, rfl⟩
theorem zld28 : zLd 28 := ⟨rfl, rfl, rfl, rfl, rfl, rfl, rfl, rfl⟩
theorem zld36 : zLd 36 := ⟨rfl, rfl, rfl, rfl, rfl, rfl, rfl, rfl⟩

theorem s_X1_hasFarm {n : Nat} {σ : zSt} {b : Nat} (hb : zLd b) (f : Int32) : zSem n mX1_hasFarm [.ref b, .int f] σ (zP σ (.int (zb (¬ f < 0 ∧ ¬ σ b 0 ≤ f)))) := by
  refine zSem.of (by decide +kernel) (Nat.le_of_ble_eq_true rfl) (fun X hB hR => ?_)
  show zW X 0 [some (.ref b), some (.int f)] [] σ
  refine zw_iload1 hB dX1_hasFarm_0 ?_
  refine zw_if_lt (tgt := 16) hB dX1_hasFarm_1 (by decide) (fun c1 => ?_) (fun c1 => ?_)
  · refine zw_iconst (x := nI 0) hB dX1_hasFarm_16 (by decide) ?_
    refine zw_zret hB hR dX1_hasFarm_17 rfl (by decide) ?_
    first | exact zP_t (by simp [*]) | exact zP_f (by simp [*])
  · refine zw_iload1 hB dX1_hasFarm_4 ?_
    refine zw_aload0 hB dX1_hasFarm_5 ?_
    refine zw_getfI hB dX1_hasFarm_6 zf_X1_37 hb.1 rfl ?_
    refine zw_icmp_ge (tgt := 16) hB dX1_hasFarm_9 (by decide) (fun c9 => ?_) (fun c9 => ?_)
    · refine zw_iconst (x := nI 0) hB dX1_hasFarm_16 (by decide) ?_
      refine zw_zret hB hR dX1_hasFarm_17 rfl (by decide) ?_
      first | exact zP_t (by simp [*]) | exact zP_f (by simp [*])
    · refine zw_iconst (x := nI 1) hB dX1_hasFarm_12 (by decide) ?_
      refine zw_goto (tgt := 17) hB dX1_hasFarm_13 (by decide) ?_
      refine zw_zret hB hR dX1_hasFarm_17 rfl (by decide) ?_
      first | exact zP_t (by simp [*]) | exact zP_f (by simp [*])
theorem s_X1_hasFarmer {n : Nat} {σ : zSt} {b : Nat} (hb : zLd b) (f : Int32) : zSem n mX1_hasFarmer [.ref b, .int f] σ (zP σ (.int (zb (¬ f < 0 ∧ ¬ σ b 1 ≤ f)))) := by
  refine zSem.of (by decide +kernel) (Nat.le_of_ble_eq_true rfl) (fun X hB hR => ?_)
  show zW X 0 [some (.ref b), some (.int f)] [] σ
  refine zw_iload1 hB dX1_hasFarmer_0 ?_
  refine zw_if_lt (tgt := 16) hB dX1_hasFarmer_1 (by decide) (fun c1 => ?_) (fun c1 => ?_)
  · refine zw_iconst (x := nI 0) hB dX1_hasFarmer_16 (by decide) ?_
    refine zw_zret hB hR dX1_hasFarmer_17 rfl (by decide) ?_
    first | exact zP_t (by simp [*]) | exact zP_f (by simp [*])
  · refine zw_iload1 hB dX1_hasFarmer_4 ?_
    refine zw_aload0 hB dX1_hasFarmer_5 ?_
    refine zw_getfI hB dX1_hasFarmer_6 zf_X1_40 hb.1 rfl ?_
    refine zw_icmp_ge (tgt := 16) hB dX1_hasFarmer_9 (by decide) (fun c9 => ?_) (fun c9 => ?_)
    · refine zw_iconst (x := nI 0) hB dX1_hasFarmer_16 (by decide) ?_
      refine zw_zret hB hR dX1_hasFarmer_17 rfl (by decide) ?_
      first | exact zP_t (by simp [*]) | exact zP_f (by simp [*])
    · refine zw_iconst (x := nI 1) hB dX1_hasFarmer_12 (by decide) ?_
      refine zw_goto (tgt := 17) hB dX1_hasFarmer_13 (by decide) ?_
      refine zw_zret hB hR dX1_hasFarmer_17 rfl (by decide) ?_
      first | exact zP_t (by simp [*]) | exact zP_f (by simp [*])
theorem s_X1_hasSort {n : Nat} {σ : zSt} (f : Int32) : zSem n mX1_hasSort [.int f] σ (zP σ (.int (zb (¬ f < 0 ∧ ¬ nI 3 ≤ f)))) := by
  refine zSem.of (by decide +kernel) (Nat.le_of_ble_eq_true rfl) (fun X hB hR => ?_)
  show zW X 0 [some (.int f)] [] σ
  refine zw_iload0 hB dX1_hasSort_0 ?_
  refine zw_if_lt (tgt := 13) hB dX1_hasSort_1 (by decide) (fun c1 => ?_) (fun c1 => ?_)
  · refine zw_iconst (x := nI 0) hB dX1_hasSort_13 (by decide) ?_
    refine zw_zret hB hR dX1_hasSort_14 rfl (by decide) ?_
    first | exact zP_t (by simp [*]) | exact zP_f (by simp [*])
  · refine zw_iload0 hB dX1_hasSort_4 ?_
    refine zw_iconst (x := nI 3) hB dX1_hasSort_5 (by decide) ?_
    refine zw_icmp_ge (tgt := 13) hB dX1_hasSort_6 (by decide) (fun c6 => ?_) (fun c6 => ?_)
    · refine zw_iconst (x := nI 0) hB dX1_hasSort_13 (by decide) ?_
      refine zw_zret hB hR dX1_hasSort_14 rfl (by decide) ?_
      first | exact zP_t (by simp [*]) | exact zP_f (by simp [*])
    · refine zw_iconst (x := nI 1) hB dX1_hasSort_9 (by decide) ?_
      refine zw_goto (tgt := 14) hB dX1_hasSort_10 (by decide) ?_
      refine zw_zret hB hR dX1_hasSort_14 rfl (by decide) ?_
      first | exact zP_t (by simp [*]) | exact zP_f (by simp [*])
theorem s_X1_hasYears {n : Nat} {σ : zSt} {b : Nat} (hb : zLd b) (f : Int32) : zSem n mX1_hasYears [.ref b, .int f] σ (zP σ (.int (zb (f ≤ nI 999 - σ b 4)))) := by
  refine zSem.of (by decide +kernel) (Nat.le_of_ble_eq_true rfl) (fun X hB hR => ?_)
  show zW X 0 [some (.ref b), some (.int f)] [] σ
  refine zw_iload1 hB dX1_hasYears_0 ?_
  refine zw_sipush (x := nI 999) hB dX1_hasYears_1 (by decide) ?_
  refine zw_aload0 hB dX1_hasYears_4 ?_
  refine zw_getfI hB dX1_hasYears_5 zf_X1_46 hb.1 rfl ?_
  refine zw_isub hB dX1_hasYears_8 ?_
  refine zw_icmp_gt (tgt := 16) hB dX1_hasYears_9 (by decide) (fun c9 => ?_) (fun c9 => ?_)
  · refine zw_iconst (x := nI 0) hB dX1_hasYears_16 (by decide) ?_
    refine zw_zret hB hR dX1_hasYears_17 rfl (by decide) ?_
    first | exact zP_t (Int32.not_lt.mp ‹_›) | exact zP_f (Int32.not_le.mpr ‹_›)
  · refine zw_iconst (x := nI 1) hB dX1_hasYears_12 (by decide) ?_
    refine zw_goto (tgt := 17) hB dX1_hasYears_13 (by decide) ?_
    refine zw_zret hB hR dX1_hasYears_17 rfl (by decide) ?_
    first | exact zP_t (Int32.not_lt.mp ‹_›) | exact zP_f (Int32.not_le.mpr ‹_›)
theorem s_X1_heartOf {n : Nat} {σ : zSt} {b : Nat} (hb : zLd b) {f s : Nat} (hf : f < 6) (hs : s < 3) : zSem n mX1_heartOf [.ref b, .int (nI f), .int (nI s)] σ (zP σ (.int (σ (b + 1) (3 * f + s)))) := by
  refine zSem.of (by decide +kernel) (Nat.le_of_ble_eq_true rfl) (fun X hB hR => ?_)
  show zW X 0 [some (.ref b), some (.int (nI f)), some (.int (nI s)), none] [] σ
  refine zw_iconst (x := nI 3) hB dX1_heartOf_0 (by decide) ?_
  refine zw_iload1 hB dX1_heartOf_1 ?_
  refine zw_imulN hB dX1_heartOf_2 ?_
  refine zw_iload2 hB dX1_heartOf_3 ?_
  refine zw_iaddN hB dX1_heartOf_4 ?_
  refine zw_istore3 hB dX1_heartOf_5 rfl ?_
  refine zw_iload3 hB dX1_heartOf_6 ?_
  refine zw_if_lt (tgt := 28) hB dX1_heartOf_7 (by decide) (fun c7 => absurd c7 (zpos (by omega))) (fun c7 => ?_)
  refine zw_iload3 hB dX1_heartOf_10 ?_
  refine zw_aload0 hB dX1_heartOf_11 ?_
  refine zw_getfR hB dX1_heartOf_12 zf_X1_15 hb.1 rfl ?_
  refine zw_alen hB dX1_heartOf_15 hb.2.1 ?_
  refine zw_icmp_geN (tgt := 28) hB dX1_heartOf_16 (by decide) (by omega) (by omega) (fun c16 => absurd c16 (by omega)) (fun c16 => ?_)
  refine zw_aload0 hB dX1_heartOf_19 ?_
  refine zw_getfR hB dX1_heartOf_20 zf_X1_15 hb.1 rfl ?_
  refine zw_iload3 hB dX1_heartOf_23 ?_
  refine zw_ialdN hB dX1_heartOf_24 hb.2.1 (by omega) (by decide) ?_
  refine zw_goto (tgt := 29) hB dX1_heartOf_25 (by decide) ?_
  refine zw_iret hB hR dX1_heartOf_29 rfl ?_
  exact ⟨rfl, rfl⟩
theorem s_X1_setHeart {n : Nat} {σ : zSt} {b : Nat} (hb : zLd b) {f s : Nat} (v : Int32) (hf : f < 6) (hs : s < 3) : zSem n mX1_setHeart [.ref b, .int (nI f), .int (nI s), .int v] σ (zU (zC σ (b + 1) (upd (σ (b + 1)) (3 * f + s) v))) := by
  refine zSem.of (by decide +kernel) (Nat.le_of_ble_eq_true rfl) (fun X hB hR => ?_)
  show zW X 0 [some (.ref b), some (.int (nI f)), some (.int (nI s)), some (.int v), none] [] σ
  refine zw_iconst (x := nI 3) hB dX1_setHeart_0 (by decide) ?_
  refine zw_iload1 hB dX1_setHeart_1 ?_
  refine zw_imulN hB dX1_setHeart_2 ?_
  refine zw_iload2 hB dX1_setHeart_3 ?_
  refine zw_iaddN hB dX1_setHeart_4 ?_
  refine zw_istore4 hB dX1_setHeart_5 rfl ?_
  refine zw_iload4 hB dX1_setHeart_7 ?_
  refine zw_if_lt (tgt := 30) hB dX1_setHeart_9 (by decide) (fun c9 => absurd c9 (zpos (by omega))) (fun c9 => ?_)
  refine zw_iload4 hB dX1_setHeart_12 ?_
  refine zw_aload0 hB dX1_setHeart_14 ?_
  refine zw_getfR hB dX1_setHeart_15 zf_X1_15 hb.1 rfl ?_
  refine zw_alen hB dX1_setHeart_18 hb.2.1 ?_
  refine zw_icmp_geN (tgt := 30) hB dX1_setHeart_19 (by decide) (by omega) (by omega) (fun c19 => absurd c19 (by omega)) (fun c19 => ?_)
  refine zw_aload0 hB dX1_setHeart_22 ?_
  refine zw_getfR hB dX1_setHeart_23 zf_X1_15 hb.1 rfl ?_
  refine zw_iload4 hB dX1_setHeart_26 ?_
  refine zw_iload3 hB dX1_setHeart_28 ?_
  refine zw_iastN hB dX1_setHeart_29 hb.2.1 (by omega) (by decide) ?_
  refine zw_vret hB hR dX1_setHeart_30 rfl ?_
  exact ⟨rfl, rfl⟩
theorem s_X1_isWorn {n : Nat} {σ : zSt} {b : Nat} (hb : zLd b) {p : Nat} (hp : p < 6) : zSem n mX1_isWorn [.ref b, .int (nI p)] σ (zP σ (.int (zb (¬ σ (b + 5) p < nI 10)))) := by
  refine zSem.of (by decide +kernel) (Nat.le_of_ble_eq_true rfl) (fun X hB hR => ?_)
  show zW X 0 [some (.ref b), some (.int (nI p))] [] σ
  refine zw_aload0 hB dX1_isWorn_0 ?_
  refine zw_getfR hB dX1_isWorn_1 zf_X1_28 hb.1 rfl ?_
  refine zw_iload1 hB dX1_isWorn_4 ?_
  refine zw_ialdN hB dX1_isWorn_5 hb.2.2.2.2.2.1 (by omega) (by decide) ?_
  refine zw_bipush (x := nI 10) hB dX1_isWorn_6 (by decide) ?_
  refine zw_icmp_lt (tgt := 15) hB dX1_isWorn_8 (by decide) (fun c8 => ?_) (fun c8 => ?_)
  · refine zw_iconst (x := nI 0) hB dX1_isWorn_15 (by decide) ?_
    refine zw_zret hB hR dX1_isWorn_16 rfl (by decide) ?_
    first | exact zP_t (by simp [*]) | exact zP_f (by simp [*])
  · refine zw_iconst (x := nI 1) hB dX1_isWorn_11 (by decide) ?_
    refine zw_goto (tgt := 16) hB dX1_isWorn_12 (by decide) ?_
    refine zw_zret hB hR dX1_isWorn_16 rfl (by decide) ?_
    first | exact zP_t (by simp [*]) | exact zP_f (by simp [*])
/-- at least 0, at most m -/
def zhd (v m : Int32) : Int32 := if v < 0 then 0 else if m < v then m else v
theorem zhd_ah (v : Int32) : (if nI 0 < (if v < nI 30 then v else nI 30) then (if v < nI 30 then v else nI 30) else nI 0) = zhd v (nI 30) := by
  have e0 : (nI 0).toInt = 0 := by decide
  have e30 : (nI 30).toInt = 30 := by decide
  have z0 : (0 : Int32).toInt = 0 := by decide
  simp only [zhd, Int32.lt_iff_toInt_lt, e30, e0, z0]
  by_cases h1 : v.toInt < 30
  · rw [if_pos h1]
    by_cases h2 : (0 : Int) < v.toInt
    · rw [if_pos h2, if_neg (by omega), if_neg (by omega)]
    · rw [if_neg h2]
      by_cases h3 : v.toInt < 0
      · rw [if_pos h3]; rfl
      · rw [if_neg h3, if_neg (by omega)]
        exact Int32.toInt_inj.mp (by rw [e0]; omega)
  · rw [if_neg h1, e30, if_pos (by decide), if_neg (by omega)]
    by_cases h2 : (30 : Int) < v.toInt
    · rw [if_pos h2]
    · rw [if_neg h2]
      exact Int32.toInt_inj.mp (by rw [e30]; omega)
theorem s_X1_asHeart {n : Nat} {σ : zSt} (v : Int32) : zSem (n + 1) mX1_asHeart [.int v] σ (zP σ (.int (zhd v (nI 30)))) := by
  refine zSem.of (by decide +kernel) (Nat.le_of_ble_eq_true rfl) (fun X hB hR => ?_)
  show zW X 0 [some (.int v)] [] σ
  refine zw_iconst (x := nI 0) hB dX1_asHeart_0 (by decide) ?_
  refine zw_bipush (x := nI 30) hB dX1_asHeart_1 (by decide) ?_
  refine zw_iload0 hB dX1_asHeart_3 ?_
  refine zw_min hB dX1_asHeart_4 zl_X1_77 (by first | exact Nat.le_of_ble_eq_true rfl | decide) ?_
  refine zw_max hB dX1_asHeart_7 zl_X1_120 (by first | exact Nat.le_of_ble_eq_true rfl | decide) ?_
  refine zw_iret hB hR dX1_asHeart_10 rfl ?_
  exact ⟨by rw [← zhd_ah], rfl⟩
/-- what a kind grows of two hearts -/
def zgrw (k : Nat) (a b : Int32) : Int32 := if k = 0 then a / nI 2 else if k = 1 then b / nI 2 else if k = 2 then a / nI 2 + nI 3 else if k = 3 then b / nI 2 / nI 2 else nI 0
theorem s_X0_growing {n : Nat} {σ : zSt} {k : Nat} (hk : k < 6) (a b : Int32) : zSem n mX0_growing [.int (nI k), .int a, .int b] σ (zP σ (.int (zgrw k a b))) := by
  refine zSem.of (by decide +kernel) (Nat.le_of_ble_eq_true rfl) (fun X hB hR => ?_)
  show zW X 0 [some (.int (nI k)), some (.int a), some (.int b)] [] σ
  refine zw_iload0 hB dX0_growing_0 ?_
  have hk6 : k = 0 ∨ k = 1 ∨ k = 2 ∨ k = 3 ∨ k = 4 ∨ k = 5 := by omega
  rcases hk6 with rfl | rfl | rfl | rfl | rfl | rfl
  · refine zw_tabIn (off := 31) (tgt := 32) hB dX0_growing_1 (by decide) (by decide) (by decide) (by decide) ?_
    refine zw_iload1 hB dX0_growing_32 ?_
    refine zw_iconst (x := nI 2) hB dX0_growing_33 (by decide) ?_
    refine zw_idiv hB dX0_growing_34 (by decide) ?_
    refine zw_iret hB hR dX0_growing_35 rfl ?_
    exact ⟨rfl, rfl⟩
  · refine zw_tabIn (off := 35) (tgt := 36) hB dX0_growing_1 (by decide) (by decide) (by decide) (by decide) ?_
    refine zw_iload2 hB dX0_growing_36 ?_
    refine zw_iconst (x := nI 2) hB dX0_growing_37 (by decide) ?_
    refine zw_idiv hB dX0_growing_38 (by decide) ?_
    refine zw_iret hB hR dX0_growing_39 rfl ?_
    exact ⟨rfl, rfl⟩
  · refine zw_tabIn (off := 39) (tgt := 40) hB dX0_growing_1 (by decide) (by decide) (by decide) (by decide) ?_
    refine zw_iload1 hB dX0_growing_40 ?_
    refine zw_iconst (x := nI 2) hB dX0_growing_41 (by decide) ?_
    refine zw_idiv hB dX0_growing_42 (by decide) ?_
    refine zw_iconst (x := nI 3) hB dX0_growing_43 (by decide) ?_
    refine zw_iadd hB dX0_growing_44 ?_
    refine zw_iret hB hR dX0_growing_45 rfl ?_
    exact ⟨rfl, rfl⟩
  · refine zw_tabIn (off := 45) (tgt := 46) hB dX0_growing_1 (by decide) (by decide) (by decide) (by decide) ?_
    refine zw_iload2 hB dX0_growing_46 ?_
    refine zw_iconst (x := nI 2) hB dX0_growing_47 (by decide) ?_
    refine zw_idiv hB dX0_growing_48 (by decide) ?_
    refine zw_iconst (x := nI 2) hB dX0_growing_49 (by decide) ?_
    refine zw_idiv hB dX0_growing_50 (by decide) ?_
    refine zw_iret hB hR dX0_growing_51 rfl ?_
    exact ⟨rfl, rfl⟩
  · refine zw_tabOut (tgt := 52) hB dX0_growing_1 (by decide) (by decide) ?_
    refine zw_iconst (x := nI 0) hB dX0_growing_52 (by decide) ?_
    refine zw_iret hB hR dX0_growing_53 rfl ?_
    exact ⟨rfl, rfl⟩
  · refine zw_tabOut (tgt := 52) hB dX0_growing_1 (by decide) (by decide) ?_
    refine zw_iconst (x := nI 0) hB dX0_growing_52 (by decide) ?_
    refine zw_iret hB hR dX0_growing_53 rfl ?_
    exact ⟨rfl, rfl⟩
def zgv (k g s : Nat) : Int32 := if k = 4 ∨ k = 5 then zgiv.getD (3 * k + s) 0 + nI g / nI 3 + nI 1 else zgiv.getD (3 * k + s) 0
theorem s_X0_giving {n : Nat} {σ : zSt} {k g s : Nat} (hk : k < 6) (hg : g < 10) (hs : s < 3) : zSem n mX0_giving [.int (nI k), .int (nI g), .int (nI s)] σ (zP σ (.int (zgv k g s))) := by
  refine zSem.of (by decide +kernel) (Nat.le_of_ble_eq_true rfl) (fun X hB hR => ?_)
  show zW X 0 [some (.int (nI k)), some (.int (nI g)), some (.int (nI s)), none, none, none] [] σ
  refine zw_iconst (x := nI 3) hB dX0_giving_0 (by decide) ?_
  refine zw_iload0 hB dX0_giving_1 ?_
  refine zw_imulN hB dX0_giving_2 ?_
  refine zw_iload2 hB dX0_giving_3 ?_
  refine zw_iaddN hB dX0_giving_4 ?_
  refine zw_istore3 hB dX0_giving_5 rfl ?_
  refine zw_iload3 hB dX0_giving_6 ?_
  refine zw_if_lt (tgt := 26) hB dX0_giving_7 (by decide) (fun c7 => absurd c7 (zpos (by omega))) (fun c7 => ?_)
  refine zw_iload3 hB dX0_giving_10 ?_
  refine zw_giving hB dX0_giving_11 zj_giving ?_
  refine zw_lengiv hB dX0_giving_14 ?_
  refine zw_icmp_geN (tgt := 26) hB dX0_giving_15 (by decide) (by omega) (by omega) (fun c15 => absurd c15 (by omega)) (fun c15 => ?_)
  refine zw_giving hB dX0_giving_18 zj_giving ?_
  refine zw_iload3 hB dX0_giving_21 ?_
  refine zw_ldgiv hB dX0_giving_22 (vp_in_nI (by omega) (by decide)) ?_
  refine zw_goto (tgt := 27) hB dX0_giving_23 (by decide) ?_
  refine zw_istore4 hB dX0_giving_27 rfl ?_
  refine zw_iload0 hB dX0_giving_29 ?_
  refine zw_iconst (x := nI 4) hB dX0_giving_30 (by decide) ?_
  refine zw_icmp_eqN (tgt := 39) hB dX0_giving_31 (by decide) (by omega) (by omega) (fun c31 => ?_) (fun c31 => ?_)
  · refine zw_iconst (x := nI 1) hB dX0_giving_39 (by decide) ?_
    refine zw_goto (tgt := 44) hB dX0_giving_40 (by decide) ?_
    refine zw_istore5 hB dX0_giving_44 rfl ?_
    refine zw_iload5 hB dX0_giving_46 ?_
    refine zw_if_eq (tgt := 62) hB dX0_giving_48 (by decide) (fun c48 => absurd c48 (by decide)) (fun c48 => ?_)
    refine zw_iload4 hB dX0_giving_51 ?_
    refine zw_iload1 hB dX0_giving_53 ?_
    refine zw_iconst (x := nI 3) hB dX0_giving_54 (by decide) ?_
    refine zw_idiv hB dX0_giving_55 (by decide) ?_
    refine zw_iadd hB dX0_giving_56 ?_
    refine zw_iconst (x := nI 1) hB dX0_giving_57 (by decide) ?_
    refine zw_iadd hB dX0_giving_58 ?_
    refine zw_goto (tgt := 64) hB dX0_giving_59 (by decide) ?_
    refine zw_iret hB hR dX0_giving_64 rfl ?_
    exact ⟨by first | (rw [zgv, if_pos (by omega), nI_clamp (by omega)]) | (rw [zgv, if_neg (by omega), nI_clamp (by omega)]), rfl⟩
  · refine zw_iload0 hB dX0_giving_34 ?_
    refine zw_iconst (x := nI 5) hB dX0_giving_35 (by decide) ?_
    refine zw_icmp_neN (tgt := 43) hB dX0_giving_36 (by decide) (by omega) (by omega) (fun c36 => ?_) (fun c36 => ?_)
    · refine zw_iconst (x := nI 0) hB dX0_giving_43 (by decide) ?_
      refine zw_istore5 hB dX0_giving_44 rfl ?_
      refine zw_iload5 hB dX0_giving_46 ?_
      refine zw_if_eq (tgt := 62) hB dX0_giving_48 (by decide) (fun c48 => ?_) (fun c48 => absurd (by decide) c48)
      refine zw_iload4 hB dX0_giving_62 ?_
      refine zw_iret hB hR dX0_giving_64 rfl ?_
      exact ⟨by first | (rw [zgv, if_pos (by omega), nI_clamp (by omega)]) | (rw [zgv, if_neg (by omega), nI_clamp (by omega)]), rfl⟩
    · refine zw_iconst (x := nI 1) hB dX0_giving_39 (by decide) ?_
      refine zw_goto (tgt := 44) hB dX0_giving_40 (by decide) ?_
      refine zw_istore5 hB dX0_giving_44 rfl ?_
      refine zw_iload5 hB dX0_giving_46 ?_
      refine zw_if_eq (tgt := 62) hB dX0_giving_48 (by decide) (fun c48 => absurd c48 (by decide)) (fun c48 => ?_)
      refine zw_iload4 hB dX0_giving_51 ?_
      refine zw_iload1 hB dX0_giving_53 ?_
      refine zw_iconst (x := nI 3) hB dX0_giving_54 (by decide) ?_
      refine zw_idiv hB dX0_giving_55 (by decide) ?_
      refine zw_iadd hB dX0_giving_56 ?_
      refine zw_iconst (x := nI 1) hB dX0_giving_57 (by decide) ?_
      refine zw_iadd hB dX0_giving_58 ?_
      refine zw_goto (tgt := 64) hB dX0_giving_59 (by decide) ?_
      refine zw_iret hB hR dX0_giving_64 rfl ?_
      exact ⟨by first | (rw [zgv, if_pos (by omega), nI_clamp (by omega)]) | (rw [zgv, if_neg (by omega), nI_clamp (by omega)]), rfl⟩
def ztr (k : Nat) : Int32 := ztir.getD k 0
theorem s_X0_tiring {n : Nat} {σ : zSt} {k : Nat} (hk : k < 6) : zSem n mX0_tiring [.int (nI k)] σ (zP σ (.int (ztr k))) := by
  refine zSem.of (by decide +kernel) (Nat.le_of_ble_eq_true rfl) (fun X hB hR => ?_)
  show zW X 0 [some (.int (nI k))] [] σ
  refine zw_iload0 hB dX0_tiring_0 ?_
  refine zw_if_lt (tgt := 20) hB dX0_tiring_1 (by decide) (fun c1 => absurd c1 (zpos (by omega))) (fun c1 => ?_)
  refine zw_iload0 hB dX0_tiring_4 ?_
  refine zw_tiring hB dX0_tiring_5 zj_tiring ?_
  refine zw_lentir hB dX0_tiring_8 ?_
  refine zw_icmp_geN (tgt := 20) hB dX0_tiring_9 (by decide) (by omega) (by omega) (fun c9 => absurd c9 (by omega)) (fun c9 => ?_)
  refine zw_tiring hB dX0_tiring_12 zj_tiring ?_
  refine zw_iload0 hB dX0_tiring_15 ?_
  refine zw_ldtir hB dX0_tiring_16 (vp_in_nI (by omega) (by decide)) ?_
  refine zw_goto (tgt := 21) hB dX0_tiring_17 (by decide) ?_
  refine zw_iret hB hR dX0_tiring_21 rfl ?_
  exact ⟨by rw [ztr, nI_clamp (by omega)], rfl⟩
end
section
theorem zz_last : True := trivial
end
