-- ===== PART A: goes FIRST, ahead of the names: the tables' words, and 'selects' of the private methods out of them =====
/-- a private method of a class that the tables say can be made, by its rows of tables_1 -/
def lw_okq (q : MethodName × Nat) : Prop := (q.1.cls ≠ "java/lang/invoke/MethodHandle" ∧ q.1.cls ≠ "java/lang/invoke/VarHandle") ∧ Cond.instantiable q.1.cls q.2 ∈ tables_1 ∧ Cond.privateMethod q.1 ∈ tables_1 ∧ Cond.instanceMethod q.1 ∈ tables_1
theorem lw_p0 : lw_okq (⟨"RotationOfFarmers", "refuse", "(I)I"⟩, 9) := ⟨⟨by decide +kernel, by decide +kernel⟩, List.mem_of_getElem? (i := 16) (by decide +kernel), List.mem_of_getElem? (i := 196) (by decide +kernel), List.mem_of_getElem? (i := 197) (by decide +kernel)⟩
theorem lw_p1 : lw_okq (⟨"RotationOfFarmers$Letters", "placeOfWrongLetter", "()I"⟩, 2) := ⟨⟨by decide +kernel, by decide +kernel⟩, List.mem_of_getElem? (i := 98) (by decide +kernel), List.mem_of_getElem? (i := 219) (by decide +kernel), List.mem_of_getElem? (i := 220) (by decide +kernel)⟩
theorem lw_p2 : lw_okq (⟨"RotationOfFarmers$Letters", "comes", "(LRotationOfFarmers$Land;I)Z"⟩, 2) := ⟨⟨by decide +kernel, by decide +kernel⟩, List.mem_of_getElem? (i := 98) (by decide +kernel), List.mem_of_getElem? (i := 350) (by decide +kernel), List.mem_of_getElem? (i := 351) (by decide +kernel)⟩
theorem lw_p3 : lw_okq (⟨"RotationOfFarmers$Letters", "farmComes", "(LRotationOfFarmers$Land;I)Z"⟩, 2) := ⟨⟨by decide +kernel, by decide +kernel⟩, List.mem_of_getElem? (i := 98) (by decide +kernel), List.mem_of_getElem? (i := 354) (by decide +kernel), List.mem_of_getElem? (i := 355) (by decide +kernel)⟩
theorem lw_p4 : lw_okq (⟨"RotationOfFarmers$Letters", "number", "(I)I"⟩, 2) := ⟨⟨by decide +kernel, by decide +kernel⟩, List.mem_of_getElem? (i := 98) (by decide +kernel), List.mem_of_getElem? (i := 358) (by decide +kernel), List.mem_of_getElem? (i := 359) (by decide +kernel)⟩
theorem lw_p5 : lw_okq (⟨"RotationOfFarmers$Letters", "digit", "(I)I"⟩, 2) := ⟨⟨by decide +kernel, by decide +kernel⟩, List.mem_of_getElem? (i := 98) (by decide +kernel), List.mem_of_getElem? (i := 362) (by decide +kernel), List.mem_of_getElem? (i := 363) (by decide +kernel)⟩
theorem lw_p6 : lw_okq (⟨"RotationOfFarmers$Letters", "toldAt", "(I)I"⟩, 2) := ⟨⟨by decide +kernel, by decide +kernel⟩, List.mem_of_getElem? (i := 98) (by decide +kernel), List.mem_of_getElem? (i := 366) (by decide +kernel), List.mem_of_getElem? (i := 367) (by decide +kernel)⟩
theorem lw_p7 : lw_okq (⟨"RotationOfFarmers$Letters", "farmerComes", "(LRotationOfFarmers$Land;I)Z"⟩, 2) := ⟨⟨by decide +kernel, by decide +kernel⟩, List.mem_of_getElem? (i := 98) (by decide +kernel), List.mem_of_getElem? (i := 378) (by decide +kernel), List.mem_of_getElem? (i := 379) (by decide +kernel)⟩
theorem lw_p8 : lw_okq (⟨"RotationOfFarmers$Land", "lieUntilled", "(I)V"⟩, 13) := ⟨⟨by decide +kernel, by decide +kernel⟩, List.mem_of_getElem? (i := 24) (by decide +kernel), List.mem_of_getElem? (i := 433) (by decide +kernel), List.mem_of_getElem? (i := 434) (by decide +kernel)⟩
theorem lw_p9 : lw_okq (⟨"RotationOfFarmers$Land", "till", "(II)V"⟩, 13) := ⟨⟨by decide +kernel, by decide +kernel⟩, List.mem_of_getElem? (i := 24) (by decide +kernel), List.mem_of_getElem? (i := 451) (by decide +kernel), List.mem_of_getElem? (i := 452) (by decide +kernel)⟩
theorem lw_p10 : lw_okq (⟨"RotationOfFarmers$Land", "moveOn", "()V"⟩, 13) := ⟨⟨by decide +kernel, by decide +kernel⟩, List.mem_of_getElem? (i := 24) (by decide +kernel), List.mem_of_getElem? (i := 468) (by decide +kernel), List.mem_of_getElem? (i := 469) (by decide +kernel)⟩
theorem lw_p11 : lw_okq (⟨"RotationOfFarmers$Seating", "mostBehind", "(II)I"⟩, 1) := ⟨⟨by decide +kernel, by decide +kernel⟩, List.mem_of_getElem? (i := 120) (by decide +kernel), List.mem_of_getElem? (i := 640) (by decide +kernel), List.mem_of_getElem? (i := 641) (by decide +kernel)⟩
theorem lw_p12 : lw_okq (⟨"RotationOfFarmers$Seating", "planSeat", "(IIII)V"⟩, 1) := ⟨⟨by decide +kernel, by decide +kernel⟩, List.mem_of_getElem? (i := 120) (by decide +kernel), List.mem_of_getElem? (i := 645) (by decide +kernel), List.mem_of_getElem? (i := 646) (by decide +kernel)⟩
theorem lw_p13 : lw_okq (⟨"RotationOfFarmers$Seating", "firstSeat", "(LRotationOfFarmers$Land;II)I"⟩, 1) := ⟨⟨by decide +kernel, by decide +kernel⟩, List.mem_of_getElem? (i := 120) (by decide +kernel), List.mem_of_getElem? (i := 661) (by decide +kernel), List.mem_of_getElem? (i := 662) (by decide +kernel)⟩
theorem lw_p14 : lw_okq (⟨"RotationOfFarmers$Mind", "weigh", "(LRotationOfFarmers$Land;IIII)V"⟩, 6) := ⟨⟨by decide +kernel, by decide +kernel⟩, List.mem_of_getElem? (i := 112) (by decide +kernel), List.mem_of_getElem? (i := 741) (by decide +kernel), List.mem_of_getElem? (i := 742) (by decide +kernel)⟩
theorem lw_p15 : lw_okq (⟨"RotationOfFarmers", "greensAreTheRow", "(I)Z"⟩, 9) := ⟨⟨by decide +kernel, by decide +kernel⟩, List.mem_of_getElem? (i := 16) (by decide +kernel), List.mem_of_getElem? (i := 778) (by decide +kernel), List.mem_of_getElem? (i := 779) (by decide +kernel)⟩
def lw_privs_1 : List (MethodName × Nat) := [(⟨"RotationOfFarmers", "refuse", "(I)I"⟩, 9), (⟨"RotationOfFarmers$Letters", "placeOfWrongLetter", "()I"⟩, 2), (⟨"RotationOfFarmers$Letters", "comes", "(LRotationOfFarmers$Land;I)Z"⟩, 2), (⟨"RotationOfFarmers$Letters", "farmComes", "(LRotationOfFarmers$Land;I)Z"⟩, 2), (⟨"RotationOfFarmers$Letters", "number", "(I)I"⟩, 2), (⟨"RotationOfFarmers$Letters", "digit", "(I)I"⟩, 2), (⟨"RotationOfFarmers$Letters", "toldAt", "(I)I"⟩, 2), (⟨"RotationOfFarmers$Letters", "farmerComes", "(LRotationOfFarmers$Land;I)Z"⟩, 2), (⟨"RotationOfFarmers$Land", "lieUntilled", "(I)V"⟩, 13), (⟨"RotationOfFarmers$Land", "till", "(II)V"⟩, 13), (⟨"RotationOfFarmers$Land", "moveOn", "()V"⟩, 13), (⟨"RotationOfFarmers$Seating", "mostBehind", "(II)I"⟩, 1), (⟨"RotationOfFarmers$Seating", "planSeat", "(IIII)V"⟩, 1), (⟨"RotationOfFarmers$Seating", "firstSeat", "(LRotationOfFarmers$Land;II)I"⟩, 1), (⟨"RotationOfFarmers$Mind", "weigh", "(LRotationOfFarmers$Land;IIII)V"⟩, 6), (⟨"RotationOfFarmers", "greensAreTheRow", "(I)Z"⟩, 9)]
theorem lw_r1 : ∀ q ∈ lw_privs_1, lw_okq q := List.forall_mem_cons.mpr ⟨lw_p0, List.forall_mem_cons.mpr ⟨lw_p1, List.forall_mem_cons.mpr ⟨lw_p2, List.forall_mem_cons.mpr ⟨lw_p3, List.forall_mem_cons.mpr ⟨lw_p4, List.forall_mem_cons.mpr ⟨lw_p5, List.forall_mem_cons.mpr ⟨lw_p6, List.forall_mem_cons.mpr ⟨lw_p7, List.forall_mem_cons.mpr ⟨lw_p8, List.forall_mem_cons.mpr ⟨lw_p9, List.forall_mem_cons.mpr ⟨lw_p10, List.forall_mem_cons.mpr ⟨lw_p11, List.forall_mem_cons.mpr ⟨lw_p12, List.forall_mem_cons.mpr ⟨lw_p13, List.forall_mem_cons.mpr ⟨lw_p14, List.forall_mem_cons.mpr ⟨lw_p15, fun _ h => absurd h List.not_mem_nil⟩⟩⟩⟩⟩⟩⟩⟩⟩⟩⟩⟩⟩⟩⟩⟩
theorem lw_p16 : lw_okq (⟨"RotationOfFarmers", "firstWrongCrop", "()I"⟩, 9) := ⟨⟨by decide +kernel, by decide +kernel⟩, List.mem_of_getElem? (i := 16) (by decide +kernel), List.mem_of_getElem? (i := 791) (by decide +kernel), List.mem_of_getElem? (i := 792) (by decide +kernel)⟩
theorem lw_p17 : lw_okq (⟨"RotationOfFarmers$Mind", "draw", "(I)I"⟩, 6) := ⟨⟨by decide +kernel, by decide +kernel⟩, List.mem_of_getElem? (i := 112) (by decide +kernel), List.mem_of_getElem? (i := 807) (by decide +kernel), List.mem_of_getElem? (i := 808) (by decide +kernel)⟩
theorem lw_p18 : lw_okq (⟨"RotationOfFarmersModel", "no", "(I)I"⟩, 18) := ⟨⟨by decide +kernel, by decide +kernel⟩, List.mem_of_getElem? (i := 827) (by decide +kernel), List.mem_of_getElem? (i := 892) (by decide +kernel), List.mem_of_getElem? (i := 893) (by decide +kernel)⟩
theorem lw_p19 : lw_okq (⟨"RotationOfFarmersModel", "readsStatement", "()Z"⟩, 18) := ⟨⟨by decide +kernel, by decide +kernel⟩, List.mem_of_getElem? (i := 827) (by decide +kernel), List.mem_of_getElem? (i := 900) (by decide +kernel), List.mem_of_getElem? (i := 901) (by decide +kernel)⟩
theorem lw_p20 : lw_okq (⟨"RotationOfFarmersModel", "here", "()I"⟩, 18) := ⟨⟨by decide +kernel, by decide +kernel⟩, List.mem_of_getElem? (i := 827) (by decide +kernel), List.mem_of_getElem? (i := 904) (by decide +kernel), List.mem_of_getElem? (i := 905) (by decide +kernel)⟩
theorem lw_p21 : lw_okq (⟨"RotationOfFarmersModel", "readsNumber", "(II)Z"⟩, 18) := ⟨⟨by decide +kernel, by decide +kernel⟩, List.mem_of_getElem? (i := 827) (by decide +kernel), List.mem_of_getElem? (i := 908) (by decide +kernel), List.mem_of_getElem? (i := 909) (by decide +kernel)⟩
theorem lw_p22 : lw_okq (⟨"RotationOfFarmersModel", "readsKind", "()Z"⟩, 18) := ⟨⟨by decide +kernel, by decide +kernel⟩, List.mem_of_getElem? (i := 827) (by decide +kernel), List.mem_of_getElem? (i := 915) (by decide +kernel), List.mem_of_getElem? (i := 916) (by decide +kernel)⟩
theorem lw_p23 : lw_okq (⟨"RotationOfFarmersModel", "isDone", "(I)Z"⟩, 18) := ⟨⟨by decide +kernel, by decide +kernel⟩, List.mem_of_getElem? (i := 827) (by decide +kernel), List.mem_of_getElem? (i := 925) (by decide +kernel), List.mem_of_getElem? (i := 926) (by decide +kernel)⟩
theorem lw_p24 : lw_okq (⟨"RotationOfFarmersModel", "isFarmer", "(I)Z"⟩, 18) := ⟨⟨by decide +kernel, by decide +kernel⟩, List.mem_of_getElem? (i := 827) (by decide +kernel), List.mem_of_getElem? (i := 935) (by decide +kernel), List.mem_of_getElem? (i := 936) (by decide +kernel)⟩
theorem lw_p25 : lw_okq (⟨"RotationOfFarmersModel", "isFarm", "(I)Z"⟩, 18) := ⟨⟨by decide +kernel, by decide +kernel⟩, List.mem_of_getElem? (i := 827) (by decide +kernel), List.mem_of_getElem? (i := 939) (by decide +kernel), List.mem_of_getElem? (i := 940) (by decide +kernel)⟩
theorem lw_p26 : lw_okq (⟨"RotationOfFarmersModel", "yearsOn", "([II)I"⟩, 18) := ⟨⟨by decide +kernel, by decide +kernel⟩, List.mem_of_getElem? (i := 827) (by decide +kernel), List.mem_of_getElem? (i := 949) (by decide +kernel), List.mem_of_getElem? (i := 950) (by decide +kernel)⟩
theorem lw_p27 : lw_okq (⟨"RotationOfFarmersModel", "year", "([IZ)I"⟩, 18) := ⟨⟨by decide +kernel, by decide +kernel⟩, List.mem_of_getElem? (i := 827) (by decide +kernel), List.mem_of_getElem? (i := 953) (by decide +kernel), List.mem_of_getElem? (i := 954) (by decide +kernel)⟩
theorem lw_p28 : lw_okq (⟨"RotationOfFarmersModel", "takes", "(I)I"⟩, 18) := ⟨⟨by decide +kernel, by decide +kernel⟩, List.mem_of_getElem? (i := 827) (by decide +kernel), List.mem_of_getElem? (i := 1018) (by decide +kernel), List.mem_of_getElem? (i := 1019) (by decide +kernel)⟩
theorem lw_p29 : lw_okq (⟨"RotationOfFarmersModel", "sets", "(III)V"⟩, 18) := ⟨⟨by decide +kernel, by decide +kernel⟩, List.mem_of_getElem? (i := 827) (by decide +kernel), List.mem_of_getElem? (i := 1065) (by decide +kernel), List.mem_of_getElem? (i := 1066) (by decide +kernel)⟩
theorem lw_p30 : lw_okq (⟨"RotationOfFarmersModel", "areWhereTheyAre", "()Z"⟩, 18) := ⟨⟨by decide +kernel, by decide +kernel⟩, List.mem_of_getElem? (i := 827) (by decide +kernel), List.mem_of_getElem? (i := 1087) (by decide +kernel), List.mem_of_getElem? (i := 1088) (by decide +kernel)⟩
theorem lw_p31 : lw_okq (⟨"RotationOfFarmersModel", "ownBy", "(IIIIII)I"⟩, 18) := ⟨⟨by decide +kernel, by decide +kernel⟩, List.mem_of_getElem? (i := 827) (by decide +kernel), List.mem_of_getElem? (i := 1104) (by decide +kernel), List.mem_of_getElem? (i := 1105) (by decide +kernel)⟩
def lw_privs_2 : List (MethodName × Nat) := [(⟨"RotationOfFarmers", "firstWrongCrop", "()I"⟩, 9), (⟨"RotationOfFarmers$Mind", "draw", "(I)I"⟩, 6), (⟨"RotationOfFarmersModel", "no", "(I)I"⟩, 18), (⟨"RotationOfFarmersModel", "readsStatement", "()Z"⟩, 18), (⟨"RotationOfFarmersModel", "here", "()I"⟩, 18), (⟨"RotationOfFarmersModel", "readsNumber", "(II)Z"⟩, 18), (⟨"RotationOfFarmersModel", "readsKind", "()Z"⟩, 18), (⟨"RotationOfFarmersModel", "isDone", "(I)Z"⟩, 18), (⟨"RotationOfFarmersModel", "isFarmer", "(I)Z"⟩, 18), (⟨"RotationOfFarmersModel", "isFarm", "(I)Z"⟩, 18), (⟨"RotationOfFarmersModel", "yearsOn", "([II)I"⟩, 18), (⟨"RotationOfFarmersModel", "year", "([IZ)I"⟩, 18), (⟨"RotationOfFarmersModel", "takes", "(I)I"⟩, 18), (⟨"RotationOfFarmersModel", "sets", "(III)V"⟩, 18), (⟨"RotationOfFarmersModel", "areWhereTheyAre", "()Z"⟩, 18), (⟨"RotationOfFarmersModel", "ownBy", "(IIIIII)I"⟩, 18)]
theorem lw_r2 : ∀ q ∈ lw_privs_2, lw_okq q := List.forall_mem_cons.mpr ⟨lw_p16, List.forall_mem_cons.mpr ⟨lw_p17, List.forall_mem_cons.mpr ⟨lw_p18, List.forall_mem_cons.mpr ⟨lw_p19, List.forall_mem_cons.mpr ⟨lw_p20, List.forall_mem_cons.mpr ⟨lw_p21, List.forall_mem_cons.mpr ⟨lw_p22, List.forall_mem_cons.mpr ⟨lw_p23, List.forall_mem_cons.mpr ⟨lw_p24, List.forall_mem_cons.mpr ⟨lw_p25, List.forall_mem_cons.mpr ⟨lw_p26, List.forall_mem_cons.mpr ⟨lw_p27, List.forall_mem_cons.mpr ⟨lw_p28, List.forall_mem_cons.mpr ⟨lw_p29, List.forall_mem_cons.mpr ⟨lw_p30, List.forall_mem_cons.mpr ⟨lw_p31, fun _ h => absurd h List.not_mem_nil⟩⟩⟩⟩⟩⟩⟩⟩⟩⟩⟩⟩⟩⟩⟩⟩
theorem lw_p32 : lw_okq (⟨"RotationOfFarmersModel", "noWide", "(I)J"⟩, 18) := ⟨⟨by decide +kernel, by decide +kernel⟩, List.mem_of_getElem? (i := 827) (by decide +kernel), List.mem_of_getElem? (i := 1112) (by decide +kernel), List.mem_of_getElem? (i := 1113) (by decide +kernel)⟩
theorem lw_p33 : lw_okq (⟨"RotationOfFarmersModel", "drawn", "(I)I"⟩, 18) := ⟨⟨by decide +kernel, by decide +kernel⟩, List.mem_of_getElem? (i := 827) (by decide +kernel), List.mem_of_getElem? (i := 1150) (by decide +kernel), List.mem_of_getElem? (i := 1151) (by decide +kernel)⟩
def lw_privs_3 : List (MethodName × Nat) := [(⟨"RotationOfFarmersModel", "noWide", "(I)J"⟩, 18), (⟨"RotationOfFarmersModel", "drawn", "(I)I"⟩, 18)]
theorem lw_r3 : ∀ q ∈ lw_privs_3, lw_okq q := List.forall_mem_cons.mpr ⟨lw_p32, List.forall_mem_cons.mpr ⟨lw_p33, fun _ h => absurd h List.not_mem_nil⟩⟩
def lw_privs : List (MethodName × Nat) := lw_privs_1 ++ (lw_privs_2 ++ (lw_privs_3))
def lw_tbl : List Cond := k2_sels lw_privs ++ tables_1
theorem lw_privs_ok : ∀ q ∈ lw_privs, lw_okq q := by
  show ∀ q ∈ lw_privs_1 ++ (lw_privs_2 ++ (lw_privs_3)), lw_okq q
  exact List.forall_mem_append.mpr ⟨lw_r1, List.forall_mem_append.mpr ⟨lw_r2, lw_r3⟩⟩
-- names: printed by program out of the claim
def RX0 : String := "RotationOfFarmers$Kinds"
def TX0 : u_T := fun k => match k with
  | _ => ("", "", "", false)
def tyX0 : Nat → FieldType := fun k => match k with
  | _ => .int
abbrev wsX00 : List Cond := u_ws RX0 TX0 0
theorem nmX0 : ∀ a, a < 0 → ∀ b, b < 0 → a ≠ b → (TX0 a).2.1 ≠ (TX0 b).2.1 := by decide +kernel
theorem tyX0_ok : ∀ k, k < 0 → parseFieldDescriptor (TX0 k).2.2.1 = some (tyX0 k) := by decide +kernel
abbrev cX0_ofLetter : ByteArray := prog_2_method_2_code
def yX0_ofLetter : MethodName := ⟨RX0, "ofLetter", "(I)I"⟩
abbrev cX0_growing : ByteArray := prog_2_method_3_code
def yX0_growing : MethodName := ⟨RX0, "growing", "(III)I"⟩
abbrev cX0_giving : ByteArray := prog_2_method_4_code
def yX0_giving : MethodName := ⟨RX0, "giving", "(III)I"⟩
abbrev cX0_tiring : ByteArray := prog_2_method_5_code
def yX0_tiring : MethodName := ⟨RX0, "tiring", "(I)I"⟩
def RX1 : String := "RotationOfFarmers$Land"
def TX1 : u_T := fun k => match k with
  | 0 => ("RotationOfFarmers$Land", "farms", "I", false)
  | 1 => ("RotationOfFarmers$Land", "farmers", "I", false)
  | 2 => ("RotationOfFarmers$Land", "step", "I", false)
  | 3 => ("RotationOfFarmers$Land", "barn", "I", false)
  | 4 => ("RotationOfFarmers$Land", "year", "I", false)
  | 5 => ("RotationOfFarmers$Land", "grown", "I", false)
  | 6 => ("RotationOfFarmers$Land", "heart", "[I", true)
  | 7 => ("RotationOfFarmers$Land", "grownThere", "[I", true)
  | 8 => ("RotationOfFarmers$Land", "kind", "[I", true)
  | 9 => ("RotationOfFarmers$Land", "figure", "[I", true)
  | 10 => ("RotationOfFarmers$Land", "tired", "[I", true)
  | 11 => ("RotationOfFarmers$Land", "place", "[I", true)
  | _ => ("RotationOfFarmers$Land", "grownBy", "[I", true)
def tyX1 : Nat → FieldType := fun k => match k with
  | 0 => .int
  | 1 => .int
  | 2 => .int
  | 3 => .int
  | 4 => .int
  | 5 => .int
  | 6 => .array .int
  | 7 => .array .int
  | 8 => .array .int
  | 9 => .array .int
  | 10 => .array .int
  | 11 => .array .int
  | _ => .array .int
abbrev wsX10 : List Cond := u_ws RX1 TX1 13
theorem nmX1 : ∀ a, a < 13 → ∀ b, b < 13 → a ≠ b → (TX1 a).2.1 ≠ (TX1 b).2.1 := by decide +kernel
theorem tyX1_ok : ∀ k, k < 13 → parseFieldDescriptor (TX1 k).2.2.1 = some (tyX1 k) := by decide +kernel
abbrev cX1_init : ByteArray := prog_3_method_1_code
def yX1_init : MethodName := ⟨RX1, "<init>", "()V"⟩
abbrev cX1_become : ByteArray := prog_3_method_2_code
def yX1_become : MethodName := ⟨RX1, "become", "(LRotationOfFarmers$Land;)V"⟩
abbrev cX1_hasFarm : ByteArray := prog_3_method_3_code
def yX1_hasFarm : MethodName := ⟨RX1, "hasFarm", "(I)Z"⟩
abbrev cX1_hasFarmer : ByteArray := prog_3_method_4_code
def yX1_hasFarmer : MethodName := ⟨RX1, "hasFarmer", "(I)Z"⟩
abbrev cX1_hasSort : ByteArray := prog_3_method_5_code
def yX1_hasSort : MethodName := ⟨RX1, "hasSort", "(I)Z"⟩
abbrev cX1_hasYears : ByteArray := prog_3_method_6_code
def yX1_hasYears : MethodName := ⟨RX1, "hasYears", "(I)Z"⟩
abbrev cX1_heartOf : ByteArray := prog_3_method_7_code
def yX1_heartOf : MethodName := ⟨RX1, "heartOf", "(II)I"⟩
abbrev cX1_setHeart : ByteArray := prog_3_method_8_code
def yX1_setHeart : MethodName := ⟨RX1, "setHeart", "(III)V"⟩
abbrev cX1_addFarm : ByteArray := prog_3_method_9_code
def yX1_addFarm : MethodName := ⟨RX1, "addFarm", "(III)V"⟩
abbrev cX1_addFarmer : ByteArray := prog_3_method_10_code
def yX1_addFarmer : MethodName := ⟨RX1, "addFarmer", "(II)V"⟩
abbrev cX1_seat : ByteArray := prog_3_method_11_code
def yX1_seat : MethodName := ⟨RX1, "seat", "(II)V"⟩
abbrev cX1_exchange : ByteArray := prog_3_method_12_code
def yX1_exchange : MethodName := ⟨RX1, "exchange", "(II)V"⟩
abbrev cX1_tenantOf : ByteArray := prog_3_method_13_code
def yX1_tenantOf : MethodName := ⟨RX1, "tenantOf", "(I)I"⟩
abbrev cX1_greenOf : ByteArray := prog_3_method_14_code
def yX1_greenOf : MethodName := ⟨RX1, "greenOf", "(I)I"⟩
abbrev cX1_greenOfAll : ByteArray := prog_3_method_15_code
def yX1_greenOfAll : MethodName := ⟨RX1, "greenOfAll", "()I"⟩
abbrev cX1_greenestFarm : ByteArray := prog_3_method_16_code
def yX1_greenestFarm : MethodName := ⟨RX1, "greenestFarm", "()I"⟩
abbrev cX1_mostGreen : ByteArray := prog_3_method_17_code
def yX1_mostGreen : MethodName := ⟨RX1, "mostGreen", "()I"⟩
abbrev cX1_leastGreen : ByteArray := prog_3_method_18_code
def yX1_leastGreen : MethodName := ⟨RX1, "leastGreen", "()I"⟩
abbrev cX1_firstBarrenFarm : ByteArray := prog_3_method_19_code
def yX1_firstBarrenFarm : MethodName := ⟨RX1, "firstBarrenFarm", "()I"⟩
abbrev cX1_freeFarms : ByteArray := prog_3_method_20_code
def yX1_freeFarms : MethodName := ⟨RX1, "freeFarms", "()I"⟩
abbrev cX1_idleFarmers : ByteArray := prog_3_method_21_code
def yX1_idleFarmers : MethodName := ⟨RX1, "idleFarmers", "()I"⟩
abbrev cX1_wornFarmers : ByteArray := prog_3_method_22_code
def yX1_wornFarmers : MethodName := ⟨RX1, "wornFarmers", "()I"⟩
abbrev cX1_isWorn : ByteArray := prog_3_method_23_code
def yX1_isWorn : MethodName := ⟨RX1, "isWorn", "(I)Z"⟩
abbrev cX1_grownAt : ByteArray := prog_3_method_24_code
def yX1_grownAt : MethodName := ⟨RX1, "grownAt", "(II)I"⟩
abbrev cX1_grownNow : ByteArray := prog_3_method_25_code
def yX1_grownNow : MethodName := ⟨RX1, "grownNow", "(I)I"⟩
abbrev cX1_feedingKind : ByteArray := prog_3_method_26_code
def yX1_feedingKind : MethodName := ⟨RX1, "feedingKind", "(I)I"⟩
abbrev cX1_greenFedBy : ByteArray := prog_3_method_27_code
def yX1_greenFedBy : MethodName := ⟨RX1, "greenFedBy", "(II)I"⟩
abbrev cX1_grownIn : ByteArray := prog_3_method_28_code
def yX1_grownIn : MethodName := ⟨RX1, "grownIn", "(I)I"⟩
abbrev cX1_passYear : ByteArray := prog_3_method_29_code
def yX1_passYear : MethodName := ⟨RX1, "passYear", "()V"⟩
abbrev cX1_isAsFreshAs : ByteArray := prog_3_method_30_code
def yX1_isAsFreshAs : MethodName := ⟨RX1, "isAsFreshAs", "(LRotationOfFarmers$Land;)Z"⟩
abbrev cX1_isSeatedAs : ByteArray := prog_3_method_31_code
def yX1_isSeatedAs : MethodName := ⟨RX1, "isSeatedAs", "(LRotationOfFarmers$Land;)Z"⟩
abbrev cX1_lieUntilled : ByteArray := prog_3_method_32_code
def yX1_lieUntilled : MethodName := ⟨RX1, "lieUntilled", "(I)V"⟩
abbrev cX1_till : ByteArray := prog_3_method_33_code
def yX1_till : MethodName := ⟨RX1, "till", "(II)V"⟩
abbrev cX1_moveOn : ByteArray := prog_3_method_34_code
def yX1_moveOn : MethodName := ⟨RX1, "moveOn", "()V"⟩
abbrev cX1_asHeart : ByteArray := prog_3_method_35_code
def yX1_asHeart : MethodName := ⟨RX1, "asHeart", "(I)I"⟩
def RX2 : String := "RotationOfFarmers$Letters"
def TX2 : u_T := fun k => match k with
  | 0 => ("RotationOfFarmers$Letters", "told", "[I", true)
  | _ => ("RotationOfFarmers$Letters", "size", "I", false)
def tyX2 : Nat → FieldType := fun k => match k with
  | 0 => .array .int
  | _ => .int
abbrev wsX20 : List Cond := u_ws RX2 TX2 2
theorem nmX2 : ∀ a, a < 2 → ∀ b, b < 2 → a ≠ b → (TX2 a).2.1 ≠ (TX2 b).2.1 := by decide +kernel
theorem tyX2_ok : ∀ k, k < 2 → parseFieldDescriptor (TX2 k).2.2.1 = some (tyX2 k) := by decide +kernel
abbrev cX2_init : ByteArray := prog_4_method_1_code
def yX2_init : MethodName := ⟨RX2, "<init>", "()V"⟩
abbrev cX2_isFull : ByteArray := prog_4_method_2_code
def yX2_isFull : MethodName := ⟨RX2, "isFull", "()Z"⟩
abbrev cX2_add : ByteArray := prog_4_method_3_code
def yX2_add : MethodName := ⟨RX2, "add", "(I)V"⟩
abbrev cX2_tellTo : ByteArray := prog_4_method_4_code
def yX2_tellTo : MethodName := ⟨RX2, "tellTo", "(LRotationOfFarmers$Land;)I"⟩
abbrev cX2_placeOfWrongLetter : ByteArray := prog_4_method_5_code
def yX2_placeOfWrongLetter : MethodName := ⟨RX2, "placeOfWrongLetter", "()I"⟩
abbrev cX2_shapeBehind : ByteArray := prog_4_method_6_code
def yX2_shapeBehind : MethodName := ⟨RX2, "shapeBehind", "(I)Ljava/lang/String;"⟩
abbrev cX2_fits : ByteArray := prog_4_method_7_code
def yX2_fits : MethodName := ⟨RX2, "fits", "(IC)Z"⟩
abbrev cX2_comes : ByteArray := prog_4_method_8_code
def yX2_comes : MethodName := ⟨RX2, "comes", "(LRotationOfFarmers$Land;I)Z"⟩
abbrev cX2_farmComes : ByteArray := prog_4_method_9_code
def yX2_farmComes : MethodName := ⟨RX2, "farmComes", "(LRotationOfFarmers$Land;I)Z"⟩
abbrev cX2_farmerComes : ByteArray := prog_4_method_10_code
def yX2_farmerComes : MethodName := ⟨RX2, "farmerComes", "(LRotationOfFarmers$Land;I)Z"⟩
abbrev cX2_seatComes : ByteArray := prog_4_method_11_code
def yX2_seatComes : MethodName := ⟨RX2, "seatComes", "(LRotationOfFarmers$Land;II)Z"⟩
abbrev cX2_leaveComes : ByteArray := prog_4_method_12_code
def yX2_leaveComes : MethodName := ⟨RX2, "leaveComes", "(LRotationOfFarmers$Land;I)Z"⟩
abbrev cX2_heartComes : ByteArray := prog_4_method_13_code
def yX2_heartComes : MethodName := ⟨RX2, "heartComes", "(LRotationOfFarmers$Land;III)Z"⟩
abbrev cX2_stepComes : ByteArray := prog_4_method_14_code
def yX2_stepComes : MethodName := ⟨RX2, "stepComes", "(LRotationOfFarmers$Land;I)Z"⟩
abbrev cX2_yearsCome : ByteArray := prog_4_method_15_code
def yX2_yearsCome : MethodName := ⟨RX2, "yearsCome", "(LRotationOfFarmers$Land;I)Z"⟩
abbrev cX2_toldAt : ByteArray := prog_4_method_16_code
def yX2_toldAt : MethodName := ⟨RX2, "toldAt", "(I)I"⟩
abbrev cX2_digit : ByteArray := prog_4_method_17_code
def yX2_digit : MethodName := ⟨RX2, "digit", "(I)I"⟩
abbrev cX2_number : ByteArray := prog_4_method_18_code
def yX2_number : MethodName := ⟨RX2, "number", "(I)I"⟩
def RX3 : String := "RotationOfFarmers$Mind"
def TX3 : u_T := fun k => match k with
  | 0 => ("RotationOfFarmers$Mind", "then", "LRotationOfFarmers$Land;", true)
  | 1 => ("RotationOfFarmers$Mind", "seating", "LRotationOfFarmers$Seating;", true)
  | 2 => ("RotationOfFarmers$Mind", "before", "LRotationOfFarmers$Land;", true)
  | 3 => ("RotationOfFarmers$Mind", "cornOfYear", "[I", true)
  | 4 => ("RotationOfFarmers$Mind", "worth", "[I", true)
  | _ => ("RotationOfFarmers$Mind", "seed", "I", false)
def tyX3 : Nat → FieldType := fun k => match k with
  | 0 => .object "RotationOfFarmers$Land"
  | 1 => .object "RotationOfFarmers$Seating"
  | 2 => .object "RotationOfFarmers$Land"
  | 3 => .array .int
  | 4 => .array .int
  | _ => .int
abbrev wsX30 : List Cond := u_ws RX3 TX3 6
theorem nmX3 : ∀ a, a < 6 → ∀ b, b < 6 → a ≠ b → (TX3 a).2.1 ≠ (TX3 b).2.1 := by decide +kernel
theorem tyX3_ok : ∀ k, k < 6 → parseFieldDescriptor (TX3 k).2.2.1 = some (tyX3 k) := by decide +kernel
abbrev cX3_init : ByteArray := prog_5_method_1_code
def yX3_init : MethodName := ⟨RX3, "<init>", "()V"⟩
abbrev cX3_after : ByteArray := prog_5_method_2_code
def yX3_after : MethodName := ⟨RX3, "after", "(LRotationOfFarmers$Land;I)LRotationOfFarmers$Land;"⟩
abbrev cX3_suppose : ByteArray := prog_5_method_3_code
def yX3_suppose : MethodName := ⟨RX3, "suppose", "(LRotationOfFarmers$Land;III)V"⟩
abbrev cX3_lostYear : ByteArray := prog_5_method_4_code
def yX3_lostYear : MethodName := ⟨RX3, "lostYear", "(LRotationOfFarmers$Land;)I"⟩
abbrev cX3_lostFarm : ByteArray := prog_5_method_5_code
def yX3_lostFarm : MethodName := ⟨RX3, "lostFarm", "(LRotationOfFarmers$Land;)I"⟩
abbrev cX3_grownOfAll : ByteArray := prog_5_method_6_code
def yX3_grownOfAll : MethodName := ⟨RX3, "grownOfAll", "(LRotationOfFarmers$Land;I)I"⟩
abbrev cX3_grownOn : ByteArray := prog_5_method_7_code
def yX3_grownOn : MethodName := ⟨RX3, "grownOn", "(LRotationOfFarmers$Land;II)I"⟩
abbrev cX3_grownByStep : ByteArray := prog_5_method_8_code
def yX3_grownByStep : MethodName := ⟨RX3, "grownByStep", "(LRotationOfFarmers$Land;II)I"⟩
abbrev cX3_stepOfMost : ByteArray := prog_5_method_9_code
def yX3_stepOfMost : MethodName := ⟨RX3, "stepOfMost", "(LRotationOfFarmers$Land;I)I"⟩
abbrev cX3_farmerToSend : ByteArray := prog_5_method_10_code
def yX3_farmerToSend : MethodName := ⟨RX3, "farmerToSend", "(LRotationOfFarmers$Land;I)I"⟩
abbrev cX3_pairToChange : ByteArray := prog_5_method_11_code
def yX3_pairToChange : MethodName := ⟨RX3, "pairToChange", "(LRotationOfFarmers$Land;I)I"⟩
abbrev cX3_settledYear : ByteArray := prog_5_method_12_code
def yX3_settledYear : MethodName := ⟨RX3, "settledYear", "(LRotationOfFarmers$Land;)I"⟩
abbrev cX3_roundYear : ByteArray := prog_5_method_13_code
def yX3_roundYear : MethodName := ⟨RX3, "roundYear", "(LRotationOfFarmers$Land;)I"⟩
abbrev cX3_restingPair : ByteArray := prog_5_method_14_code
def yX3_restingPair : MethodName := ⟨RX3, "restingPair", "(LRotationOfFarmers$Land;III)I"⟩
abbrev cX3_weigh : ByteArray := prog_5_method_15_code
def yX3_weigh : MethodName := ⟨RX3, "weigh", "(LRotationOfFarmers$Land;IIII)V"⟩
abbrev cX3_waysThroughFrost : ByteArray := prog_5_method_16_code
def yX3_waysThroughFrost : MethodName := ⟨RX3, "waysThroughFrost", "(LRotationOfFarmers$Land;III)J"⟩
abbrev cX3_sumOfHundreds : ByteArray := prog_5_method_17_code
def yX3_sumOfHundreds : MethodName := ⟨RX3, "sumOfHundreds", "(LRotationOfFarmers$Land;IIZ)I"⟩
abbrev cX3_draw : ByteArray := prog_5_method_18_code
def yX3_draw : MethodName := ⟨RX3, "draw", "(I)I"⟩
def RX4 : String := "RotationOfFarmers$Seating"
def TX4 : u_T := fun k => match k with
  | _ => ("RotationOfFarmers$Seating", "best", "[I", true)
def tyX4 : Nat → FieldType := fun k => match k with
  | _ => .array .int
abbrev wsX40 : List Cond := u_ws RX4 TX4 1
theorem nmX4 : ∀ a, a < 1 → ∀ b, b < 1 → a ≠ b → (TX4 a).2.1 ≠ (TX4 b).2.1 := by decide +kernel
theorem tyX4_ok : ∀ k, k < 1 → parseFieldDescriptor (TX4 k).2.2.1 = some (tyX4 k) := by decide +kernel
abbrev cX4_init : ByteArray := prog_6_method_1_code
def yX4_init : MethodName := ⟨RX4, "<init>", "()V"⟩
abbrev cX4_plan : ByteArray := prog_6_method_2_code
def yX4_plan : MethodName := ⟨RX4, "plan", "(LRotationOfFarmers$Land;)V"⟩
abbrev cX4_planSeat : ByteArray := prog_6_method_3_code
def yX4_planSeat : MethodName := ⟨RX4, "planSeat", "(IIII)V"⟩
abbrev cX4_most : ByteArray := prog_6_method_4_code
def yX4_most : MethodName := ⟨RX4, "most", "()I"⟩
abbrev cX4_seatOf : ByteArray := prog_6_method_5_code
def yX4_seatOf : MethodName := ⟨RX4, "seatOf", "(LRotationOfFarmers$Land;I)I"⟩
abbrev cX4_firstSeat : ByteArray := prog_6_method_6_code
def yX4_firstSeat : MethodName := ⟨RX4, "firstSeat", "(LRotationOfFarmers$Land;II)I"⟩
abbrev cX4_mostBehind : ByteArray := prog_6_method_7_code
def yX4_mostBehind : MethodName := ⟨RX4, "mostBehind", "(II)I"⟩
abbrev cX4_isOpen : ByteArray := prog_6_method_8_code
def yX4_isOpen : MethodName := ⟨RX4, "isOpen", "(II)Z"⟩
def RX5 : String := "RotationOfFarmers"
def TX5 : u_T := fun k => match k with
  | 0 => ("RotationOfFarmers", "now", "LRotationOfFarmers$Land;", true)
  | 1 => ("RotationOfFarmers", "kept", "LRotationOfFarmers$Land;", true)
  | 2 => ("RotationOfFarmers", "hasKept", "Z", false)
  | 3 => ("RotationOfFarmers", "trial", "LRotationOfFarmers$Land;", true)
  | 4 => ("RotationOfFarmers", "letters", "LRotationOfFarmers$Letters;", true)
  | 5 => ("RotationOfFarmers", "mind", "LRotationOfFarmers$Mind;", true)
  | 6 => ("RotationOfFarmers", "row", "[I", true)
  | 7 => ("RotationOfFarmers", "rowSize", "I", false)
  | _ => ("RotationOfFarmers", "refusals", "[I", true)
def tyX5 : Nat → FieldType := fun k => match k with
  | 0 => .object "RotationOfFarmers$Land"
  | 1 => .object "RotationOfFarmers$Land"
  | 2 => .boolean
  | 3 => .object "RotationOfFarmers$Land"
  | 4 => .object "RotationOfFarmers$Letters"
  | 5 => .object "RotationOfFarmers$Mind"
  | 6 => .array .int
  | 7 => .int
  | _ => .array .int
abbrev wsX50 : List Cond := u_ws RX5 TX5 9
theorem nmX5 : ∀ a, a < 9 → ∀ b, b < 9 → a ≠ b → (TX5 a).2.1 ≠ (TX5 b).2.1 := by decide +kernel
theorem tyX5_ok : ∀ k, k < 9 → parseFieldDescriptor (TX5 k).2.2.1 = some (tyX5 k) := by decide +kernel
abbrev cX5_init : ByteArray := prog_1_method_1_code
def yX5_init : MethodName := ⟨RX5, "<init>", "()V"⟩
abbrev cX5_letter : ByteArray := prog_1_method_2_code
def yX5_letter : MethodName := ⟨RX5, "letter", "(I)I"⟩
abbrev cX5_land : ByteArray := prog_1_method_3_code
def yX5_land : MethodName := ⟨RX5, "land", "()I"⟩
abbrev cX5_farm : ByteArray := prog_1_method_4_code
def yX5_farm : MethodName := ⟨RX5, "farm", "(II)I"⟩
abbrev cX5_farmer : ByteArray := prog_1_method_5_code
def yX5_farmer : MethodName := ⟨RX5, "farmer", "(II)I"⟩
abbrev cX5_sits : ByteArray := prog_1_method_6_code
def yX5_sits : MethodName := ⟨RX5, "sits", "(II)I"⟩
abbrev cX5_leaves : ByteArray := prog_1_method_7_code
def yX5_leaves : MethodName := ⟨RX5, "leaves", "(I)I"⟩
abbrev cX5_hearts : ByteArray := prog_1_method_8_code
def yX5_hearts : MethodName := ⟨RX5, "hearts", "(III)I"⟩
abbrev cX5_steps : ByteArray := prog_1_method_9_code
def yX5_steps : MethodName := ⟨RX5, "steps", "(I)I"⟩
abbrev cX5_tires : ByteArray := prog_1_method_10_code
def yX5_tires : MethodName := ⟨RX5, "tires", "(II)I"⟩
abbrev cX5_turn : ByteArray := prog_1_method_11_code
def yX5_turn : MethodName := ⟨RX5, "turn", "(III)I"⟩
abbrev cX5_years : ByteArray := prog_1_method_12_code
def yX5_years : MethodName := ⟨RX5, "years", "(I)I"⟩
abbrev cX5_heartThen : ByteArray := prog_1_method_13_code
def yX5_heartThen : MethodName := ⟨RX5, "heartThen", "(III)I"⟩
abbrev cX5_farmerThen : ByteArray := prog_1_method_14_code
def yX5_farmerThen : MethodName := ⟨RX5, "farmerThen", "(III)I"⟩
abbrev cX5_barnThen : ByteArray := prog_1_method_15_code
def yX5_barnThen : MethodName := ⟨RX5, "barnThen", "(I)I"⟩
abbrev cX5_greenest : ByteArray := prog_1_method_16_code
def yX5_greenest : MethodName := ⟨RX5, "greenest", "()I"⟩
abbrev cX5_lost : ByteArray := prog_1_method_17_code
def yX5_lost : MethodName := ⟨RX5, "lost", "(I)I"⟩
abbrev cX5_crop : ByteArray := prog_1_method_18_code
def yX5_crop : MethodName := ⟨RX5, "crop", "(II)I"⟩
abbrev cX5_bestStep : ByteArray := prog_1_method_19_code
def yX5_bestStep : MethodName := ⟨RX5, "bestStep", "(II)I"⟩
abbrev cX5_send : ByteArray := prog_1_method_20_code
def yX5_send : MethodName := ⟨RX5, "send", "(I)I"⟩
abbrev cX5_change : ByteArray := prog_1_method_21_code
def yX5_change : MethodName := ⟨RX5, "change", "(I)I"⟩
abbrev cX5_next : ByteArray := prog_1_method_22_code
def yX5_next : MethodName := ⟨RX5, "next", "(I)I"⟩
abbrev cX5_feed : ByteArray := prog_1_method_23_code
def yX5_feed : MethodName := ⟨RX5, "feed", "(II)I"⟩
abbrev cX5_settles : ByteArray := prog_1_method_24_code
def yX5_settles : MethodName := ⟨RX5, "settles", "()I"⟩
abbrev cX5_round : ByteArray := prog_1_method_25_code
def yX5_round : MethodName := ⟨RX5, "round", "()I"⟩
abbrev cX5_free : ByteArray := prog_1_method_26_code
def yX5_free : MethodName := ⟨RX5, "free", "(I)I"⟩
abbrev cX5_inHeart : ByteArray := prog_1_method_27_code
def yX5_inHeart : MethodName := ⟨RX5, "inHeart", "()I"⟩
abbrev cX5_even : ByteArray := prog_1_method_28_code
def yX5_even : MethodName := ⟨RX5, "even", "()I"⟩
abbrev cX5_two : ByteArray := prog_1_method_29_code
def yX5_two : MethodName := ⟨RX5, "two", "(III)I"⟩
abbrev cX5_frost : ByteArray := prog_1_method_30_code
def yX5_frost : MethodName := ⟨RX5, "frost", "(IIII)J"⟩
abbrev cX5_mean : ByteArray := prog_1_method_31_code
def yX5_mean : MethodName := ⟨RX5, "mean", "(I)J"⟩
abbrev cX5_whoSat : ByteArray := prog_1_method_32_code
def yX5_whoSat : MethodName := ⟨RX5, "whoSat", "(III)I"⟩
abbrev cX5_row : ByteArray := prog_1_method_33_code
def yX5_row : MethodName := ⟨RX5, "row", "(I)I"⟩
abbrev cX5_judge : ByteArray := prog_1_method_34_code
def yX5_judge : MethodName := ⟨RX5, "judge", "()I"⟩
abbrev cX5_clear : ByteArray := prog_1_method_35_code
def yX5_clear : MethodName := ⟨RX5, "clear", "()I"⟩
abbrev cX5_lots : ByteArray := prog_1_method_36_code
def yX5_lots : MethodName := ⟨RX5, "lots", "(III)I"⟩
abbrev cX5_image : ByteArray := prog_1_method_37_code
def yX5_image : MethodName := ⟨RX5, "image", "()I"⟩
abbrev cX5_on : ByteArray := prog_1_method_38_code
def yX5_on : MethodName := ⟨RX5, "on", "()I"⟩
abbrev cX5_count : ByteArray := prog_1_method_39_code
def yX5_count : MethodName := ⟨RX5, "count", "(I)I"⟩
abbrev cX5_greensAreTheRow : ByteArray := prog_1_method_40_code
def yX5_greensAreTheRow : MethodName := ⟨RX5, "greensAreTheRow", "(I)Z"⟩
abbrev cX5_firstWrongCrop : ByteArray := prog_1_method_41_code
def yX5_firstWrongCrop : MethodName := ⟨RX5, "firstWrongCrop", "()I"⟩
abbrev cX5_refuse : ByteArray := prog_1_method_42_code
def yX5_refuse : MethodName := ⟨RX5, "refuse", "(I)I"⟩
abbrev cX5_firstOf : ByteArray := prog_1_method_43_code
def yX5_firstOf : MethodName := ⟨RX5, "firstOf", "(III)I"⟩
abbrev cX5_nobodyUnless : ByteArray := prog_1_method_44_code
def yX5_nobodyUnless : MethodName := ⟨RX5, "nobodyUnless", "(Z)I"⟩
abbrev cX5_otherUnless : ByteArray := prog_1_method_45_code
def yX5_otherUnless : MethodName := ⟨RX5, "otherUnless", "(II)I"⟩
abbrev cX5_roomIf : ByteArray := prog_1_method_46_code
def yX5_roomIf : MethodName := ⟨RX5, "roomIf", "(Z)I"⟩
abbrev cX5_inRange : ByteArray := prog_1_method_47_code
def yX5_inRange : MethodName := ⟨RX5, "inRange", "(III)I"⟩
abbrev cX5_termOf : ByteArray := prog_1_method_48_code
def yX5_termOf : MethodName := ⟨RX5, "termOf", "(JJI)J"⟩
def RX6 : String := "RotationOfFarmersModel"
def TX6 : u_T := fun k => match k with
  | 0 => ("RotationOfFarmersModel", "s", "[I", true)
  | 1 => ("RotationOfFarmersModel", "m", "[I", true)
  | 2 => ("RotationOfFarmersModel", "image", "[I", true)
  | 3 => ("RotationOfFarmersModel", "was", "[I", true)
  | 4 => ("RotationOfFarmersModel", "grown", "[I", true)
  | 5 => ("RotationOfFarmersModel", "own", "[I", true)
  | 6 => ("RotationOfFarmersModel", "hasImage", "Z", false)
  | 7 => ("RotationOfFarmersModel", "letters", "[I", true)
  | 8 => ("RotationOfFarmersModel", "row", "[I", true)
  | 9 => ("RotationOfFarmersModel", "refused", "[I", true)
  | 10 => ("RotationOfFarmersModel", "letterMany", "I", false)
  | 11 => ("RotationOfFarmersModel", "rowMany", "I", false)
  | 12 => ("RotationOfFarmersModel", "place", "I", false)
  | 13 => ("RotationOfFarmersModel", "numbers", "[I", true)
  | 14 => ("RotationOfFarmersModel", "given", "[I", true)
  | 15 => ("RotationOfFarmersModel", "bestGiven", "[I", true)
  | 16 => ("RotationOfFarmersModel", "bestGrown", "I", false)
  | _ => ("RotationOfFarmersModel", "seed", "I", false)
def tyX6 : Nat → FieldType := fun k => match k with
  | 0 => .array .int
  | 1 => .array .int
  | 2 => .array .int
  | 3 => .array .int
  | 4 => .array .int
  | 5 => .array .int
  | 6 => .boolean
  | 7 => .array .int
  | 8 => .array .int
  | 9 => .array .int
  | 10 => .int
  | 11 => .int
  | 12 => .int
  | 13 => .array .int
  | 14 => .array .int
  | 15 => .array .int
  | 16 => .int
  | _ => .int
abbrev wsX60 : List Cond := u_ws RX6 TX6 18
theorem nmX6 : ∀ a, a < 18 → ∀ b, b < 18 → a ≠ b → (TX6 a).2.1 ≠ (TX6 b).2.1 := by decide +kernel
theorem tyX6_ok : ∀ k, k < 18 → parseFieldDescriptor (TX6 k).2.2.1 = some (tyX6 k) := by decide +kernel
abbrev cX6_init : ByteArray := prog_8_method_1_code
def yX6_init : MethodName := ⟨RX6, "<init>", "()V"⟩
abbrev cX6_isIn : ByteArray := prog_8_method_2_code
def yX6_isIn : MethodName := ⟨RX6, "isIn", "(III)Z"⟩
abbrev cX6_held : ByteArray := prog_8_method_3_code
def yX6_held : MethodName := ⟨RX6, "held", "(II)I"⟩
abbrev cX6_copies : ByteArray := prog_8_method_4_code
def yX6_copies : MethodName := ⟨RX6, "copies", "([I[I)V"⟩
abbrev cX6_no : ByteArray := prog_8_method_5_code
def yX6_no : MethodName := ⟨RX6, "no", "(I)I"⟩
abbrev cX6_noWide : ByteArray := prog_8_method_6_code
def yX6_noWide : MethodName := ⟨RX6, "noWide", "(I)J"⟩
abbrev cX6_of : ByteArray := prog_8_method_7_code
def yX6_of : MethodName := ⟨RX6, "of", "(II)I"⟩
abbrev cX6_heart : ByteArray := prog_8_method_8_code
def yX6_heart : MethodName := ⟨RX6, "heart", "(II)I"⟩
abbrev cX6_isFarm : ByteArray := prog_8_method_9_code
def yX6_isFarm : MethodName := ⟨RX6, "isFarm", "(I)Z"⟩
abbrev cX6_isFarmer : ByteArray := prog_8_method_10_code
def yX6_isFarmer : MethodName := ⟨RX6, "isFarmer", "(I)Z"⟩
abbrev cX6_has : ByteArray := prog_8_method_11_code
def yX6_has : MethodName := ⟨RX6, "has", "(II)Z"⟩
abbrev cX6_growsBy : ByteArray := prog_8_method_12_code
def yX6_growsBy : MethodName := ⟨RX6, "growsBy", "([III)I"⟩
abbrev cX6_more : ByteArray := prog_8_method_13_code
def yX6_more : MethodName := ⟨RX6, "more", "([IIII)V"⟩
abbrev cX6_changes : ByteArray := prog_8_method_14_code
def yX6_changes : MethodName := ⟨RX6, "changes", "([IIII)V"⟩
abbrev cX6_tiresBy : ByteArray := prog_8_method_15_code
def yX6_tiresBy : MethodName := ⟨RX6, "tiresBy", "(I)I"⟩
abbrev cX6_farmerAt : ByteArray := prog_8_method_16_code
def yX6_farmerAt : MethodName := ⟨RX6, "farmerAt", "([II)I"⟩
abbrev cX6_year : ByteArray := prog_8_method_17_code
def yX6_year : MethodName := ⟨RX6, "year", "([IZ)I"⟩
abbrev cX6_yearsOn : ByteArray := prog_8_method_18_code
def yX6_yearsOn : MethodName := ⟨RX6, "yearsOn", "([II)I"⟩
abbrev cX6_green : ByteArray := prog_8_method_19_code
def yX6_green : MethodName := ⟨RX6, "green", "([II)I"⟩
abbrev cX6_greenAll : ByteArray := prog_8_method_20_code
def yX6_greenAll : MethodName := ⟨RX6, "greenAll", "([I)I"⟩
abbrev cX6_sitsIn : ByteArray := prog_8_method_21_code
def yX6_sitsIn : MethodName := ⟨RX6, "sitsIn", "([III)V"⟩
abbrev cX6_letter : ByteArray := prog_8_method_22_code
def yX6_letter : MethodName := ⟨RX6, "letter", "(I)I"⟩
abbrev cX6_here : ByteArray := prog_8_method_23_code
def yX6_here : MethodName := ⟨RX6, "here", "()I"⟩
abbrev cX6_readsNumber : ByteArray := prog_8_method_24_code
def yX6_readsNumber : MethodName := ⟨RX6, "readsNumber", "(II)Z"⟩
abbrev cX6_kindBy : ByteArray := prog_8_method_25_code
def yX6_kindBy : MethodName := ⟨RX6, "kindBy", "(I)I"⟩
abbrev cX6_readsKind : ByteArray := prog_8_method_26_code
def yX6_readsKind : MethodName := ⟨RX6, "readsKind", "()Z"⟩
abbrev cX6_readsStatement : ByteArray := prog_8_method_27_code
def yX6_readsStatement : MethodName := ⟨RX6, "readsStatement", "()Z"⟩
abbrev cX6_isDone : ByteArray := prog_8_method_28_code
def yX6_isDone : MethodName := ⟨RX6, "isDone", "(I)Z"⟩
abbrev cX6_land : ByteArray := prog_8_method_29_code
def yX6_land : MethodName := ⟨RX6, "land", "()I"⟩
abbrev cX6_farm : ByteArray := prog_8_method_30_code
def yX6_farm : MethodName := ⟨RX6, "farm", "(II)I"⟩
abbrev cX6_farmer : ByteArray := prog_8_method_31_code
def yX6_farmer : MethodName := ⟨RX6, "farmer", "(II)I"⟩
abbrev cX6_sits : ByteArray := prog_8_method_32_code
def yX6_sits : MethodName := ⟨RX6, "sits", "(II)I"⟩
abbrev cX6_leaves : ByteArray := prog_8_method_33_code
def yX6_leaves : MethodName := ⟨RX6, "leaves", "(I)I"⟩
abbrev cX6_wrongBy : ByteArray := prog_8_method_34_code
def yX6_wrongBy : MethodName := ⟨RX6, "wrongBy", "(III)I"⟩
abbrev cX6_hearts : ByteArray := prog_8_method_35_code
def yX6_hearts : MethodName := ⟨RX6, "hearts", "(III)I"⟩
abbrev cX6_steps : ByteArray := prog_8_method_36_code
def yX6_steps : MethodName := ⟨RX6, "steps", "(I)I"⟩
abbrev cX6_tires : ByteArray := prog_8_method_37_code
def yX6_tires : MethodName := ⟨RX6, "tires", "(II)I"⟩
abbrev cX6_turn : ByteArray := prog_8_method_38_code
def yX6_turn : MethodName := ⟨RX6, "turn", "(III)I"⟩
abbrev cX6_years : ByteArray := prog_8_method_39_code
def yX6_years : MethodName := ⟨RX6, "years", "(I)I"⟩
abbrev cX6_takes : ByteArray := prog_8_method_40_code
def yX6_takes : MethodName := ⟨RX6, "takes", "(I)I"⟩
abbrev cX6_heartThen : ByteArray := prog_8_method_41_code
def yX6_heartThen : MethodName := ⟨RX6, "heartThen", "(III)I"⟩
abbrev cX6_farmerThen : ByteArray := prog_8_method_42_code
def yX6_farmerThen : MethodName := ⟨RX6, "farmerThen", "(III)I"⟩
abbrev cX6_barnThen : ByteArray := prog_8_method_43_code
def yX6_barnThen : MethodName := ⟨RX6, "barnThen", "(I)I"⟩
abbrev cX6_greenest : ByteArray := prog_8_method_44_code
def yX6_greenest : MethodName := ⟨RX6, "greenest", "()I"⟩
abbrev cX6_lostIn : ByteArray := prog_8_method_45_code
def yX6_lostIn : MethodName := ⟨RX6, "lostIn", "([I)I"⟩
abbrev cX6_lost : ByteArray := prog_8_method_46_code
def yX6_lost : MethodName := ⟨RX6, "lost", "(I)I"⟩
abbrev cX6_inHeart : ByteArray := prog_8_method_47_code
def yX6_inHeart : MethodName := ⟨RX6, "inHeart", "()I"⟩
abbrev cX6_crop : ByteArray := prog_8_method_48_code
def yX6_crop : MethodName := ⟨RX6, "crop", "(II)I"⟩
abbrev cX6_bestStep : ByteArray := prog_8_method_49_code
def yX6_bestStep : MethodName := ⟨RX6, "bestStep", "(II)I"⟩
abbrev cX6_send : ByteArray := prog_8_method_50_code
def yX6_send : MethodName := ⟨RX6, "send", "(I)I"⟩
abbrev cX6_change : ByteArray := prog_8_method_51_code
def yX6_change : MethodName := ⟨RX6, "change", "(I)I"⟩
abbrev cX6_sets : ByteArray := prog_8_method_52_code
def yX6_sets : MethodName := ⟨RX6, "sets", "(III)V"⟩
abbrev cX6_next : ByteArray := prog_8_method_53_code
def yX6_next : MethodName := ⟨RX6, "next", "(I)I"⟩
abbrev cX6_feed : ByteArray := prog_8_method_54_code
def yX6_feed : MethodName := ⟨RX6, "feed", "(II)I"⟩
abbrev cX6_areAlike : ByteArray := prog_8_method_55_code
def yX6_areAlike : MethodName := ⟨RX6, "areAlike", "([I[I)Z"⟩
abbrev cX6_settles : ByteArray := prog_8_method_56_code
def yX6_settles : MethodName := ⟨RX6, "settles", "()I"⟩
abbrev cX6_areWhereTheyAre : ByteArray := prog_8_method_57_code
def yX6_areWhereTheyAre : MethodName := ⟨RX6, "areWhereTheyAre", "()Z"⟩
abbrev cX6_round : ByteArray := prog_8_method_58_code
def yX6_round : MethodName := ⟨RX6, "round", "()I"⟩
abbrev cX6_free : ByteArray := prog_8_method_59_code
def yX6_free : MethodName := ⟨RX6, "free", "(I)I"⟩
abbrev cX6_even : ByteArray := prog_8_method_60_code
def yX6_even : MethodName := ⟨RX6, "even", "()I"⟩
abbrev cX6_ownBy : ByteArray := prog_8_method_61_code
def yX6_ownBy : MethodName := ⟨RX6, "ownBy", "(IIIIII)I"⟩
abbrev cX6_two : ByteArray := prog_8_method_62_code
def yX6_two : MethodName := ⟨RX6, "two", "(III)I"⟩
abbrev cX6_gcd : ByteArray := prog_8_method_63_code
def yX6_gcd : MethodName := ⟨RX6, "gcd", "(JJ)J"⟩
abbrev cX6_partOf : ByteArray := prog_8_method_64_code
def yX6_partOf : MethodName := ⟨RX6, "partOf", "(JJI)J"⟩
abbrev cX6_frost : ByteArray := prog_8_method_65_code
def yX6_frost : MethodName := ⟨RX6, "frost", "(IIII)J"⟩
abbrev cX6_mean : ByteArray := prog_8_method_66_code
def yX6_mean : MethodName := ⟨RX6, "mean", "(I)J"⟩
abbrev cX6_whoSat : ByteArray := prog_8_method_67_code
def yX6_whoSat : MethodName := ⟨RX6, "whoSat", "(III)I"⟩
abbrev cX6_row : ByteArray := prog_8_method_68_code
def yX6_row : MethodName := ⟨RX6, "row", "(I)I"⟩
abbrev cX6_judge : ByteArray := prog_8_method_69_code
def yX6_judge : MethodName := ⟨RX6, "judge", "()I"⟩
abbrev cX6_clear : ByteArray := prog_8_method_70_code
def yX6_clear : MethodName := ⟨RX6, "clear", "()I"⟩
abbrev cX6_drawn : ByteArray := prog_8_method_71_code
def yX6_drawn : MethodName := ⟨RX6, "drawn", "(I)I"⟩
abbrev cX6_lots : ByteArray := prog_8_method_72_code
def yX6_lots : MethodName := ⟨RX6, "lots", "(III)I"⟩
abbrev cX6_image : ByteArray := prog_8_method_73_code
def yX6_image : MethodName := ⟨RX6, "image", "()I"⟩
abbrev cX6_on : ByteArray := prog_8_method_74_code
def yX6_on : MethodName := ⟨RX6, "on", "()I"⟩
abbrev cX6_count : ByteArray := prog_8_method_75_code
def yX6_count : MethodName := ⟨RX6, "count", "(I)I"⟩
def RJ11 : String := "java/lang/Character"
def TJ11 : u_T := fun k => match k with
  | _ => ("", "", "", false)
def tyJ11 : Nat → FieldType := fun k => match k with
  | _ => .int
abbrev cJ11_isValidCodePoint_9a6ad : ByteArray := prog_9_method_11_code
def yJ11_isValidCodePoint_9a6ad : MethodName := ⟨RJ11, "isValidCodePoint", "(I)Z"⟩
abbrev cJ11_highSurrogate_5068e : ByteArray := prog_9_method_28_code
def yJ11_highSurrogate_5068e : MethodName := ⟨RJ11, "highSurrogate", "(I)C"⟩
abbrev cJ11_lowSurrogate_5068e : ByteArray := prog_9_method_29_code
def yJ11_lowSurrogate_5068e : MethodName := ⟨RJ11, "lowSurrogate", "(I)C"⟩
def RJ9 : String := "java/lang/Math"
def TJ9 : u_T := fun k => match k with
  | _ => ("", "", "", false)
def tyJ9 : Nat → FieldType := fun k => match k with
  | _ => .int
abbrev cJ9_max_7cf53 : ByteArray := prog_10_method_65_code
def yJ9_max_7cf53 : MethodName := ⟨RJ9, "max", "(II)I"⟩
abbrev cJ9_max_f86c9 : ByteArray := prog_10_method_66_code
def yJ9_max_f86c9 : MethodName := ⟨RJ9, "max", "(JJ)J"⟩
abbrev cJ9_min_7cf53 : ByteArray := prog_10_method_69_code
def yJ9_min_7cf53 : MethodName := ⟨RJ9, "min", "(II)I"⟩
def RJ0 : String := "java/lang/String"
def TJ0 : u_T := fun k => match k with
  | _ => ("", "", "", false)
def tyJ0 : Nat → FieldType := fun k => match k with
  | _ => .int
abbrev cJ0_length_8abf5 : ByteArray := prog_11_method_54_code
def yJ0_length_8abf5 : MethodName := ⟨RJ0, "length", "()I"⟩
abbrev cJ0_isEmpty_aae02 : ByteArray := prog_11_method_55_code
def yJ0_isEmpty_aae02 : MethodName := ⟨RJ0, "isEmpty", "()Z"⟩
abbrev cJ0_charAt_5068e : ByteArray := prog_11_method_56_code
def yJ0_charAt_5068e : MethodName := ⟨RJ0, "charAt", "(I)C"⟩
abbrev cJ0_indexOf_0f7a4 : ByteArray := prog_11_method_79_code
def yJ0_indexOf_0f7a4 : MethodName := ⟨RJ0, "indexOf", "(I)I"⟩
abbrev cJ0_indexOf_7cf53 : ByteArray := prog_11_method_80_code
def yJ0_indexOf_7cf53 : MethodName := ⟨RJ0, "indexOf", "(II)I"⟩
abbrev cJ0_coder_7d493 : ByteArray := prog_11_method_152_code
def yJ0_coder_7d493 : MethodName := ⟨RJ0, "coder", "()B"⟩
abbrev cJ0_isLatin1_aae02 : ByteArray := prog_11_method_154_code
def yJ0_isLatin1_aae02 : MethodName := ⟨RJ0, "isLatin1", "()Z"⟩
abbrev cJ0_checkIndex_df160 : ByteArray := prog_11_method_155_code
def yJ0_checkIndex_df160 : MethodName := ⟨RJ0, "checkIndex", "(II)V"⟩
abbrev cJ0_checkBoundsBeginEnd_23922 : ByteArray := prog_11_method_158_code
def yJ0_checkBoundsBeginEnd_23922 : MethodName := ⟨RJ0, "checkBoundsBeginEnd", "(III)V"⟩
def RJ1 : String := "java/lang/StringLatin1"
def TJ1 : u_T := fun k => match k with
  | _ => ("", "", "", false)
def tyJ1 : Nat → FieldType := fun k => match k with
  | _ => .int
abbrev cJ1_charAt_3b067 : ByteArray := prog_12_method_2_code
def yJ1_charAt_3b067 : MethodName := ⟨RJ1, "charAt", "([BI)C"⟩
abbrev cJ1_canEncode_9a6ad : ByteArray := prog_12_method_4_code
def yJ1_canEncode_9a6ad : MethodName := ⟨RJ1, "canEncode", "(I)Z"⟩
abbrev cJ1_indexOf_4cfef : ByteArray := prog_12_method_22_code
def yJ1_indexOf_4cfef : MethodName := ⟨RJ1, "indexOf", "([BIII)I"⟩
abbrev cJ1_indexOfChar_4cfef : ByteArray := prog_12_method_23_code
def yJ1_indexOfChar_4cfef : MethodName := ⟨RJ1, "indexOfChar", "([BIII)I"⟩
def RJ2 : String := "java/lang/StringUTF16"
def TJ2 : u_T := fun k => match k with
  | _ => ("", "", "", false)
def tyJ2 : Nat → FieldType := fun k => match k with
  | _ => .int
abbrev cJ2_getChar_3b067 : ByteArray := prog_13_method_5_code
def yJ2_getChar_3b067 : MethodName := ⟨RJ2, "getChar", "([BI)C"⟩
abbrev cJ2_length_9d52b : ByteArray := prog_13_method_6_code
def yJ2_length_9d52b : MethodName := ⟨RJ2, "length", "([B)I"⟩
abbrev cJ2_indexOf_4cfef : ByteArray := prog_13_method_40_code
def yJ2_indexOf_4cfef : MethodName := ⟨RJ2, "indexOf", "([BIII)I"⟩
abbrev cJ2_indexOfChar_4cfef : ByteArray := prog_13_method_47_code
def yJ2_indexOfChar_4cfef : MethodName := ⟨RJ2, "indexOfChar", "([BIII)I"⟩
abbrev cJ2_indexOfCharUnsafe_4cfef : ByteArray := prog_13_method_48_code
def yJ2_indexOfCharUnsafe_4cfef : MethodName := ⟨RJ2, "indexOfCharUnsafe", "([BIII)I"⟩
abbrev cJ2_indexOfSupplementary_4cfef : ByteArray := prog_13_method_49_code
def yJ2_indexOfSupplementary_4cfef : MethodName := ⟨RJ2, "indexOfSupplementary", "([BIII)I"⟩
abbrev cJ2_charAt_3b067 : ByteArray := prog_13_method_83_code
def yJ2_charAt_3b067 : MethodName := ⟨RJ2, "charAt", "([BI)C"⟩
abbrev cJ2_checkIndex_2214a : ByteArray := prog_13_method_91_code
def yJ2_checkIndex_2214a : MethodName := ⟨RJ2, "checkIndex", "(I[B)V"⟩
abbrev cJ2_checkBoundsBeginEnd_d044e : ByteArray := prog_13_method_93_code
def yJ2_checkBoundsBeginEnd_d044e : MethodName := ⟨RJ2, "checkBoundsBeginEnd", "(II[B)V"⟩
def RJ10 : String := "java/lang/System"
def TJ10 : u_T := fun k => match k with
  | _ => ("", "", "", false)
def tyJ10 : Nat → FieldType := fun k => match k with
  | _ => .int
def RJ3 : String := "jdk/internal/util/Preconditions"
def TJ3 : u_T := fun k => match k with
  | _ => ("", "", "", false)
def tyJ3 : Nat → FieldType := fun k => match k with
  | _ => .int
abbrev cJ3_checkIndex_8e157 : ByteArray := prog_15_method_11_code
def yJ3_checkIndex_8e157 : MethodName := ⟨RJ3, "checkIndex", "(IILjava/util/function/BiFunction;)I"⟩
abbrev cJ3_checkFromToIndex_8c36e : ByteArray := prog_15_method_12_code
def yJ3_checkFromToIndex_8c36e : MethodName := ⟨RJ3, "checkFromToIndex", "(IIILjava/util/function/BiFunction;)I"⟩
def RL : String := "RotationOfFarmersLaw"
abbrev cL_law : ByteArray := code
def yL_law : MethodName := ⟨RL, "law", "([I)Z"⟩
