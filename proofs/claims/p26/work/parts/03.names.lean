/-! names, fields and decode rows of this claim: cut out of the printed text by wip/whole/gen_names.py -/
def RX0 : String := "ShadowLeases$Building"
def TX0 : u_T := fun k => match k with
  | 0 => ("ShadowLeases$Building", "number", "I", true)
  | 1 => ("ShadowLeases$Building", "x", "I", true)
  | 2 => ("ShadowLeases$Building", "y", "I", true)
  | 3 => ("ShadowLeases$Building", "wide", "I", true)
  | 4 => ("ShadowLeases$Building", "deep", "I", true)
  | 5 => ("ShadowLeases$Building", "owner", "I", true)
  | 6 => ("ShadowLeases$Building", "height", "I", false)
  | _ => ("ShadowLeases$Building", "stands", "Z", false)
def tyX0 : Nat → FieldType := fun k => match k with
  | 0 => .int
  | 1 => .int
  | 2 => .int
  | 3 => .int
  | 4 => .int
  | 5 => .int
  | 6 => .int
  | _ => .boolean
abbrev wsX00 : List Cond := u_ws RX0 TX0 8
theorem nmX0 : ∀ a, a < 8 → ∀ b, b < 8 → a ≠ b → (TX0 a).2.1 ≠ (TX0 b).2.1 := by decide +kernel
theorem tyX0_ok : ∀ k, k < 8 → parseFieldDescriptor (TX0 k).2.2.1 = some (tyX0 k) := by decide +kernel
abbrev cX0_init : ByteArray := prog_2_method_1_code
def yX0_init : MethodName := ⟨RX0, "<init>", "(IIIIIII)V"⟩
abbrev cX0_holds : ByteArray := prog_2_method_2_code
def yX0_holds : MethodName := ⟨RX0, "holds", "(II)Z"⟩
def RX1 : String := "ShadowLeases$Hour"
def TX1 : u_T := fun k => match k with
  | 0 => ("ShadowLeases$Hour", "number", "I", true)
  | 1 => ("ShadowLeases$Hour", "dx", "I", false)
  | 2 => ("ShadowLeases$Hour", "dy", "I", false)
  | 3 => ("ShadowLeases$Hour", "length", "I", false)
  | 4 => ("ShadowLeases$Hour", "measured", "Z", false)
  | 5 => ("ShadowLeases$Hour", "holder", "[I", true)
  | 6 => ("ShadowLeases$Hour", "layers", "[I", true)
  | 7 => ("ShadowLeases$Hour", "steps", "[I", true)
  | 8 => ("ShadowLeases$Hour", "areas", "[I", true)
  | 9 => ("ShadowLeases$Hour", "shaded", "I", false)
  | 10 => ("ShadowLeases$Hour", "overlapped", "I", false)
  | 11 => ("ShadowLeases$Hour", "allotted", "Z", false)
  | 12 => ("ShadowLeases$Hour", "given", "[I", true)
  | 13 => ("ShadowLeases$Hour", "allGiven", "I", false)
  | _ => ("ShadowLeases$Hour", "allShort", "I", false)
def tyX1 : Nat → FieldType := fun k => match k with
  | 0 => .int
  | 1 => .int
  | 2 => .int
  | 3 => .int
  | 4 => .boolean
  | 5 => .array .int
  | 6 => .array .int
  | 7 => .array .int
  | 8 => .array .int
  | 9 => .int
  | 10 => .int
  | 11 => .boolean
  | 12 => .array .int
  | 13 => .int
  | _ => .int
abbrev wsX10 : List Cond := u_ws RX1 TX1 15
theorem nmX1 : ∀ a, a < 15 → ∀ b, b < 15 → a ≠ b → (TX1 a).2.1 ≠ (TX1 b).2.1 := by decide +kernel
theorem tyX1_ok : ∀ k, k < 15 → parseFieldDescriptor (TX1 k).2.2.1 = some (tyX1 k) := by decide +kernel
abbrev cX1_init : ByteArray := prog_3_method_1_code
def yX1_init : MethodName := ⟨RX1, "<init>", "(I[I)V"⟩
abbrev cX1_forgetShade : ByteArray := prog_3_method_2_code
def yX1_forgetShade : MethodName := ⟨RX1, "forgetShade", "()V"⟩
abbrev cX1_figure : ByteArray := prog_3_method_3_code
def yX1_figure : MethodName := ⟨RX1, "figure", "(I)I"⟩
abbrev cX1_areaOf : ByteArray := prog_3_method_4_code
def yX1_areaOf : MethodName := ⟨RX1, "areaOf", "(I)I"⟩
abbrev cX1_givenTo : ByteArray := prog_3_method_5_code
def yX1_givenTo : MethodName := ⟨RX1, "givenTo", "(I)I"⟩
abbrev cX1_isShort : ByteArray := prog_3_method_6_code
def yX1_isShort : MethodName := ⟨RX1, "isShort", "(LShadowLeases$Lease;)Z"⟩
abbrev cX1_measure : ByteArray := prog_3_method_7_code
def yX1_measure : MethodName := ⟨RX1, "measure", "(LShadowLeases$Square;)V"⟩
abbrev cX1_castFrom : ByteArray := prog_3_method_8_code
def yX1_castFrom : MethodName := ⟨RX1, "castFrom", "(LShadowLeases$Building;)V"⟩
abbrev cX1_castRay : ByteArray := prog_3_method_9_code
def yX1_castRay : MethodName := ⟨RX1, "castRay", "(LShadowLeases$Building;II)V"⟩
abbrev cX1_sumUpShade : ByteArray := prog_3_method_10_code
def yX1_sumUpShade : MethodName := ⟨RX1, "sumUpShade", "()V"⟩
abbrev cX1_allot : ByteArray := prog_3_method_12_code
def yX1_allot : MethodName := ⟨RX1, "allot", "(Ljava/util/ArrayList;)V"⟩
abbrev cX1_askedBefore : ByteArray := prog_3_method_13_code
def yX1_askedBefore : MethodName := ⟨RX1, "askedBefore", "(LShadowLeases$Lease;Ljava/util/ArrayList;)I"⟩
def RX2 : String := "ShadowLeases$Lease"
def TX2 : u_T := fun k => match k with
  | 0 => ("ShadowLeases$Lease", "number", "I", true)
  | 1 => ("ShadowLeases$Lease", "building", "I", true)
  | 2 => ("ShadowLeases$Lease", "tenant", "I", true)
  | 3 => ("ShadowLeases$Lease", "first", "I", true)
  | 4 => ("ShadowLeases$Lease", "last", "I", true)
  | 5 => ("ShadowLeases$Lease", "cells", "I", true)
  | 6 => ("ShadowLeases$Lease", "price", "I", false)
  | 7 => ("ShadowLeases$Lease", "stands", "Z", false)
  | 8 => ("ShadowLeases$Lease", "warnings", "I", false)
  | _ => ("ShadowLeases$Lease", "paid", "I", false)
def tyX2 : Nat → FieldType := fun k => match k with
  | 0 => .int
  | 1 => .int
  | 2 => .int
  | 3 => .int
  | 4 => .int
  | 5 => .int
  | 6 => .int
  | 7 => .boolean
  | 8 => .int
  | _ => .int
abbrev wsX20 : List Cond := u_ws RX2 TX2 10
theorem nmX2 : ∀ a, a < 10 → ∀ b, b < 10 → a ≠ b → (TX2 a).2.1 ≠ (TX2 b).2.1 := by decide +kernel
theorem tyX2_ok : ∀ k, k < 10 → parseFieldDescriptor (TX2 k).2.2.1 = some (tyX2 k) := by decide +kernel
abbrev cX2_init : ByteArray := prog_4_method_1_code
def yX2_init : MethodName := ⟨RX2, "<init>", "(IIIIIII)V"⟩
abbrev cX2_hourCount : ByteArray := prog_4_method_2_code
def yX2_hourCount : MethodName := ⟨RX2, "hourCount", "()I"⟩
abbrev cX2_asksIn : ByteArray := prog_4_method_3_code
def yX2_asksIn : MethodName := ⟨RX2, "asksIn", "(I)Z"⟩
abbrev cX2_comesBefore : ByteArray := prog_4_method_4_code
def yX2_comesBefore : MethodName := ⟨RX2, "comesBefore", "(LShadowLeases$Lease;)Z"⟩
def RX3 : String := "ShadowLeases$Square"
def TX3 : u_T := fun k => match k with
  | 0 => ("ShadowLeases$Square", "buildings", "Ljava/util/ArrayList;", true)
  | _ => ("ShadowLeases$Square", "covered", "[Z", true)
def tyX3 : Nat → FieldType := fun k => match k with
  | 0 => .object "java/util/ArrayList"
  | _ => .array .boolean
abbrev wsX30 : List Cond := u_ws RX3 TX3 2
theorem nmX3 : ∀ a, a < 2 → ∀ b, b < 2 → a ≠ b → (TX3 a).2.1 ≠ (TX3 b).2.1 := by decide +kernel
theorem tyX3_ok : ∀ k, k < 2 → parseFieldDescriptor (TX3 k).2.2.1 = some (tyX3 k) := by decide +kernel
abbrev cX3_init : ByteArray := prog_5_method_1_code
def yX3_init : MethodName := ⟨RX3, "<init>", "()V"⟩
abbrev cX3_isCovered : ByteArray := prog_5_method_2_code
def yX3_isCovered : MethodName := ⟨RX3, "isCovered", "(I)Z"⟩
abbrev cX3_isFree : ByteArray := prog_5_method_3_code
def yX3_isFree : MethodName := ⟨RX3, "isFree", "(LShadowLeases$Building;)Z"⟩
abbrev cX3_setCovered : ByteArray := prog_5_method_4_code
def yX3_setCovered : MethodName := ⟨RX3, "setCovered", "(LShadowLeases$Building;Z)V"⟩
abbrev cX3_ownerOf : ByteArray := prog_5_method_5_code
def yX3_ownerOf : MethodName := ⟨RX3, "ownerOf", "(I)I"⟩
abbrev cX3_standing : ByteArray := prog_5_method_6_code
def yX3_standing : MethodName := ⟨RX3, "standing", "()I"⟩
abbrev cX3_coveredCells : ByteArray := prog_5_method_7_code
def yX3_coveredCells : MethodName := ⟨RX3, "coveredCells", "()I"⟩
def RX4 : String := "ShadowLeases"
def TX4 : u_T := fun k => match k with
  | 0 => ("ShadowLeases", "square", "LShadowLeases$Square;", true)
  | 1 => ("ShadowLeases", "hours", "Ljava/util/ArrayList;", true)
  | 2 => ("ShadowLeases", "leases", "Ljava/util/ArrayList;", true)
  | 3 => ("ShadowLeases", "gotByOwner", "[I", true)
  | 4 => ("ShadowLeases", "paidByTenant", "[I", true)
  | 5 => ("ShadowLeases", "day", "I", false)
  | _ => ("ShadowLeases", "evicted", "I", false)
def tyX4 : Nat → FieldType := fun k => match k with
  | 0 => .object "ShadowLeases$Square"
  | 1 => .object "java/util/ArrayList"
  | 2 => .object "java/util/ArrayList"
  | 3 => .array .int
  | 4 => .array .int
  | 5 => .int
  | _ => .int
abbrev wsX40 : List Cond := u_ws RX4 TX4 7
theorem nmX4 : ∀ a, a < 7 → ∀ b, b < 7 → a ≠ b → (TX4 a).2.1 ≠ (TX4 b).2.1 := by decide +kernel
theorem tyX4_ok : ∀ k, k < 7 → parseFieldDescriptor (TX4 k).2.2.1 = some (tyX4 k) := by decide +kernel
abbrev cX4_init : ByteArray := prog_1_method_1_code
def yX4_init : MethodName := ⟨RX4, "<init>", "()V"⟩
abbrev cX4_build : ByteArray := prog_1_method_2_code
def yX4_build : MethodName := ⟨RX4, "build", "(IIIIII)I"⟩
abbrev cX4_raise : ByteArray := prog_1_method_4_code
def yX4_raise : MethodName := ⟨RX4, "raise", "(II)I"⟩
abbrev cX4_setSun : ByteArray := prog_1_method_5_code
def yX4_setSun : MethodName := ⟨RX4, "setSun", "(IIII)I"⟩
abbrev cX4_shade : ByteArray := prog_1_method_7_code
def yX4_shade : MethodName := ⟨RX4, "shade", "(III)I"⟩
abbrev cX4_shades : ByteArray := prog_1_method_8_code
def yX4_shades : MethodName := ⟨RX4, "shades", "(III)I"⟩
abbrev cX4_area : ByteArray := prog_1_method_9_code
def yX4_area : MethodName := ⟨RX4, "area", "(II)I"⟩
abbrev cX4_inHour : ByteArray := prog_1_method_10_code
def yX4_inHour : MethodName := ⟨RX4, "inHour", "(II)I"⟩
abbrev cX4_let : ByteArray := prog_1_method_11_code
def yX4_let : MethodName := ⟨RX4, "let", "(IIIIII)I"⟩
abbrev cX4_lease : ByteArray := prog_1_method_14_code
def yX4_lease : MethodName := ⟨RX4, "lease", "(II)I"⟩
abbrev cX4_gets : ByteArray := prog_1_method_15_code
def yX4_gets : MethodName := ⟨RX4, "gets", "(II)I"⟩
abbrev cX4_pass : ByteArray := prog_1_method_17_code
def yX4_pass : MethodName := ⟨RX4, "pass", "(I)I"⟩
abbrev cX4_count : ByteArray := prog_1_method_18_code
def yX4_count : MethodName := ⟨RX4, "count", "(I)I"⟩
abbrev cX4_got : ByteArray := prog_1_method_19_code
def yX4_got : MethodName := ⟨RX4, "got", "(I)I"⟩
abbrev cX4_paid : ByteArray := prog_1_method_20_code
def yX4_paid : MethodName := ⟨RX4, "paid", "(I)I"⟩
abbrev cX4_fulfilled : ByteArray := prog_1_method_23_code
def yX4_fulfilled : MethodName := ⟨RX4, "fulfilled", "()D"⟩
abbrev cX4_needIndex : ByteArray := prog_1_method_27_code
def yX4_needIndex : MethodName := ⟨RX4, "needIndex", "(II)V"⟩
abbrev cX4_needArgument : ByteArray := prog_1_method_28_code
def yX4_needArgument : MethodName := ⟨RX4, "needArgument", "(III)V"⟩
abbrev cX4_buildingAt : ByteArray := prog_1_method_29_code
def yX4_buildingAt : MethodName := ⟨RX4, "buildingAt", "(I)LShadowLeases$Building;"⟩
abbrev cX4_standingBuilding : ByteArray := prog_1_method_30_code
def yX4_standingBuilding : MethodName := ⟨RX4, "standingBuilding", "(I)LShadowLeases$Building;"⟩
abbrev cX4_leaseAt : ByteArray := prog_1_method_31_code
def yX4_leaseAt : MethodName := ⟨RX4, "leaseAt", "(I)LShadowLeases$Lease;"⟩
abbrev cX4_hourAt : ByteArray := prog_1_method_33_code
def yX4_hourAt : MethodName := ⟨RX4, "hourAt", "(I)LShadowLeases$Hour;"⟩
abbrev cX4_measuredHour : ByteArray := prog_1_method_34_code
def yX4_measuredHour : MethodName := ⟨RX4, "measuredHour", "(I)LShadowLeases$Hour;"⟩
abbrev cX4_allottedHour : ByteArray := prog_1_method_35_code
def yX4_allottedHour : MethodName := ⟨RX4, "allottedHour", "(I)LShadowLeases$Hour;"⟩
abbrev cX4_forgetShades : ByteArray := prog_1_method_36_code
def yX4_forgetShades : MethodName := ⟨RX4, "forgetShades", "()V"⟩
abbrev cX4_forgetAllotments : ByteArray := prog_1_method_37_code
def yX4_forgetAllotments : MethodName := ⟨RX4, "forgetAllotments", "()V"⟩
abbrev cX4_changeHeight : ByteArray := prog_1_method_38_code
def yX4_changeHeight : MethodName := ⟨RX4, "changeHeight", "(LShadowLeases$Building;I)V"⟩
abbrev cX4_standingLeases : ByteArray := prog_1_method_40_code
def yX4_standingLeases : MethodName := ⟨RX4, "standingLeases", "()I"⟩
abbrev cX4_paidByAll : ByteArray := prog_1_method_41_code
def yX4_paidByAll : MethodName := ⟨RX4, "paidByAll", "()I"⟩
abbrev cX4_shortHours : ByteArray := prog_1_method_42_code
def yX4_shortHours : MethodName := ⟨RX4, "shortHours", "(LShadowLeases$Lease;)I"⟩
abbrev cX4_payFor : ByteArray := prog_1_method_43_code
def yX4_payFor : MethodName := ⟨RX4, "payFor", "(LShadowLeases$Hour;)V"⟩
abbrev cX4_warn : ByteArray := prog_1_method_44_code
def yX4_warn : MethodName := ⟨RX4, "warn", "()V"⟩
abbrev cX4_evict : ByteArray := prog_1_method_45_code
def yX4_evict : MethodName := ⟨RX4, "evict", "()V"⟩
def RX5 : String := "ShadowLeasesLaw$Sim"
def TX5 : u_T := fun k => match k with
  | 0 => ("ShadowLeasesLaw$Sim", "day", "I", false)
  | 1 => ("ShadowLeasesLaw$Sim", "evicted", "I", false)
  | 2 => ("ShadowLeasesLaw$Sim", "sun", "[[I", false)
  | 3 => ("ShadowLeasesLaw$Sim", "buildings", "[[I", false)
  | 4 => ("ShadowLeasesLaw$Sim", "leases", "[[I", false)
  | 5 => ("ShadowLeasesLaw$Sim", "got", "[I", false)
  | 6 => ("ShadowLeasesLaw$Sim", "paid", "[I", false)
  | 7 => ("ShadowLeasesLaw$Sim", "owner", "[[I", false)
  | _ => ("ShadowLeasesLaw$Sim", "many", "[[I", false)
def tyX5 : Nat → FieldType := fun k => match k with
  | 0 => .int
  | 1 => .int
  | 2 => .array (.array .int)
  | 3 => .array (.array .int)
  | 4 => .array (.array .int)
  | 5 => .array .int
  | 6 => .array .int
  | 7 => .array (.array .int)
  | _ => .array (.array .int)
abbrev wsX50 : List Cond := u_ws RX5 TX5 9
theorem nmX5 : ∀ a, a < 9 → ∀ b, b < 9 → a ≠ b → (TX5 a).2.1 ≠ (TX5 b).2.1 := by decide +kernel
theorem tyX5_ok : ∀ k, k < 9 → parseFieldDescriptor (TX5 k).2.2.1 = some (tyX5 k) := by decide +kernel
abbrev cX5_init : ByteArray := prog_7_method_1_code
def yX5_init : MethodName := ⟨RX5, "<init>", "()V"⟩
abbrev cX5_more : ByteArray := prog_7_method_2_code
def yX5_more : MethodName := ⟨RX5, "more", "([[I[I)[[I"⟩
abbrev cX5_cast : ByteArray := prog_7_method_3_code
def yX5_cast : MethodName := ⟨RX5, "cast", "()V"⟩
def RX6 : String := "ShadowLeasesModel"
def TX6 : u_T := fun k => match k with
  | _ => ("", "", "", false)
def tyX6 : Nat → FieldType := fun k => match k with
  | _ => .int
abbrev wsX60 : List Cond := u_ws RX6 TX6 0
theorem nmX6 : ∀ a, a < 0 → ∀ b, b < 0 → a ≠ b → (TX6 a).2.1 ≠ (TX6 b).2.1 := by decide +kernel
theorem tyX6_ok : ∀ k, k < 0 → parseFieldDescriptor (TX6 k).2.2.1 = some (tyX6 k) := by decide +kernel
def RJx145de : String := "java/io/Serializable"
def TJx145de : u_T := fun k => match k with
  | _ => ("", "", "", false)
def tyJx145de : Nat → FieldType := fun k => match k with
  | _ => .int
abbrev wsJx145de0 : List Cond := u_ws RJx145de TJx145de 0
theorem nmJx145de : ∀ a, a < 0 → ∀ b, b < 0 → a ≠ b → (TJx145de a).2.1 ≠ (TJx145de b).2.1 := by decide +kernel
theorem tyJx145de_ok : ∀ k, k < 0 → parseFieldDescriptor (TJx145de k).2.2.1 = some (tyJx145de k) := by decide +kernel
def RJx8e188 : String := "java/lang/Cloneable"
def TJx8e188 : u_T := fun k => match k with
  | _ => ("", "", "", false)
def tyJx8e188 : Nat → FieldType := fun k => match k with
  | _ => .int
abbrev wsJx8e1880 : List Cond := u_ws RJx8e188 TJx8e188 0
theorem nmJx8e188 : ∀ a, a < 0 → ∀ b, b < 0 → a ≠ b → (TJx8e188 a).2.1 ≠ (TJx8e188 b).2.1 := by decide +kernel
theorem tyJx8e188_ok : ∀ k, k < 0 → parseFieldDescriptor (TJx8e188 k).2.2.1 = some (tyJx8e188 k) := by decide +kernel
def RJxab1ab : String := "java/lang/Iterable"
def TJxab1ab : u_T := fun k => match k with
  | _ => ("", "", "", false)
def tyJxab1ab : Nat → FieldType := fun k => match k with
  | _ => .int
abbrev wsJxab1ab0 : List Cond := u_ws RJxab1ab TJxab1ab 0
theorem nmJxab1ab : ∀ a, a < 0 → ∀ b, b < 0 → a ≠ b → (TJxab1ab a).2.1 ≠ (TJxab1ab b).2.1 := by decide +kernel
theorem tyJxab1ab_ok : ∀ k, k < 0 → parseFieldDescriptor (TJxab1ab k).2.2.1 = some (tyJxab1ab k) := by decide +kernel
def RJ9 : String := "java/lang/Math"
def TJ9 : u_T := fun k => match k with
  | _ => ("", "", "", false)
def tyJ9 : Nat → FieldType := fun k => match k with
  | _ => .int
abbrev wsJ90 : List Cond := u_ws RJ9 TJ9 0
theorem nmJ9 : ∀ a, a < 0 → ∀ b, b < 0 → a ≠ b → (TJ9 a).2.1 ≠ (TJ9 b).2.1 := by decide +kernel
theorem tyJ9_ok : ∀ k, k < 0 → parseFieldDescriptor (TJ9 k).2.2.1 = some (tyJ9 k) := by decide +kernel
abbrev cJ9_max_7cf53 : ByteArray := prog_16_method_65_code
def yJ9_max_7cf53 : MethodName := ⟨RJ9, "max", "(II)I"⟩
abbrev cJ9_min_7cf53 : ByteArray := prog_16_method_69_code
def yJ9_min_7cf53 : MethodName := ⟨RJ9, "min", "(II)I"⟩
def RJ0 : String := "java/lang/String"
def TJ0 : u_T := fun k => match k with
  | _ => ("", "", "", false)
def tyJ0 : Nat → FieldType := fun k => match k with
  | _ => .int
abbrev wsJ00 : List Cond := u_ws RJ0 TJ0 0
theorem nmJ0 : ∀ a, a < 0 → ∀ b, b < 0 → a ≠ b → (TJ0 a).2.1 ≠ (TJ0 b).2.1 := by decide +kernel
theorem tyJ0_ok : ∀ k, k < 0 → parseFieldDescriptor (TJ0 k).2.2.1 = some (tyJ0 k) := by decide +kernel
def RJ10 : String := "java/lang/System"
def TJ10 : u_T := fun k => match k with
  | _ => ("", "", "", false)
def tyJ10 : Nat → FieldType := fun k => match k with
  | _ => .int
abbrev wsJ100 : List Cond := u_ws RJ10 TJ10 0
theorem nmJ10 : ∀ a, a < 0 → ∀ b, b < 0 → a ≠ b → (TJ10 a).2.1 ≠ (TJ10 b).2.1 := by decide +kernel
theorem tyJ10_ok : ∀ k, k < 0 → parseFieldDescriptor (TJ10 k).2.2.1 = some (tyJ10 k) := by decide +kernel
def RJxa1e45 : String := "java/util/AbstractCollection"
def TJxa1e45 : u_T := fun k => match k with
  | _ => ("", "", "", false)
def tyJxa1e45 : Nat → FieldType := fun k => match k with
  | _ => .int
abbrev wsJxa1e450 : List Cond := u_ws RJxa1e45 TJxa1e45 0
theorem nmJxa1e45 : ∀ a, a < 0 → ∀ b, b < 0 → a ≠ b → (TJxa1e45 a).2.1 ≠ (TJxa1e45 b).2.1 := by decide +kernel
theorem tyJxa1e45_ok : ∀ k, k < 0 → parseFieldDescriptor (TJxa1e45 k).2.2.1 = some (tyJxa1e45 k) := by decide +kernel
abbrev cJxa1e45_init_da8c8 : ByteArray := prog_21_method_1_code
def yJxa1e45_init_da8c8 : MethodName := ⟨RJxa1e45, "<init>", "()V"⟩
def RJxc12de : String := "java/util/AbstractList"
def TJxc12de : u_T := fun k => match k with
  | _ => ("", "", "", false)
def tyJxc12de : Nat → FieldType := fun k => match k with
  | _ => .int
abbrev wsJxc12de0 : List Cond := u_ws RJxc12de TJxc12de 0
theorem nmJxc12de : ∀ a, a < 0 → ∀ b, b < 0 → a ≠ b → (TJxc12de a).2.1 ≠ (TJxc12de b).2.1 := by decide +kernel
theorem tyJxc12de_ok : ∀ k, k < 0 → parseFieldDescriptor (TJxc12de k).2.2.1 = some (tyJxc12de k) := by decide +kernel
abbrev cJxc12de_init_da8c8 : ByteArray := prog_22_method_1_code
def yJxc12de_init_da8c8 : MethodName := ⟨RJxc12de, "<init>", "()V"⟩
def RJx4a65c : String := "java/util/ArrayList"
def TJx4a65c : u_T := fun k => match k with
  | 0 => ("java/util/AbstractList", "modCount", "I", false)
  | 1 => ("java/util/ArrayList", "elementData", "[Ljava/lang/Object;", false)
  | _ => ("java/util/ArrayList", "size", "I", false)
def tyJx4a65c : Nat → FieldType := fun k => match k with
  | 0 => .int
  | 1 => .array (.object "java/lang/Object")
  | _ => .int
abbrev wsJx4a65c0 : List Cond := u_ws RJx4a65c TJx4a65c 3
theorem nmJx4a65c : ∀ a, a < 3 → ∀ b, b < 3 → a ≠ b → (TJx4a65c a).2.1 ≠ (TJx4a65c b).2.1 := by decide +kernel
theorem tyJx4a65c_ok : ∀ k, k < 3 → parseFieldDescriptor (TJx4a65c k).2.2.1 = some (tyJx4a65c k) := by decide +kernel
abbrev cJx4a65c_init_da8c8 : ByteArray := prog_23_method_2_code
def yJx4a65c_init_da8c8 : MethodName := ⟨RJx4a65c, "<init>", "()V"⟩
abbrev cJx4a65c_grow_92f84 : ByteArray := prog_23_method_6_code
def yJx4a65c_grow_92f84 : MethodName := ⟨RJx4a65c, "grow", "(I)[Ljava/lang/Object;"⟩
abbrev cJx4a65c_grow_d5877 : ByteArray := prog_23_method_7_code
def yJx4a65c_grow_d5877 : MethodName := ⟨RJx4a65c, "grow", "()[Ljava/lang/Object;"⟩
abbrev cJx4a65c_size_8abf5 : ByteArray := prog_23_method_8_code
def yJx4a65c_size_8abf5 : MethodName := ⟨RJx4a65c, "size", "()I"⟩
abbrev cJx4a65c_elementData_915e3 : ByteArray := prog_23_method_18_code
def yJx4a65c_elementData_915e3 : MethodName := ⟨RJx4a65c, "elementData", "(I)Ljava/lang/Object;"⟩
abbrev cJx4a65c_get_915e3 : ByteArray := prog_23_method_20_code
def yJx4a65c_get_915e3 : MethodName := ⟨RJx4a65c, "get", "(I)Ljava/lang/Object;"⟩
abbrev cJx4a65c_add_72be8 : ByteArray := prog_23_method_24_code
def yJx4a65c_add_72be8 : MethodName := ⟨RJx4a65c, "add", "(Ljava/lang/Object;[Ljava/lang/Object;I)V"⟩
abbrev cJx4a65c_add_9ea2d : ByteArray := prog_23_method_25_code
def yJx4a65c_add_9ea2d : MethodName := ⟨RJx4a65c, "add", "(Ljava/lang/Object;)Z"⟩
def RJ7 : String := "java/util/Arrays"
def TJ7 : u_T := fun k => match k with
  | _ => ("", "", "", false)
def tyJ7 : Nat → FieldType := fun k => match k with
  | _ => .int
abbrev wsJ70 : List Cond := u_ws RJ7 TJ7 0
theorem nmJ7 : ∀ a, a < 0 → ∀ b, b < 0 → a ≠ b → (TJ7 a).2.1 ≠ (TJ7 b).2.1 := by decide +kernel
theorem tyJ7_ok : ∀ k, k < 0 → parseFieldDescriptor (TJ7 k).2.2.1 = some (tyJ7 k) := by decide +kernel
abbrev cJ7_fill_53178 : ByteArray := prog_24_method_103_code
def yJ7_fill_53178 : MethodName := ⟨RJ7, "fill", "([II)V"⟩
abbrev cJ7_copyOf_1904c : ByteArray := prog_24_method_119_code
def yJ7_copyOf_1904c : MethodName := ⟨RJ7, "copyOf", "([Ljava/lang/Object;I)[Ljava/lang/Object;"⟩
abbrev cJ7_copyOf_6403c : ByteArray := prog_24_method_120_code
def yJ7_copyOf_6403c : MethodName := ⟨RJ7, "copyOf", "([Ljava/lang/Object;ILjava/lang/Class;)[Ljava/lang/Object;"⟩
def RJx5ef63 : String := "java/util/Collection"
def TJx5ef63 : u_T := fun k => match k with
  | _ => ("", "", "", false)
def tyJx5ef63 : Nat → FieldType := fun k => match k with
  | _ => .int
abbrev wsJx5ef630 : List Cond := u_ws RJx5ef63 TJx5ef63 0
theorem nmJx5ef63 : ∀ a, a < 0 → ∀ b, b < 0 → a ≠ b → (TJx5ef63 a).2.1 ≠ (TJx5ef63 b).2.1 := by decide +kernel
theorem tyJx5ef63_ok : ∀ k, k < 0 → parseFieldDescriptor (TJx5ef63 k).2.2.1 = some (tyJx5ef63 k) := by decide +kernel
def RJxbd725 : String := "java/util/List"
def TJxbd725 : u_T := fun k => match k with
  | _ => ("", "", "", false)
def tyJxbd725 : Nat → FieldType := fun k => match k with
  | _ => .int
abbrev wsJxbd7250 : List Cond := u_ws RJxbd725 TJxbd725 0
theorem nmJxbd725 : ∀ a, a < 0 → ∀ b, b < 0 → a ≠ b → (TJxbd725 a).2.1 ≠ (TJxbd725 b).2.1 := by decide +kernel
theorem tyJxbd725_ok : ∀ k, k < 0 → parseFieldDescriptor (TJxbd725 k).2.2.1 = some (tyJxbd725 k) := by decide +kernel
def RJ15 : String := "java/util/Objects"
def TJ15 : u_T := fun k => match k with
  | _ => ("", "", "", false)
def tyJ15 : Nat → FieldType := fun k => match k with
  | _ => .int
abbrev wsJ150 : List Cond := u_ws RJ15 TJ15 0
theorem nmJ15 : ∀ a, a < 0 → ∀ b, b < 0 → a ≠ b → (TJ15 a).2.1 ≠ (TJ15 b).2.1 := by decide +kernel
theorem tyJ15_ok : ∀ k, k < 0 → parseFieldDescriptor (TJ15 k).2.2.1 = some (tyJ15 k) := by decide +kernel
abbrev cJ15_checkIndex_7cf53 : ByteArray := prog_27_method_17_code
def yJ15_checkIndex_7cf53 : MethodName := ⟨RJ15, "checkIndex", "(II)I"⟩
def RJxf0a74 : String := "java/util/RandomAccess"
def TJxf0a74 : u_T := fun k => match k with
  | _ => ("", "", "", false)
def tyJxf0a74 : Nat → FieldType := fun k => match k with
  | _ => .int
abbrev wsJxf0a740 : List Cond := u_ws RJxf0a74 TJxf0a74 0
theorem nmJxf0a74 : ∀ a, a < 0 → ∀ b, b < 0 → a ≠ b → (TJxf0a74 a).2.1 ≠ (TJxf0a74 b).2.1 := by decide +kernel
theorem tyJxf0a74_ok : ∀ k, k < 0 → parseFieldDescriptor (TJxf0a74 k).2.2.1 = some (tyJxf0a74 k) := by decide +kernel
def RJxa66e6 : String := "java/util/SequencedCollection"
def TJxa66e6 : u_T := fun k => match k with
  | _ => ("", "", "", false)
def tyJxa66e6 : Nat → FieldType := fun k => match k with
  | _ => .int
abbrev wsJxa66e60 : List Cond := u_ws RJxa66e6 TJxa66e6 0
theorem nmJxa66e6 : ∀ a, a < 0 → ∀ b, b < 0 → a ≠ b → (TJxa66e6 a).2.1 ≠ (TJxa66e6 b).2.1 := by decide +kernel
theorem tyJxa66e6_ok : ∀ k, k < 0 → parseFieldDescriptor (TJxa66e6 k).2.2.1 = some (tyJxa66e6 k) := by decide +kernel
def RJ8 : String := "jdk/internal/util/ArraysSupport"
def TJ8 : u_T := fun k => match k with
  | _ => ("", "", "", false)
def tyJ8 : Nat → FieldType := fun k => match k with
  | _ => .int
abbrev wsJ80 : List Cond := u_ws RJ8 TJ8 0
theorem nmJ8 : ∀ a, a < 0 → ∀ b, b < 0 → a ≠ b → (TJ8 a).2.1 ≠ (TJ8 b).2.1 := by decide +kernel
theorem tyJ8_ok : ∀ k, k < 0 → parseFieldDescriptor (TJ8 k).2.2.1 = some (tyJ8 k) := by decide +kernel
abbrev cJ8_newLength_cabcc : ByteArray := prog_30_method_27_code
def yJ8_newLength_cabcc : MethodName := ⟨RJ8, "newLength", "(III)I"⟩
abbrev cJ8_hugeLength_7cf53 : ByteArray := prog_30_method_28_code
def yJ8_hugeLength_7cf53 : MethodName := ⟨RJ8, "hugeLength", "(II)I"⟩
def RJ3 : String := "jdk/internal/util/Preconditions"
def TJ3 : u_T := fun k => match k with
  | _ => ("", "", "", false)
def tyJ3 : Nat → FieldType := fun k => match k with
  | _ => .int
abbrev wsJ30 : List Cond := u_ws RJ3 TJ3 0
theorem nmJ3 : ∀ a, a < 0 → ∀ b, b < 0 → a ≠ b → (TJ3 a).2.1 ≠ (TJ3 b).2.1 := by decide +kernel
theorem tyJ3_ok : ∀ k, k < 0 → parseFieldDescriptor (TJ3 k).2.2.1 = some (tyJ3 k) := by decide +kernel
abbrev cJ3_checkIndex_8e157 : ByteArray := prog_31_method_11_code
def yJ3_checkIndex_8e157 : MethodName := ⟨RJ3, "checkIndex", "(IILjava/util/function/BiFunction;)I"⟩
def RL : String := "ShadowLeasesLaw"
abbrev cL_below : ByteArray := method_2_code
def yL_below : MethodName := ⟨RL, "below", "(II)I"⟩
abbrev cL_cell : ByteArray := method_3_code
def yL_cell : MethodName := ⟨RL, "cell", "([II)I"⟩
abbrev cL_build : ByteArray := method_4_code
def yL_build : MethodName := ⟨RL, "build", "(LShadowLeases;[I)LShadowLeasesLaw$Sim;"⟩
abbrev cL_law : ByteArray := code
def yL_law : MethodName := ⟨RL, "law", "([I)Z"⟩
abbrev vwCl : List vw_C := [(RJx4a65c, TJx4a65c, 3), (RX0, TX0, 8), (RX1, TX1, 15), (RX2, TX2, 10), (RX3, TX3, 2), (RX4, TX4, 7), (RX5, TX5, 9)]
/-- a constant pool place that names a field: class of it in vwCl, field -/
def flds : List ((String × Nat) × (Nat × Nat)) := [(("java/util/ArrayList", 9), (0, 1)), (("java/util/ArrayList", 48), (0, 2)), (("java/util/AbstractList", 7), (0, 0)), (("java/util/ArrayList", 63), (0, 0)), (("ShadowLeases$Square", 12), (4, 0)), (("ShadowLeases", 46), (4, 0)), (("ShadowLeases$Hour", 84), (4, 0)), (("ShadowLeases$Square", 18), (4, 1)), (("ShadowLeases$Hour", 24), (2, 0)), (("ShadowLeases$Hour", 31), (2, 1)), (("ShadowLeases", 118), (2, 1)), (("ShadowLeases$Hour", 37), (2, 2)), (("ShadowLeases", 121), (2, 2)), (("ShadowLeases$Hour", 34), (2, 3)), (("ShadowLeases", 115), (2, 3)), (("ShadowLeases$Hour", 40), (2, 4)), (("ShadowLeases", 295), (2, 4)), (("ShadowLeases$Hour", 9), (2, 5)), (("ShadowLeases", 152), (2, 5)), (("ShadowLeases$Hour", 15), (2, 6)), (("ShadowLeases", 155), (2, 6)), (("ShadowLeases$Hour", 28), (2, 7)), (("ShadowLeases$Hour", 18), (2, 8)), (("ShadowLeases$Hour", 47), (2, 9)), (("ShadowLeases$Hour", 50), (2, 10)), (("ShadowLeases$Hour", 44), (2, 11)), (("ShadowLeases", 302), (2, 11)), (("ShadowLeases$Hour", 21), (2, 12)), (("ShadowLeases$Hour", 53), (2, 13)), (("ShadowLeases", 258), (2, 13)), (("ShadowLeases$Hour", 56), (2, 14)), (("ShadowLeases", 12), (5, 0)), (("ShadowLeases", 19), (5, 1)), (("ShadowLeases", 23), (5, 2)), (("ShadowLeases", 26), (5, 3)), (("ShadowLeases", 30), (5, 4)), (("ShadowLeases", 221), (5, 5)), (("ShadowLeases", 226), (5, 6)), (("ShadowLeasesLaw$Sim", 9), (6, 2)), (("ShadowLeasesLaw", 28), (6, 2)), (("ShadowLeasesLaw$Sim", 15), (6, 3)), (("ShadowLeasesLaw", 32), (6, 3)), (("ShadowLeasesLaw$Sim", 18), (6, 4)), (("ShadowLeasesLaw", 49), (6, 4)), (("ShadowLeasesLaw$Sim", 21), (6, 5)), (("ShadowLeasesLaw$Sim", 24), (6, 6)), (("ShadowLeasesLaw$Sim", 28), (6, 7)), (("ShadowLeasesLaw$Sim", 31), (6, 8)), (("ShadowLeases$Building", 13), (1, 0)), (("ShadowLeases$Hour", 133), (1, 0)), (("ShadowLeases$Building", 17), (1, 1)), (("ShadowLeases$Square", 31), (1, 1)), (("ShadowLeases$Hour", 116), (1, 1)), (("ShadowLeases$Building", 20), (1, 2)), (("ShadowLeases$Square", 22), (1, 2)), (("ShadowLeases$Hour", 110), (1, 2)), (("ShadowLeases$Building", 23), (1, 3)), (("ShadowLeases$Square", 34), (1, 3)), (("ShadowLeases$Hour", 119), (1, 3)), (("ShadowLeases$Building", 26), (1, 4)), (("ShadowLeases$Square", 28), (1, 4)), (("ShadowLeases$Hour", 113), (1, 4)), (("ShadowLeases$Building", 32), (1, 5)), (("ShadowLeases$Square", 49), (1, 5)), (("ShadowLeases$Building", 29), (1, 6)), (("ShadowLeases", 99), (1, 6)), (("ShadowLeases$Hour", 130), (1, 6)), (("ShadowLeases$Building", 7), (1, 7)), (("ShadowLeases$Square", 52), (1, 7)), (("ShadowLeases$Hour", 100), (1, 7)), (("ShadowLeases", 98), (1, 7)), (("ShadowLeases$Lease", 13), (3, 0)), (("ShadowLeases$Hour", 65), (3, 0)), (("ShadowLeases$Lease", 17), (3, 1)), (("ShadowLeases$Hour", 134), (3, 1)), (("ShadowLeases", 90), (3, 1)), (("ShadowLeases$Lease", 20), (3, 2)), (("ShadowLeases", 186), (3, 2)), (("ShadowLeases$Lease", 23), (3, 3)), (("ShadowLeases", 189), (3, 3)), (("ShadowLeases$Lease", 26), (3, 4)), (("ShadowLeases", 192), (3, 4)), (("ShadowLeases$Lease", 29), (3, 5)), (("ShadowLeases$Hour", 70), (3, 5)), (("ShadowLeases", 195), (3, 5)), (("ShadowLeases$Lease", 32), (3, 6)), (("ShadowLeases", 180), (3, 6)), (("ShadowLeases$Lease", 7), (3, 7)), (("ShadowLeases", 94), (3, 7)), (("ShadowLeases", 177), (3, 8)), (("ShadowLeases", 198), (3, 9))]
/-- a constant pool place that names a class: 0..6 the classes of vwCl, 50.. the exceptions, 60 Object[], 61 Object -/
def clss : List ((String × Nat) × Nat) := [(("ShadowLeasesLaw", 23), 5), (("ShadowLeases", 9), 4), (("ShadowLeases$Square", 9), 0), (("ShadowLeases", 16), 0), (("ShadowLeases", 33), 2), (("java/util/Arrays", 110), 60), (("java/util/Arrays", 2), 61), (("java/util/ArrayList", 7), 61), (("ShadowLeases", 208), 52), (("ShadowLeases", 53), 1), (("ShadowLeases", 110), 51), (("ShadowLeases$Hour", 98), 1), (("ShadowLeases$Hour", 60), 3), (("ShadowLeases", 88), 3), (("ShadowLeases", 62), 50), (("ShadowLeases$Square", 23), 1), (("ShadowLeasesLaw", 9), 6), (("ShadowLeasesLaw$Sim", 7), 62), (("ShadowLeasesLaw$Sim", 27), 63)]
def lcns : List ((String × Nat) × Nat) := []
/-- ints of the constant pool -/
def icns : List ((String × Nat) × Int32) := [(("ShadowLeasesLaw", 7), 2147483647), (("ShadowLeasesLaw", 8), 790386105)]
abbrev MI : Type := String × ByteArray × Nat × Option FieldType × List (Nat × Nat × Nat × Nat)
abbrev RI : Type := Instr × Nat × Nat × Nat × Int32 × List Nat
def tgN (pc : Nat) (off : Int) : Nat := ((pc : Int) + off).toNat
def rsOf (own : String) (pc : Nat) : Instr → Nat × Nat × Int32 × List Nat
  | .iconst n => (0, 0, Int32.ofInt n, [])
  | .bipush n => (0, 0, (Int8.ofInt n).toInt32, [])
  | .sipush n => (0, 0, (Int16.ofInt n).toInt32, [])
  | .iinc i n => (i, 0, Int32.ofInt n, [])
  | .goto o => (tgN pc o, 0, 0, [])
  | .ifCond _ o => (tgN pc o, 0, 0, [])
  | .if_icmp _ o => (tgN pc o, 0, 0, [])
  | .if_acmp _ o => (tgN pc o, 0, 0, [])
  | .ifnull o => (tgN pc o, 0, 0, [])
  | .ifnonnull o => (tgN pc o, 0, 0, [])
  | .getfield i => match flds.lookup (own, i) with | some q => (q.1, q.2, 0, []) | none => (99, 0, 0, [])
  | .putfield i => match flds.lookup (own, i) with | some q => (q.1, q.2, 0, []) | none => (99, 0, 0, [])
  | .new i => match clss.lookup (own, i) with | some q => (q, 0, 0, []) | none => (99, 0, 0, [])
  | .anewarray i => match clss.lookup (own, i) with | some q => (q, 0, 0, []) | none => (99, 0, 0, [])
  | .checkcast i => match clss.lookup (own, i) with | some q => (q, 0, 0, []) | none => (99, 0, 0, [])
  | .ldc i => match clss.lookup (own, i) with | some q => (q, 0, 0, []) | none => (match icns.lookup (own, i) with | some v => (98, 0, v, []) | none => (99, 0, 0, []))
  | .multianewarray i _ => match clss.lookup (own, i) with | some q => (q, 0, 0, []) | none => (99, 0, 0, [])
  | .aaload => if own = RX5 ∨ own = RL then (25, 0, 0, []) else (0, 0, 0, [])
  | .aastore => if own = RX5 ∨ own = RL then (25, 0, 0, []) else (0, 0, 0, [])
  | .arraylength => if own = RX5 ∨ own = RL then (25, 0, 0, []) else (0, 0, 0, [])
  | .ldc2_w i => match lcns.lookup (own, i) with | some q => (q, 1, 0, []) | none => (0, 0, 0, [])
  | .iload_n k => (k, 0, 0, [])
  | .lload_n k => (k, 0, 0, [])
  | .dload_n k => (k, 0, 0, [])
  | .aload_n k => (k, 0, 0, [])
  | .istore_n k => (k, 0, 0, [])
  | .lstore_n k => (k, 0, 0, [])
  | .dstore_n k => (k, 0, 0, [])
  | .astore_n k => (k, 0, 0, [])
  | .tableswitch d lo _ offs => (tgN pc d, 0, Int32.ofInt lo, offs.toList.map (tgN pc))
  | _ => (0, 0, 0, [])
def rs (M : MI) (pc : Nat) : Option RI := match decode M.2.1 pc with
  | .ok (i, len) => some (i, len, rsOf M.1 pc i)
  | .error _ => none
theorem rs_of {M : MI} {pc len : Nat} {i : Instr} {r : Nat × Nat × Int32 × List Nat} (h : decode M.2.1 pc = .ok (i, len)) (h2 : rsOf M.1 pc i = r) : rs M pc = some (i, len, r) := by
  unfold rs
  rw [h]
  subst h2
  rfl
def MX0_init : MI := (RX0, cX0_init, 8, none, [])
def MX0_holds : MI := (RX0, cX0_holds, 3, (some .boolean), [])
def MX1_init : MI := (RX1, cX1_init, 3, none, [])
def MX1_forgetShade : MI := (RX1, cX1_forgetShade, 1, none, [])
def MX1_figure : MI := (RX1, cX1_figure, 2, (some .int), [])
def MX1_areaOf : MI := (RX1, cX1_areaOf, 2, (some .int), [])
def MX1_givenTo : MI := (RX1, cX1_givenTo, 2, (some .int), [])
def MX2_asksIn : MI := (RX2, cX2_asksIn, 2, (some .boolean), [])
def MX1_isShort : MI := (RX1, cX1_isShort, 2, (some .boolean), [])
def MX3_isCovered : MI := (RX3, cX3_isCovered, 2, (some .boolean), [])
def MJ7_fill_53178 : MI := (RJ7, cJ7_fill_53178, 4, none, [])
def MJx4a65c_size_8abf5 : MI := (RJx4a65c, cJx4a65c_size_8abf5, 1, (some .int), [])
def MJ3_checkIndex_8e157 : MI := (RJ3, cJ3_checkIndex_8e157, 3, (some .int), [])
def MJ15_checkIndex_7cf53 : MI := (RJ15, cJ15_checkIndex_7cf53, 2, (some .int), [])
def MJx4a65c_elementData_915e3 : MI := (RJx4a65c, cJx4a65c_elementData_915e3, 2, (some (.object "java/lang/Object")), [])
def MJx4a65c_get_915e3 : MI := (RJx4a65c, cJx4a65c_get_915e3, 2, (some (.object "java/lang/Object")), [])
def MX1_castRay : MI := (RX1, cX1_castRay, 9, none, [])
def MX1_castFrom : MI := (RX1, cX1_castFrom, 4, none, [])
def MX1_sumUpShade : MI := (RX1, cX1_sumUpShade, 3, none, [])
def MX1_measure : MI := (RX1, cX1_measure, 4, none, [])
def MX2_comesBefore : MI := (RX2, cX2_comesBefore, 2, (some .boolean), [])
def MX1_askedBefore : MI := (RX1, cX1_askedBefore, 6, (some .int), [])
def MX1_allot : MI := (RX1, cX1_allot, 5, none, [])
def MX2_init : MI := (RX2, cX2_init, 8, none, [])
def MX2_hourCount : MI := (RX2, cX2_hourCount, 1, (some .int), [])
def MJxa1e45_init_da8c8 : MI := (RJxa1e45, cJxa1e45_init_da8c8, 1, none, [])
def MJxc12de_init_da8c8 : MI := (RJxc12de, cJxc12de_init_da8c8, 1, none, [])
def MJx4a65c_init_da8c8 : MI := (RJx4a65c, cJx4a65c_init_da8c8, 1, none, [])
def MX3_init : MI := (RX3, cX3_init, 1, none, [])
def MX3_isFree : MI := (RX3, cX3_isFree, 4, (some .boolean), [])
def MX3_setCovered : MI := (RX3, cX3_setCovered, 6, none, [])
def MX3_ownerOf : MI := (RX3, cX3_ownerOf, 2, (some .int), [])
def MX3_standing : MI := (RX3, cX3_standing, 3, (some .int), [])
def MX3_coveredCells : MI := (RX3, cX3_coveredCells, 4, (some .int), [])
def MJ8_hugeLength_7cf53 : MI := (RJ8, cJ8_hugeLength_7cf53, 3, (some .int), [])
def MJ8_newLength_cabcc : MI := (RJ8, cJ8_newLength_cabcc, 4, (some .int), [])
def MJ7_copyOf_6403c : MI := (RJ7, cJ7_copyOf_6403c, 4, (some (.array (.object "java/lang/Object"))), [])
def MJ7_copyOf_1904c : MI := (RJ7, cJ7_copyOf_1904c, 2, (some (.array (.object "java/lang/Object"))), [])
def MJx4a65c_grow_92f84 : MI := (RJx4a65c, cJx4a65c_grow_92f84, 4, (some (.array (.object "java/lang/Object"))), [])
def MJx4a65c_grow_d5877 : MI := (RJx4a65c, cJx4a65c_grow_d5877, 1, (some (.array (.object "java/lang/Object"))), [])
def MJx4a65c_add_72be8 : MI := (RJx4a65c, cJx4a65c_add_72be8, 4, none, [])
def MJx4a65c_add_9ea2d : MI := (RJx4a65c, cJx4a65c_add_9ea2d, 2, (some .boolean), [])
def MX4_init : MI := (RX4, cX4_init, 3, none, [])
def MX4_needArgument : MI := (RX4, cX4_needArgument, 3, none, [])
def MX4_forgetShades : MI := (RX4, cX4_forgetShades, 2, none, [])
def MX4_build : MI := (RX4, cX4_build, 9, (some .int), [])
def MX4_needIndex : MI := (RX4, cX4_needIndex, 2, none, [])
def MX4_buildingAt : MI := (RX4, cX4_buildingAt, 2, (some (.object "ShadowLeases$Building")), [])
def MX4_standingBuilding : MI := (RX4, cX4_standingBuilding, 3, (some (.object "ShadowLeases$Building")), [])
def MX4_changeHeight : MI := (RX4, cX4_changeHeight, 3, none, [])
def MX4_raise : MI := (RX4, cX4_raise, 5, (some .int), [])
def MX4_hourAt : MI := (RX4, cX4_hourAt, 2, (some (.object "ShadowLeases$Hour")), [])
def MX4_setSun : MI := (RX4, cX4_setSun, 7, (some .int), [])
def MX4_measuredHour : MI := (RX4, cX4_measuredHour, 3, (some (.object "ShadowLeases$Hour")), [])
def MX4_shade : MI := (RX4, cX4_shade, 4, (some .int), [])
def MX4_shades : MI := (RX4, cX4_shades, 4, (some .int), [])
def MX4_area : MI := (RX4, cX4_area, 3, (some .int), [])
def MX4_allottedHour : MI := (RX4, cX4_allottedHour, 3, (some (.object "ShadowLeases$Hour")), [])
def MX4_inHour : MI := (RX4, cX4_inHour, 3, (some .int), [])
def MX4_forgetAllotments : MI := (RX4, cX4_forgetAllotments, 2, none, [])
def MX4_let : MI := (RX4, cX4_let, 8, (some .int), [])
def MX4_leaseAt : MI := (RX4, cX4_leaseAt, 2, (some (.object "ShadowLeases$Lease")), [])
def MX4_shortHours : MI := (RX4, cX4_shortHours, 4, (some .int), [])
def MX4_lease : MI := (RX4, cX4_lease, 4, (some .int), [])
def MX4_gets : MI := (RX4, cX4_gets, 3, (some .int), [])
def MX4_payFor : MI := (RX4, cX4_payFor, 6, none, [])
def MX4_warn : MI := (RX4, cX4_warn, 4, none, [])
def MX4_evict : MI := (RX4, cX4_evict, 3, none, [])
def MX4_pass : MI := (RX4, cX4_pass, 5, (some .int), [])
def MX4_standingLeases : MI := (RX4, cX4_standingLeases, 3, (some .int), [])
def MX4_paidByAll : MI := (RX4, cX4_paidByAll, 3, (some .int), [])
def MX4_count : MI := (RX4, cX4_count, 2, (some .int), [])
def MX4_got : MI := (RX4, cX4_got, 2, (some .int), [])
def MX4_paid : MI := (RX4, cX4_paid, 2, (some .int), [])
def MX4_fulfilled : MI := (RX4, cX4_fulfilled, 5, (some .double), [])
def MX5_cast : MI := (RX5, cX5_cast, 11, none, [])
def MX5_init : MI := (RX5, cX5_init, 2, none, [])
def MX5_more : MI := (RX5, cX5_more, 4, (some (.array (.array .int))), [])
def MJ9_max_7cf53 : MI := (RJ9, cJ9_max_7cf53, 2, (some .int), [])
def MJ9_min_7cf53 : MI := (RJ9, cJ9_min_7cf53, 2, (some .int), [])
def ML_below : MI := (RL, cL_below, 2, (some .int), [])
def ML_cell : MI := (RL, cL_cell, 2, (some .int), [])
def ML_build : MI := (RL, cL_build, 15, (some (.object "ShadowLeasesLaw$Sim")), [])
def ML_law : MI := (RL, cL_law, 24, some .boolean, [])
