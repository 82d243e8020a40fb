/-! Names, field tables, the words of the tables by their places, rows that decode each instruction. Laid by program (wip/whole/gen_names.py). -/
abbrev RX : String := "GrantMath"
abbrev RM : String := "GrantMathModel"
abbrev RL : String := "GrantMathLaw"
def TX : u_T := fun k => match k with
  | 0 => (RX, "addresses", "[I", true)
  | 1 => (RX, "bases", "[I", true)
  | 2 => (RX, "tops", "[I", true)
  | 3 => (RX, "permissionSets", "[I", true)
  | 4 => (RX, "types", "[I", true)
  | _ => (RX, "tags", "[Z", true)
def tyX : Nat → FieldType := fun k => match k with
  | 0 => .array .int
  | 1 => .array .int
  | 2 => .array .int
  | 3 => .array .int
  | 4 => .array .int
  | _ => .array .boolean
theorem nmX : ∀ a, a < 6 → ∀ b, b < 6 → a ≠ b → (TX a).2.1 ≠ (TX b).2.1 := by decide +kernel
theorem tyX_ok : ∀ k, k < 6 → parseFieldDescriptor (TX k).2.2.1 = some (tyX k) := by decide +kernel
def TM : u_T := fun k => match k with
  | 0 => (RM, "err", "I", false)
  | 1 => (RM, "address", "[J", true)
  | 2 => (RM, "base", "[J", true)
  | 3 => (RM, "top", "[J", true)
  | 4 => (RM, "permissions", "[I", true)
  | 5 => (RM, "type", "[I", true)
  | _ => (RM, "tag", "[Z", true)
def tyM : Nat → FieldType := fun k => match k with
  | 0 => .int
  | 1 => .array .long
  | 2 => .array .long
  | 3 => .array .long
  | 4 => .array .int
  | 5 => .array .int
  | _ => .array .boolean
theorem nmM : ∀ a, a < 7 → ∀ b, b < 7 → a ≠ b → (TM a).2.1 ≠ (TM b).2.1 := by decide +kernel
theorem tyM_ok : ∀ k, k < 7 → parseFieldDescriptor (TM k).2.2.1 = some (tyM k) := by decide +kernel
abbrev vwCl : List vw_C := [(RX, TX, 6), (RM, TM, 7)]
abbrev yX_init : MethodName := ⟨RX, "<init>", "()V"⟩
abbrev cX_init : ByteArray := prog_1_method_1_code
abbrev yX_root : MethodName := ⟨RX, "root", "(IIII)V"⟩
abbrev cX_root : ByteArray := prog_1_method_2_code
abbrev yX_number : MethodName := ⟨RX, "number", "(II)V"⟩
abbrev cX_number : ByteArray := prog_1_method_3_code
abbrev yX_move : MethodName := ⟨RX, "move", "(III)V"⟩
abbrev cX_move : ByteArray := prog_1_method_4_code
abbrev yX_narrow : MethodName := ⟨RX, "narrow", "(III)Z"⟩
abbrev cX_narrow : ByteArray := prog_1_method_5_code
abbrev yX_restrict : MethodName := ⟨RX, "restrict", "(III)Z"⟩
abbrev cX_restrict : ByteArray := prog_1_method_6_code
abbrev yX_seal : MethodName := ⟨RX, "seal", "(III)I"⟩
abbrev cX_seal : ByteArray := prog_1_method_7_code
abbrev yX_unseal : MethodName := ⟨RX, "unseal", "(III)I"⟩
abbrev cX_unseal : ByteArray := prog_1_method_8_code
abbrev yX_allows : MethodName := ⟨RX, "allows", "(IIII)I"⟩
abbrev cX_allows : ByteArray := prog_1_method_9_code
abbrev yX_within : MethodName := ⟨RX, "within", "(II)Z"⟩
abbrev cX_within : ByteArray := prog_1_method_10_code
abbrev yX_part : MethodName := ⟨RX, "part", "(II)I"⟩
abbrev cX_part : ByteArray := prog_1_method_11_code
abbrev yX_count : MethodName := ⟨RX, "count", "(II)I"⟩
abbrev cX_count : ByteArray := prog_1_method_12_code
abbrev yX_requireGrant : MethodName := ⟨RX, "requireGrant", "(I)V"⟩
abbrev cX_requireGrant : ByteArray := prog_1_method_13_code
abbrev yX_unsigned : MethodName := ⟨RX, "unsigned", "(I)J"⟩
abbrev cX_unsigned : ByteArray := prog_1_method_14_code
abbrev yX_copy : MethodName := ⟨RX, "copy", "(II)V"⟩
abbrev cX_copy : ByteArray := prog_1_method_15_code
abbrev yX_isSealed : MethodName := ⟨RX, "isSealed", "(I)Z"⟩
abbrev cX_isSealed : ByteArray := prog_1_method_16_code
abbrev yX_hasPermissions : MethodName := ⟨RX, "hasPermissions", "(II)Z"⟩
abbrev cX_hasPermissions : ByteArray := prog_1_method_17_code
abbrev yX_isInBounds : MethodName := ⟨RX, "isInBounds", "(IIJ)Z"⟩
abbrev cX_isInBounds : ByteArray := prog_1_method_18_code
abbrev yX_accessCause : MethodName := ⟨RX, "accessCause", "(IIII)I"⟩
abbrev cX_accessCause : ByteArray := prog_1_method_19_code
abbrev yX_sealingCause : MethodName := ⟨RX, "sealingCause", "(II)I"⟩
abbrev cX_sealingCause : ByteArray := prog_1_method_20_code
abbrev yX_unsealingCause : MethodName := ⟨RX, "unsealingCause", "(II)I"⟩
abbrev cX_unsealingCause : ByteArray := prog_1_method_21_code
abbrev yM_init : MethodName := ⟨RM, "<init>", "()V"⟩
abbrev cM_init : ByteArray := prog_3_method_1_code
abbrev yM_thrown : MethodName := ⟨RM, "thrown", "()I"⟩
abbrev cM_thrown : ByteArray := prog_3_method_2_code
abbrev yM_in : MethodName := ⟨RM, "in", "(JJJ)Z"⟩
abbrev cM_in : ByteArray := prog_3_method_3_code
abbrev yM_fails : MethodName := ⟨RM, "fails", "(ZI)Z"⟩
abbrev cM_fails : ByteArray := prog_3_method_4_code
abbrev yM_is : MethodName := ⟨RM, "is", "(I)Z"⟩
abbrev cM_is : ByteArray := prog_3_method_5_code
abbrev yM_wide : MethodName := ⟨RM, "wide", "(I)J"⟩
abbrev cM_wide : ByteArray := prog_3_method_6_code
abbrev yM_give : MethodName := ⟨RM, "give", "(IJJJIIZ)V"⟩
abbrev cM_give : ByteArray := prog_3_method_7_code
abbrev yM_root : MethodName := ⟨RM, "root", "(IIII)V"⟩
abbrev cM_root : ByteArray := prog_3_method_8_code
abbrev yM_number : MethodName := ⟨RM, "number", "(II)V"⟩
abbrev cM_number : ByteArray := prog_3_method_9_code
abbrev yM_isSealed : MethodName := ⟨RM, "isSealed", "(I)Z"⟩
abbrev cM_isSealed : ByteArray := prog_3_method_10_code
abbrev yM_move : MethodName := ⟨RM, "move", "(III)V"⟩
abbrev cM_move : ByteArray := prog_3_method_11_code
abbrev yM_narrow : MethodName := ⟨RM, "narrow", "(III)Z"⟩
abbrev cM_narrow : ByteArray := prog_3_method_12_code
abbrev yM_restrict : MethodName := ⟨RM, "restrict", "(III)Z"⟩
abbrev cM_restrict : ByteArray := prog_3_method_13_code
abbrev yM_may : MethodName := ⟨RM, "may", "(II)Z"⟩
abbrev cM_may : ByteArray := prog_3_method_14_code
abbrev yM_holds : MethodName := ⟨RM, "holds", "(IJJ)Z"⟩
abbrev cM_holds : ByteArray := prog_3_method_15_code
abbrev yM_seal : MethodName := ⟨RM, "seal", "(III)I"⟩
abbrev cM_seal : ByteArray := prog_3_method_16_code
abbrev yM_unseal : MethodName := ⟨RM, "unseal", "(III)I"⟩
abbrev cM_unseal : ByteArray := prog_3_method_17_code
abbrev yM_allows : MethodName := ⟨RM, "allows", "(IIII)I"⟩
abbrev cM_allows : ByteArray := prog_3_method_18_code
abbrev yM_within : MethodName := ⟨RM, "within", "(II)Z"⟩
abbrev cM_within : ByteArray := prog_3_method_19_code
abbrev yM_part : MethodName := ⟨RM, "part", "(II)I"⟩
abbrev cM_part : ByteArray := prog_3_method_20_code
abbrev yM_count : MethodName := ⟨RM, "count", "(II)I"⟩
abbrev cM_count : ByteArray := prog_3_method_21_code
abbrev yL_root : MethodName := ⟨RL, "root", "(LGrantMath;IIII)I"⟩
abbrev cL_root : ByteArray := method_3_code
abbrev yL_number : MethodName := ⟨RL, "number", "(LGrantMath;II)I"⟩
abbrev cL_number : ByteArray := method_4_code
abbrev yL_move : MethodName := ⟨RL, "move", "(LGrantMath;III)I"⟩
abbrev cL_move : ByteArray := method_5_code
abbrev yL_narrow : MethodName := ⟨RL, "narrow", "(LGrantMath;III[J)I"⟩
abbrev cL_narrow : ByteArray := method_6_code
abbrev yL_restrict : MethodName := ⟨RL, "restrict", "(LGrantMath;III[J)I"⟩
abbrev cL_restrict : ByteArray := method_7_code
abbrev yL_seal : MethodName := ⟨RL, "seal", "(LGrantMath;III[J)I"⟩
abbrev cL_seal : ByteArray := method_8_code
abbrev yL_unseal : MethodName := ⟨RL, "unseal", "(LGrantMath;III[J)I"⟩
abbrev cL_unseal : ByteArray := method_9_code
abbrev yL_allows : MethodName := ⟨RL, "allows", "(LGrantMath;IIII[J)I"⟩
abbrev cL_allows : ByteArray := method_10_code
abbrev yL_within : MethodName := ⟨RL, "within", "(LGrantMath;II[J)I"⟩
abbrev cL_within : ByteArray := method_11_code
abbrev yL_part : MethodName := ⟨RL, "part", "(LGrantMath;II[J)I"⟩
abbrev cL_part : ByteArray := method_12_code
abbrev yL_law : MethodName := ⟨RL, "law", "([I)Z"⟩
abbrev cL_law : ByteArray := code
theorem w_0 : (Jvm.Cond.selects "GrantMath" ({ cls := "GrantMath", name := "accessCause", desc := "(IIII)I" } : Jvm.MethodName) ({ cls := "GrantMath", name := "accessCause", desc := "(IIII)I" } : Jvm.MethodName)) ∈ gw := gw_in (List.mem_of_getElem? (i := 0) (by decide +kernel)) (by decide +kernel)
theorem w_1 : (Jvm.Cond.selects "GrantMath" ({ cls := "GrantMath", name := "isSealed", desc := "(I)Z" } : Jvm.MethodName) ({ cls := "GrantMath", name := "isSealed", desc := "(I)Z" } : Jvm.MethodName)) ∈ gw := gw_in (List.mem_of_getElem? (i := 1) (by decide +kernel)) (by decide +kernel)
theorem w_2 : (Jvm.Cond.selects "GrantMath" ({ cls := "GrantMath", name := "hasPermissions", desc := "(II)Z" } : Jvm.MethodName) ({ cls := "GrantMath", name := "hasPermissions", desc := "(II)Z" } : Jvm.MethodName)) ∈ gw := gw_in (List.mem_of_getElem? (i := 2) (by decide +kernel)) (by decide +kernel)
theorem w_3 : (Jvm.Cond.selects "GrantMath" ({ cls := "GrantMath", name := "isInBounds", desc := "(IIJ)Z" } : Jvm.MethodName) ({ cls := "GrantMath", name := "isInBounds", desc := "(IIJ)Z" } : Jvm.MethodName)) ∈ gw := gw_in (List.mem_of_getElem? (i := 3) (by decide +kernel)) (by decide +kernel)
theorem w_4 : (Jvm.Cond.selects "java/lang/Throwable" ({ cls := "java/lang/Throwable", name := "fillInStackTrace", desc := "(I)Ljava/lang/Throwable;" } : Jvm.MethodName) ({ cls := "java/lang/Throwable", name := "fillInStackTrace", desc := "(I)Ljava/lang/Throwable;" } : Jvm.MethodName)) ∈ gw := gw_in (List.mem_of_getElem? (i := 4) (by decide +kernel)) (by decide +kernel)
theorem w_5 : (Jvm.Cond.selects "GrantMath" ({ cls := "GrantMath", name := "copy", desc := "(II)V" } : Jvm.MethodName) ({ cls := "GrantMath", name := "copy", desc := "(II)V" } : Jvm.MethodName)) ∈ gw := gw_in (List.mem_of_getElem? (i := 5) (by decide +kernel)) (by decide +kernel)
theorem w_6 : (Jvm.Cond.selects "GrantMath" ({ cls := "GrantMath", name := "sealingCause", desc := "(II)I" } : Jvm.MethodName) ({ cls := "GrantMath", name := "sealingCause", desc := "(II)I" } : Jvm.MethodName)) ∈ gw := gw_in (List.mem_of_getElem? (i := 6) (by decide +kernel)) (by decide +kernel)
theorem w_7 : (Jvm.Cond.selects "GrantMath" ({ cls := "GrantMath", name := "unsealingCause", desc := "(II)I" } : Jvm.MethodName) ({ cls := "GrantMath", name := "unsealingCause", desc := "(II)I" } : Jvm.MethodName)) ∈ gw := gw_in (List.mem_of_getElem? (i := 7) (by decide +kernel)) (by decide +kernel)
theorem w_8 : (Jvm.Cond.selects "GrantMathModel" ({ cls := "GrantMathModel", name := "fails", desc := "(ZI)Z" } : Jvm.MethodName) ({ cls := "GrantMathModel", name := "fails", desc := "(ZI)Z" } : Jvm.MethodName)) ∈ gw := gw_in (List.mem_of_getElem? (i := 8) (by decide +kernel)) (by decide +kernel)
theorem w_9 : (Jvm.Cond.selects "GrantMathModel" ({ cls := "GrantMathModel", name := "give", desc := "(IJJJIIZ)V" } : Jvm.MethodName) ({ cls := "GrantMathModel", name := "give", desc := "(IJJJIIZ)V" } : Jvm.MethodName)) ∈ gw := gw_in (List.mem_of_getElem? (i := 9) (by decide +kernel)) (by decide +kernel)
theorem w_10 : (Jvm.Cond.selects "GrantMathModel" ({ cls := "GrantMathModel", name := "isSealed", desc := "(I)Z" } : Jvm.MethodName) ({ cls := "GrantMathModel", name := "isSealed", desc := "(I)Z" } : Jvm.MethodName)) ∈ gw := gw_in (List.mem_of_getElem? (i := 10) (by decide +kernel)) (by decide +kernel)
theorem w_11 : (Jvm.Cond.selects "GrantMathModel" ({ cls := "GrantMathModel", name := "may", desc := "(II)Z" } : Jvm.MethodName) ({ cls := "GrantMathModel", name := "may", desc := "(II)Z" } : Jvm.MethodName)) ∈ gw := gw_in (List.mem_of_getElem? (i := 11) (by decide +kernel)) (by decide +kernel)
theorem w_12 : (Jvm.Cond.selects "GrantMathModel" ({ cls := "GrantMathModel", name := "holds", desc := "(IJJ)Z" } : Jvm.MethodName) ({ cls := "GrantMathModel", name := "holds", desc := "(IJJ)Z" } : Jvm.MethodName)) ∈ gw := gw_in (List.mem_of_getElem? (i := 12) (by decide +kernel)) (by decide +kernel)
theorem w_13 : (Jvm.Cond.initialized "GrantMathLaw") ∈ gw := gw_in (List.mem_of_getElem? (i := 13) (by decide +kernel)) (by decide +kernel)
theorem w_14 : (Jvm.Cond.initialized "GrantMath") ∈ gw := gw_in (List.mem_of_getElem? (i := 14) (by decide +kernel)) (by decide +kernel)
theorem w_15 : (Jvm.Cond.initialized "GrantMathModel") ∈ gw := gw_in (List.mem_of_getElem? (i := 15) (by decide +kernel)) (by decide +kernel)
theorem w_16 : (Jvm.Cond.initialized "java/lang/Throwable") ∈ gw := gw_in (List.mem_of_getElem? (i := 16) (by decide +kernel)) (by decide +kernel)
theorem w_17 : (Jvm.Cond.initialized "java/lang/Exception") ∈ gw := gw_in (List.mem_of_getElem? (i := 17) (by decide +kernel)) (by decide +kernel)
theorem w_18 : (Jvm.Cond.initialized "java/lang/RuntimeException") ∈ gw := gw_in (List.mem_of_getElem? (i := 18) (by decide +kernel)) (by decide +kernel)
theorem w_19 : (Jvm.Cond.initialized "java/lang/IllegalArgumentException") ∈ gw := gw_in (List.mem_of_getElem? (i := 19) (by decide +kernel)) (by decide +kernel)
theorem w_20 : (Jvm.Cond.initialized "java/lang/IndexOutOfBoundsException") ∈ gw := gw_in (List.mem_of_getElem? (i := 20) (by decide +kernel)) (by decide +kernel)
theorem w_21 : (Jvm.Cond.classLink "GrantMathLaw" (8 : Nat) "GrantMath") ∈ gw := gw_in (List.mem_of_getElem? (i := 21) (by decide +kernel)) (by decide +kernel)
theorem w_22 : (Jvm.Cond.instantiable "GrantMath" (6 : Nat)) ∈ gw := gw_in (List.mem_of_getElem? (i := 22) (by decide +kernel)) (by decide +kernel)
theorem w_23 : (Jvm.Cond.methodLink "GrantMathLaw" (51 : Nat) ({ cls := "GrantMath", name := "<init>", desc := "()V" } : Jvm.MethodName)) ∈ gw := gw_in (List.mem_of_getElem? (i := 23) (by decide +kernel)) (by decide +kernel)
theorem w_24 : (Jvm.Cond.instanceMethod ({ cls := "GrantMath", name := "<init>", desc := "()V" } : Jvm.MethodName)) ∈ gw := gw_in (List.mem_of_getElem? (i := 24) (by decide +kernel)) (by decide +kernel)
theorem w_25 : (Jvm.Cond.code ({ cls := "GrantMath", name := "<init>", desc := "()V" } : Jvm.MethodName) prog_1_method_1_code (1 : Nat) (Option.none : Option Jvm.ClassFile.FieldType)) ∈ gw := gw_in (List.mem_of_getElem? (i := 25) (by decide +kernel)) (by decide +kernel)
theorem w_26 : (Jvm.Cond.methodLink "GrantMath" (1 : Nat) ({ cls := "java/lang/Object", name := "<init>", desc := "()V" } : Jvm.MethodName)) ∈ gw := gw_in (List.mem_of_getElem? (i := 26) (by decide +kernel)) (by decide +kernel)
theorem w_27 : (Jvm.Cond.instanceMethod ({ cls := "java/lang/Object", name := "<init>", desc := "()V" } : Jvm.MethodName)) ∈ gw := gw_in (List.mem_of_getElem? (i := 27) (by decide +kernel)) (by decide +kernel)
theorem w_28 : (Jvm.Cond.code ({ cls := "java/lang/Object", name := "<init>", desc := "()V" } : Jvm.MethodName) object_method_1_code (1 : Nat) (Option.none : Option Jvm.ClassFile.FieldType)) ∈ gw := gw_in (List.mem_of_getElem? (i := 28) (by decide +kernel)) (by decide +kernel)
theorem w_29 : (Jvm.Cond.fieldLink "GrantMath" (9 : Nat) "GrantMath" "addresses" "[I") ∈ gw := gw_in (List.mem_of_getElem? (i := 29) (by decide +kernel)) (by decide +kernel)
theorem w_30 : (Jvm.Cond.fieldLink "GrantMath" (13 : Nat) "GrantMath" "bases" "[I") ∈ gw := gw_in (List.mem_of_getElem? (i := 30) (by decide +kernel)) (by decide +kernel)
theorem w_31 : (Jvm.Cond.fieldLink "GrantMath" (16 : Nat) "GrantMath" "tops" "[I") ∈ gw := gw_in (List.mem_of_getElem? (i := 31) (by decide +kernel)) (by decide +kernel)
theorem w_32 : (Jvm.Cond.fieldLink "GrantMath" (19 : Nat) "GrantMath" "permissionSets" "[I") ∈ gw := gw_in (List.mem_of_getElem? (i := 32) (by decide +kernel)) (by decide +kernel)
theorem w_33 : (Jvm.Cond.fieldLink "GrantMath" (22 : Nat) "GrantMath" "types" "[I") ∈ gw := gw_in (List.mem_of_getElem? (i := 33) (by decide +kernel)) (by decide +kernel)
theorem w_34 : (Jvm.Cond.fieldLink "GrantMath" (25 : Nat) "GrantMath" "tags" "[Z") ∈ gw := gw_in (List.mem_of_getElem? (i := 34) (by decide +kernel)) (by decide +kernel)
theorem w_35 : (Jvm.Cond.laysFinal "GrantMath" "GrantMath" "addresses" "[I") ∈ gw := gw_in (List.mem_of_getElem? (i := 35) (by decide +kernel)) (by decide +kernel)
theorem w_36 : (Jvm.Cond.soleField "GrantMath" "addresses") ∈ gw := gw_in (List.mem_of_getElem? (i := 36) (by decide +kernel)) (by decide +kernel)
theorem w_37 : (Jvm.Cond.laysFinal "GrantMath" "GrantMath" "bases" "[I") ∈ gw := gw_in (List.mem_of_getElem? (i := 37) (by decide +kernel)) (by decide +kernel)
theorem w_38 : (Jvm.Cond.soleField "GrantMath" "bases") ∈ gw := gw_in (List.mem_of_getElem? (i := 38) (by decide +kernel)) (by decide +kernel)
theorem w_39 : (Jvm.Cond.laysFinal "GrantMath" "GrantMath" "tops" "[I") ∈ gw := gw_in (List.mem_of_getElem? (i := 39) (by decide +kernel)) (by decide +kernel)
theorem w_40 : (Jvm.Cond.soleField "GrantMath" "tops") ∈ gw := gw_in (List.mem_of_getElem? (i := 40) (by decide +kernel)) (by decide +kernel)
theorem w_41 : (Jvm.Cond.laysFinal "GrantMath" "GrantMath" "permissionSets" "[I") ∈ gw := gw_in (List.mem_of_getElem? (i := 41) (by decide +kernel)) (by decide +kernel)
theorem w_42 : (Jvm.Cond.soleField "GrantMath" "permissionSets") ∈ gw := gw_in (List.mem_of_getElem? (i := 42) (by decide +kernel)) (by decide +kernel)
theorem w_43 : (Jvm.Cond.laysFinal "GrantMath" "GrantMath" "types" "[I") ∈ gw := gw_in (List.mem_of_getElem? (i := 43) (by decide +kernel)) (by decide +kernel)
theorem w_44 : (Jvm.Cond.soleField "GrantMath" "types") ∈ gw := gw_in (List.mem_of_getElem? (i := 44) (by decide +kernel)) (by decide +kernel)
theorem w_45 : (Jvm.Cond.laysFinal "GrantMath" "GrantMath" "tags" "[Z") ∈ gw := gw_in (List.mem_of_getElem? (i := 45) (by decide +kernel)) (by decide +kernel)
theorem w_46 : (Jvm.Cond.soleField "GrantMath" "tags") ∈ gw := gw_in (List.mem_of_getElem? (i := 46) (by decide +kernel)) (by decide +kernel)
theorem w_47 : (Jvm.Cond.superclass "GrantMath" "java/lang/Object") ∈ gw := gw_in (List.mem_of_getElem? (i := 47) (by decide +kernel)) (by decide +kernel)
theorem w_48 : (Jvm.Cond.arrayClass Jvm.ClassFile.FieldType.int) ∈ gw := gw_in (List.mem_of_getElem? (i := 48) (by decide +kernel)) (by decide +kernel)
theorem w_49 : (Jvm.Cond.arrayClass Jvm.ClassFile.FieldType.boolean) ∈ gw := gw_in (List.mem_of_getElem? (i := 49) (by decide +kernel)) (by decide +kernel)
theorem w_50 : (Jvm.Cond.methodLink "GrantMathLaw" (97 : Nat) ({ cls := "GrantMath", name := "count", desc := "(II)I" } : Jvm.MethodName)) ∈ gw := gw_in (List.mem_of_getElem? (i := 50) (by decide +kernel)) (by decide +kernel)
theorem w_51 : (Jvm.Cond.instanceMethod ({ cls := "GrantMath", name := "count", desc := "(II)I" } : Jvm.MethodName)) ∈ gw := gw_in (List.mem_of_getElem? (i := 51) (by decide +kernel)) (by decide +kernel)
theorem w_52 : (Jvm.Cond.selects "GrantMath" ({ cls := "GrantMath", name := "count", desc := "(II)I" } : Jvm.MethodName) ({ cls := "GrantMath", name := "count", desc := "(II)I" } : Jvm.MethodName)) ∈ gw := gw_in (List.mem_of_getElem? (i := 52) (by decide +kernel)) (by decide +kernel)
theorem w_53 : (Jvm.Cond.code ({ cls := "GrantMath", name := "count", desc := "(II)I" } : Jvm.MethodName) prog_1_method_12_code (5 : Nat) (Option.some Jvm.ClassFile.FieldType.int)) ∈ gw := gw_in (List.mem_of_getElem? (i := 53) (by decide +kernel)) (by decide +kernel)
theorem w_54 : (Jvm.Cond.methodLink "GrantMath" (68 : Nat) ({ cls := "GrantMath", name := "accessCause", desc := "(IIII)I" } : Jvm.MethodName)) ∈ gw := gw_in (List.mem_of_getElem? (i := 54) (by decide +kernel)) (by decide +kernel)
theorem w_56 : (Jvm.Cond.instanceMethod ({ cls := "GrantMath", name := "accessCause", desc := "(IIII)I" } : Jvm.MethodName)) ∈ gw := gw_in (List.mem_of_getElem? (i := 56) (by decide +kernel)) (by decide +kernel)
theorem w_57 : (Jvm.Cond.code ({ cls := "GrantMath", name := "accessCause", desc := "(IIII)I" } : Jvm.MethodName) prog_1_method_19_code (5 : Nat) (Option.some Jvm.ClassFile.FieldType.int)) ∈ gw := gw_in (List.mem_of_getElem? (i := 57) (by decide +kernel)) (by decide +kernel)
theorem w_58 : (Jvm.Cond.methodLink "GrantMath" (46 : Nat) ({ cls := "GrantMath", name := "isSealed", desc := "(I)Z" } : Jvm.MethodName)) ∈ gw := gw_in (List.mem_of_getElem? (i := 58) (by decide +kernel)) (by decide +kernel)
theorem w_60 : (Jvm.Cond.instanceMethod ({ cls := "GrantMath", name := "isSealed", desc := "(I)Z" } : Jvm.MethodName)) ∈ gw := gw_in (List.mem_of_getElem? (i := 60) (by decide +kernel)) (by decide +kernel)
theorem w_61 : (Jvm.Cond.code ({ cls := "GrantMath", name := "isSealed", desc := "(I)Z" } : Jvm.MethodName) prog_1_method_16_code (2 : Nat) (Option.some Jvm.ClassFile.FieldType.boolean)) ∈ gw := gw_in (List.mem_of_getElem? (i := 61) (by decide +kernel)) (by decide +kernel)
theorem w_62 : (Jvm.Cond.methodLink "GrantMath" (72 : Nat) ({ cls := "GrantMath", name := "hasPermissions", desc := "(II)Z" } : Jvm.MethodName)) ∈ gw := gw_in (List.mem_of_getElem? (i := 62) (by decide +kernel)) (by decide +kernel)
theorem w_64 : (Jvm.Cond.instanceMethod ({ cls := "GrantMath", name := "hasPermissions", desc := "(II)Z" } : Jvm.MethodName)) ∈ gw := gw_in (List.mem_of_getElem? (i := 64) (by decide +kernel)) (by decide +kernel)
theorem w_65 : (Jvm.Cond.code ({ cls := "GrantMath", name := "hasPermissions", desc := "(II)Z" } : Jvm.MethodName) prog_1_method_17_code (3 : Nat) (Option.some Jvm.ClassFile.FieldType.boolean)) ∈ gw := gw_in (List.mem_of_getElem? (i := 65) (by decide +kernel)) (by decide +kernel)
theorem w_66 : (Jvm.Cond.methodLink "GrantMath" (54 : Nat) ({ cls := "GrantMath", name := "isInBounds", desc := "(IIJ)Z" } : Jvm.MethodName)) ∈ gw := gw_in (List.mem_of_getElem? (i := 66) (by decide +kernel)) (by decide +kernel)
theorem w_68 : (Jvm.Cond.instanceMethod ({ cls := "GrantMath", name := "isInBounds", desc := "(IIJ)Z" } : Jvm.MethodName)) ∈ gw := gw_in (List.mem_of_getElem? (i := 68) (by decide +kernel)) (by decide +kernel)
theorem w_69 : (Jvm.Cond.code ({ cls := "GrantMath", name := "isInBounds", desc := "(IIJ)Z" } : Jvm.MethodName) prog_1_method_18_code (7 : Nat) (Option.some Jvm.ClassFile.FieldType.boolean)) ∈ gw := gw_in (List.mem_of_getElem? (i := 69) (by decide +kernel)) (by decide +kernel)
theorem w_70 : (Jvm.Cond.methodLink "GrantMath" (29 : Nat) ({ cls := "GrantMath", name := "unsigned", desc := "(I)J" } : Jvm.MethodName)) ∈ gw := gw_in (List.mem_of_getElem? (i := 70) (by decide +kernel)) (by decide +kernel)
theorem w_71 : (Jvm.Cond.static ({ cls := "GrantMath", name := "unsigned", desc := "(I)J" } : Jvm.MethodName)) ∈ gw := gw_in (List.mem_of_getElem? (i := 71) (by decide +kernel)) (by decide +kernel)
theorem w_72 : (Jvm.Cond.code ({ cls := "GrantMath", name := "unsigned", desc := "(I)J" } : Jvm.MethodName) prog_1_method_14_code (1 : Nat) (Option.some Jvm.ClassFile.FieldType.long)) ∈ gw := gw_in (List.mem_of_getElem? (i := 72) (by decide +kernel)) (by decide +kernel)
theorem w_73 : (Jvm.Cond.constantLong "GrantMath" (83 : Nat) (4294967295 : Int64)) ∈ gw := gw_in (List.mem_of_getElem? (i := 73) (by decide +kernel)) (by decide +kernel)
theorem w_74 : (Jvm.Cond.methodLink "GrantMathLaw" (55 : Nat) ({ cls := "GrantMathLaw", name := "root", desc := "(LGrantMath;IIII)I" } : Jvm.MethodName)) ∈ gw := gw_in (List.mem_of_getElem? (i := 74) (by decide +kernel)) (by decide +kernel)
theorem w_75 : (Jvm.Cond.static ({ cls := "GrantMathLaw", name := "root", desc := "(LGrantMath;IIII)I" } : Jvm.MethodName)) ∈ gw := gw_in (List.mem_of_getElem? (i := 75) (by decide +kernel)) (by decide +kernel)
theorem w_76 : (Jvm.Cond.codeWith ({ cls := "GrantMathLaw", name := "root", desc := "(LGrantMath;IIII)I" } : Jvm.MethodName) method_3_code (6 : Nat) (Option.some Jvm.ClassFile.FieldType.int) [((0 : Nat), (9 : Nat), (12 : Nat), (13 : Nat)), ((0 : Nat), (9 : Nat), (16 : Nat), (15 : Nat))]) ∈ gw := gw_in (List.mem_of_getElem? (i := 76) (by decide +kernel)) (by decide +kernel)
theorem w_77 : (Jvm.Cond.classLink "GrantMathLaw" (13 : Nat) "java/lang/IllegalArgumentException") ∈ gw := gw_in (List.mem_of_getElem? (i := 77) (by decide +kernel)) (by decide +kernel)
theorem w_78 : (Jvm.Cond.classLink "GrantMathLaw" (15 : Nat) "java/lang/IndexOutOfBoundsException") ∈ gw := gw_in (List.mem_of_getElem? (i := 78) (by decide +kernel)) (by decide +kernel)
theorem w_79 : (Jvm.Cond.methodLink "GrantMathLaw" (7 : Nat) ({ cls := "GrantMath", name := "root", desc := "(IIII)V" } : Jvm.MethodName)) ∈ gw := gw_in (List.mem_of_getElem? (i := 79) (by decide +kernel)) (by decide +kernel)
theorem w_80 : (Jvm.Cond.instanceMethod ({ cls := "GrantMath", name := "root", desc := "(IIII)V" } : Jvm.MethodName)) ∈ gw := gw_in (List.mem_of_getElem? (i := 80) (by decide +kernel)) (by decide +kernel)
theorem w_81 : (Jvm.Cond.selects "GrantMath" ({ cls := "GrantMath", name := "root", desc := "(IIII)V" } : Jvm.MethodName) ({ cls := "GrantMath", name := "root", desc := "(IIII)V" } : Jvm.MethodName)) ∈ gw := gw_in (List.mem_of_getElem? (i := 81) (by decide +kernel)) (by decide +kernel)
theorem w_82 : (Jvm.Cond.code ({ cls := "GrantMath", name := "root", desc := "(IIII)V" } : Jvm.MethodName) prog_1_method_2_code (5 : Nat) (Option.none : Option Jvm.ClassFile.FieldType)) ∈ gw := gw_in (List.mem_of_getElem? (i := 82) (by decide +kernel)) (by decide +kernel)
theorem w_83 : (Jvm.Cond.classLink "GrantMath" (33 : Nat) "java/lang/IllegalArgumentException") ∈ gw := gw_in (List.mem_of_getElem? (i := 83) (by decide +kernel)) (by decide +kernel)
theorem w_84 : (Jvm.Cond.instantiable "java/lang/IllegalArgumentException" (6 : Nat)) ∈ gw := gw_in (List.mem_of_getElem? (i := 84) (by decide +kernel)) (by decide +kernel)
theorem w_92 : (Jvm.Cond.selects "java/lang/IllegalArgumentException" ({ cls := "java/lang/Throwable", name := "fillInStackTrace", desc := "(I)Ljava/lang/Throwable;" } : Jvm.MethodName) ({ cls := "java/lang/Throwable", name := "fillInStackTrace", desc := "(I)Ljava/lang/Throwable;" } : Jvm.MethodName)) ∈ gw := gw_in (List.mem_of_getElem? (i := 92) (by decide +kernel)) (by decide +kernel)
theorem w_93 : (Jvm.Cond.selects "java/lang/IllegalArgumentException" ({ cls := "java/lang/Throwable", name := "fillInStackTrace", desc := "()Ljava/lang/Throwable;" } : Jvm.MethodName) ({ cls := "java/lang/Throwable", name := "fillInStackTrace", desc := "()Ljava/lang/Throwable;" } : Jvm.MethodName)) ∈ gw := gw_in (List.mem_of_getElem? (i := 93) (by decide +kernel)) (by decide +kernel)
theorem w_94 : (Jvm.Cond.lays "java/lang/IllegalArgumentException" "java/lang/Throwable" "cause" "Ljava/lang/Throwable;") ∈ gw := gw_in (List.mem_of_getElem? (i := 94) (by decide +kernel)) (by decide +kernel)
theorem w_95 : (Jvm.Cond.lays "java/lang/Throwable" "java/lang/Throwable" "cause" "Ljava/lang/Throwable;") ∈ gw := gw_in (List.mem_of_getElem? (i := 95) (by decide +kernel)) (by decide +kernel)
theorem w_96 : (Jvm.Cond.lays "java/lang/IllegalArgumentException" "java/lang/Throwable" "stackTrace" "[Ljava/lang/StackTraceElement;") ∈ gw := gw_in (List.mem_of_getElem? (i := 96) (by decide +kernel)) (by decide +kernel)
theorem w_97 : (Jvm.Cond.lays "java/lang/Throwable" "java/lang/Throwable" "stackTrace" "[Ljava/lang/StackTraceElement;") ∈ gw := gw_in (List.mem_of_getElem? (i := 97) (by decide +kernel)) (by decide +kernel)
theorem w_98 : (Jvm.Cond.lays "java/lang/IllegalArgumentException" "java/lang/Throwable" "suppressedExceptions" "Ljava/util/List;") ∈ gw := gw_in (List.mem_of_getElem? (i := 98) (by decide +kernel)) (by decide +kernel)
theorem w_99 : (Jvm.Cond.lays "java/lang/Throwable" "java/lang/Throwable" "suppressedExceptions" "Ljava/util/List;") ∈ gw := gw_in (List.mem_of_getElem? (i := 99) (by decide +kernel)) (by decide +kernel)
theorem w_100 : (Jvm.Cond.lays "java/lang/IllegalArgumentException" "java/lang/Throwable" "detailMessage" "Ljava/lang/String;") ∈ gw := gw_in (List.mem_of_getElem? (i := 100) (by decide +kernel)) (by decide +kernel)
theorem w_101 : (Jvm.Cond.lays "java/lang/Throwable" "java/lang/Throwable" "detailMessage" "Ljava/lang/String;") ∈ gw := gw_in (List.mem_of_getElem? (i := 101) (by decide +kernel)) (by decide +kernel)
theorem w_102 : (Jvm.Cond.lays "java/lang/IllegalArgumentException" "java/lang/Throwable" "backtrace" "Ljava/lang/Object;") ∈ gw := gw_in (List.mem_of_getElem? (i := 102) (by decide +kernel)) (by decide +kernel)
theorem w_103 : (Jvm.Cond.lays "java/lang/Throwable" "java/lang/Throwable" "backtrace" "Ljava/lang/Object;") ∈ gw := gw_in (List.mem_of_getElem? (i := 103) (by decide +kernel)) (by decide +kernel)
theorem w_104 : (Jvm.Cond.fieldLink "java/lang/Throwable" (198 : Nat) "java/lang/Throwable" "backtrace" "Ljava/lang/Object;") ∈ gw := gw_in (List.mem_of_getElem? (i := 104) (by decide +kernel)) (by decide +kernel)
theorem w_105 : (Jvm.Cond.superclass "java/lang/Throwable" "java/lang/Object") ∈ gw := gw_in (List.mem_of_getElem? (i := 105) (by decide +kernel)) (by decide +kernel)
theorem w_106 : (Jvm.Cond.instanceMethod ({ cls := "java/lang/Throwable", name := "<init>", desc := "()V" } : Jvm.MethodName)) ∈ gw := gw_in (List.mem_of_getElem? (i := 106) (by decide +kernel)) (by decide +kernel)
theorem w_107 : (Jvm.Cond.code ({ cls := "java/lang/Throwable", name := "<init>", desc := "()V" } : Jvm.MethodName) prog_9_method_1_code (1 : Nat) (Option.none : Option Jvm.ClassFile.FieldType)) ∈ gw := gw_in (List.mem_of_getElem? (i := 107) (by decide +kernel)) (by decide +kernel)
theorem w_108 : (Jvm.Cond.methodLink "java/lang/Throwable" (1 : Nat) ({ cls := "java/lang/Object", name := "<init>", desc := "()V" } : Jvm.MethodName)) ∈ gw := gw_in (List.mem_of_getElem? (i := 108) (by decide +kernel)) (by decide +kernel)
theorem w_109 : (Jvm.Cond.fieldLink "java/lang/Throwable" (13 : Nat) "java/lang/Throwable" "UNASSIGNED_STACK" "[Ljava/lang/StackTraceElement;") ∈ gw := gw_in (List.mem_of_getElem? (i := 109) (by decide +kernel)) (by decide +kernel)
theorem w_111 : (Jvm.Cond.fieldLink "java/lang/Throwable" (20 : Nat) "java/lang/Throwable" "SUPPRESSED_SENTINEL" "Ljava/util/List;") ∈ gw := gw_in (List.mem_of_getElem? (i := 111) (by decide +kernel)) (by decide +kernel)
theorem w_113 : (Jvm.Cond.methodLink "java/lang/Throwable" (27 : Nat) ({ cls := "java/lang/Throwable", name := "fillInStackTrace", desc := "()Ljava/lang/Throwable;" } : Jvm.MethodName)) ∈ gw := gw_in (List.mem_of_getElem? (i := 113) (by decide +kernel)) (by decide +kernel)
theorem w_114 : (Jvm.Cond.instanceMethod ({ cls := "java/lang/Throwable", name := "fillInStackTrace", desc := "()Ljava/lang/Throwable;" } : Jvm.MethodName)) ∈ gw := gw_in (List.mem_of_getElem? (i := 114) (by decide +kernel)) (by decide +kernel)
theorem w_115 : (Jvm.Cond.sameMethod "java/lang/Throwable" "java/lang/Throwable" "fillInStackTrace" "()Ljava/lang/Throwable;") ∈ gw := gw_in (List.mem_of_getElem? (i := 115) (by decide +kernel)) (by decide +kernel)
theorem w_116 : (Jvm.Cond.selects "java/lang/IndexOutOfBoundsException" ({ cls := "java/lang/Throwable", name := "fillInStackTrace", desc := "()Ljava/lang/Throwable;" } : Jvm.MethodName) ({ cls := "java/lang/Throwable", name := "fillInStackTrace", desc := "()Ljava/lang/Throwable;" } : Jvm.MethodName)) ∈ gw := gw_in (List.mem_of_getElem? (i := 116) (by decide +kernel)) (by decide +kernel)
theorem w_117 : (Jvm.Cond.codeSync ({ cls := "java/lang/Throwable", name := "fillInStackTrace", desc := "()Ljava/lang/Throwable;" } : Jvm.MethodName) prog_9_method_18_code (1 : Nat) (Option.some (Jvm.ClassFile.FieldType.object "java/lang/Throwable"))) ∈ gw := gw_in (List.mem_of_getElem? (i := 117) (by decide +kernel)) (by decide +kernel)
theorem w_118 : (Jvm.Cond.methodLink "java/lang/Throwable" (202 : Nat) ({ cls := "java/lang/Throwable", name := "fillInStackTrace", desc := "(I)Ljava/lang/Throwable;" } : Jvm.MethodName)) ∈ gw := gw_in (List.mem_of_getElem? (i := 118) (by decide +kernel)) (by decide +kernel)
theorem w_120 : (Jvm.Cond.instanceMethod ({ cls := "java/lang/Throwable", name := "fillInStackTrace", desc := "(I)Ljava/lang/Throwable;" } : Jvm.MethodName)) ∈ gw := gw_in (List.mem_of_getElem? (i := 120) (by decide +kernel)) (by decide +kernel)
theorem w_121 : (Jvm.Cond.instantiable "java/lang/Throwable" (6 : Nat)) ∈ gw := gw_in (List.mem_of_getElem? (i := 121) (by decide +kernel)) (by decide +kernel)
theorem w_122 : (Jvm.Cond.native ({ cls := "java/lang/Throwable", name := "fillInStackTrace", desc := "(I)Ljava/lang/Throwable;" } : Jvm.MethodName)) ∈ gw := gw_in (List.mem_of_getElem? (i := 122) (by decide +kernel)) (by decide +kernel)
theorem w_124 : (Jvm.Cond.methodLink "GrantMath" (37 : Nat) ({ cls := "java/lang/IllegalArgumentException", name := "<init>", desc := "(Ljava/lang/String;)V" } : Jvm.MethodName)) ∈ gw := gw_in (List.mem_of_getElem? (i := 124) (by decide +kernel)) (by decide +kernel)
theorem w_125 : (Jvm.Cond.instanceMethod ({ cls := "java/lang/IllegalArgumentException", name := "<init>", desc := "(Ljava/lang/String;)V" } : Jvm.MethodName)) ∈ gw := gw_in (List.mem_of_getElem? (i := 125) (by decide +kernel)) (by decide +kernel)
theorem w_126 : (Jvm.Cond.code ({ cls := "java/lang/IllegalArgumentException", name := "<init>", desc := "(Ljava/lang/String;)V" } : Jvm.MethodName) prog_5_method_2_code (2 : Nat) (Option.none : Option Jvm.ClassFile.FieldType)) ∈ gw := gw_in (List.mem_of_getElem? (i := 126) (by decide +kernel)) (by decide +kernel)
theorem w_127 : (Jvm.Cond.methodLink "java/lang/IllegalArgumentException" (7 : Nat) ({ cls := "java/lang/RuntimeException", name := "<init>", desc := "(Ljava/lang/String;)V" } : Jvm.MethodName)) ∈ gw := gw_in (List.mem_of_getElem? (i := 127) (by decide +kernel)) (by decide +kernel)
theorem w_128 : (Jvm.Cond.instanceMethod ({ cls := "java/lang/RuntimeException", name := "<init>", desc := "(Ljava/lang/String;)V" } : Jvm.MethodName)) ∈ gw := gw_in (List.mem_of_getElem? (i := 128) (by decide +kernel)) (by decide +kernel)
theorem w_129 : (Jvm.Cond.code ({ cls := "java/lang/RuntimeException", name := "<init>", desc := "(Ljava/lang/String;)V" } : Jvm.MethodName) prog_7_method_2_code (2 : Nat) (Option.none : Option Jvm.ClassFile.FieldType)) ∈ gw := gw_in (List.mem_of_getElem? (i := 129) (by decide +kernel)) (by decide +kernel)
theorem w_130 : (Jvm.Cond.methodLink "java/lang/RuntimeException" (7 : Nat) ({ cls := "java/lang/Exception", name := "<init>", desc := "(Ljava/lang/String;)V" } : Jvm.MethodName)) ∈ gw := gw_in (List.mem_of_getElem? (i := 130) (by decide +kernel)) (by decide +kernel)
theorem w_131 : (Jvm.Cond.instanceMethod ({ cls := "java/lang/Exception", name := "<init>", desc := "(Ljava/lang/String;)V" } : Jvm.MethodName)) ∈ gw := gw_in (List.mem_of_getElem? (i := 131) (by decide +kernel)) (by decide +kernel)
theorem w_132 : (Jvm.Cond.code ({ cls := "java/lang/Exception", name := "<init>", desc := "(Ljava/lang/String;)V" } : Jvm.MethodName) prog_4_method_2_code (2 : Nat) (Option.none : Option Jvm.ClassFile.FieldType)) ∈ gw := gw_in (List.mem_of_getElem? (i := 132) (by decide +kernel)) (by decide +kernel)
theorem w_133 : (Jvm.Cond.methodLink "java/lang/Exception" (7 : Nat) ({ cls := "java/lang/Throwable", name := "<init>", desc := "(Ljava/lang/String;)V" } : Jvm.MethodName)) ∈ gw := gw_in (List.mem_of_getElem? (i := 133) (by decide +kernel)) (by decide +kernel)
theorem w_134 : (Jvm.Cond.instanceMethod ({ cls := "java/lang/Throwable", name := "<init>", desc := "(Ljava/lang/String;)V" } : Jvm.MethodName)) ∈ gw := gw_in (List.mem_of_getElem? (i := 134) (by decide +kernel)) (by decide +kernel)
theorem w_135 : (Jvm.Cond.code ({ cls := "java/lang/Throwable", name := "<init>", desc := "(Ljava/lang/String;)V" } : Jvm.MethodName) prog_9_method_2_code (2 : Nat) (Option.none : Option Jvm.ClassFile.FieldType)) ∈ gw := gw_in (List.mem_of_getElem? (i := 135) (by decide +kernel)) (by decide +kernel)
theorem w_136 : (Jvm.Cond.fieldLink "java/lang/Throwable" (198 : Nat) "java/lang/Throwable" "backtrace" "Ljava/lang/Object;") ∈ gw := gw_in (List.mem_of_getElem? (i := 136) (by decide +kernel)) (by decide +kernel)
theorem w_137 : (Jvm.Cond.fieldLink "java/lang/Throwable" (31 : Nat) "java/lang/Throwable" "detailMessage" "Ljava/lang/String;") ∈ gw := gw_in (List.mem_of_getElem? (i := 137) (by decide +kernel)) (by decide +kernel)
theorem w_138 : (Jvm.Cond.fieldLink "java/lang/Throwable" (7 : Nat) "java/lang/Throwable" "cause" "Ljava/lang/Throwable;") ∈ gw := gw_in (List.mem_of_getElem? (i := 138) (by decide +kernel)) (by decide +kernel)
theorem w_139 : (Jvm.Cond.fieldLink "java/lang/Throwable" (17 : Nat) "java/lang/Throwable" "stackTrace" "[Ljava/lang/StackTraceElement;") ∈ gw := gw_in (List.mem_of_getElem? (i := 139) (by decide +kernel)) (by decide +kernel)
theorem w_140 : (Jvm.Cond.fieldLink "java/lang/Throwable" (24 : Nat) "java/lang/Throwable" "suppressedExceptions" "Ljava/util/List;") ∈ gw := gw_in (List.mem_of_getElem? (i := 140) (by decide +kernel)) (by decide +kernel)
theorem w_141 : (Jvm.Cond.soleField "java/lang/Throwable" "backtrace") ∈ gw := gw_in (List.mem_of_getElem? (i := 141) (by decide +kernel)) (by decide +kernel)
theorem w_142 : (Jvm.Cond.soleField "java/lang/Throwable" "detailMessage") ∈ gw := gw_in (List.mem_of_getElem? (i := 142) (by decide +kernel)) (by decide +kernel)
theorem w_143 : (Jvm.Cond.soleField "java/lang/Throwable" "cause") ∈ gw := gw_in (List.mem_of_getElem? (i := 143) (by decide +kernel)) (by decide +kernel)
theorem w_144 : (Jvm.Cond.soleField "java/lang/Throwable" "stackTrace") ∈ gw := gw_in (List.mem_of_getElem? (i := 144) (by decide +kernel)) (by decide +kernel)
theorem w_145 : (Jvm.Cond.lays "java/lang/IllegalArgumentException" "java/lang/Throwable" "depth" "I") ∈ gw := gw_in (List.mem_of_getElem? (i := 145) (by decide +kernel)) (by decide +kernel)
theorem w_146 : (Jvm.Cond.soleField "java/lang/Throwable" "depth") ∈ gw := gw_in (List.mem_of_getElem? (i := 146) (by decide +kernel)) (by decide +kernel)
theorem w_147 : (Jvm.Cond.soleField "java/lang/Throwable" "suppressedExceptions") ∈ gw := gw_in (List.mem_of_getElem? (i := 147) (by decide +kernel)) (by decide +kernel)
theorem w_148 : (Jvm.Cond.superclass "java/lang/IllegalArgumentException" "java/lang/RuntimeException") ∈ gw := gw_in (List.mem_of_getElem? (i := 148) (by decide +kernel)) (by decide +kernel)
theorem w_149 : (Jvm.Cond.arrayClass Jvm.ClassFile.FieldType.byte) ∈ gw := gw_in (List.mem_of_getElem? (i := 149) (by decide +kernel)) (by decide +kernel)
theorem w_151 : (Jvm.Cond.methodLink "GrantMath" (42 : Nat) ({ cls := "GrantMath", name := "requireGrant", desc := "(I)V" } : Jvm.MethodName)) ∈ gw := gw_in (List.mem_of_getElem? (i := 151) (by decide +kernel)) (by decide +kernel)
theorem w_152 : (Jvm.Cond.static ({ cls := "GrantMath", name := "requireGrant", desc := "(I)V" } : Jvm.MethodName)) ∈ gw := gw_in (List.mem_of_getElem? (i := 152) (by decide +kernel)) (by decide +kernel)
theorem w_153 : (Jvm.Cond.code ({ cls := "GrantMath", name := "requireGrant", desc := "(I)V" } : Jvm.MethodName) prog_1_method_13_code (1 : Nat) (Option.none : Option Jvm.ClassFile.FieldType)) ∈ gw := gw_in (List.mem_of_getElem? (i := 153) (by decide +kernel)) (by decide +kernel)
theorem w_154 : (Jvm.Cond.classLink "GrantMath" (78 : Nat) "java/lang/IndexOutOfBoundsException") ∈ gw := gw_in (List.mem_of_getElem? (i := 154) (by decide +kernel)) (by decide +kernel)
theorem w_155 : (Jvm.Cond.instantiable "java/lang/IndexOutOfBoundsException" (6 : Nat)) ∈ gw := gw_in (List.mem_of_getElem? (i := 155) (by decide +kernel)) (by decide +kernel)
theorem w_157 : (Jvm.Cond.selects "java/lang/IndexOutOfBoundsException" ({ cls := "java/lang/Throwable", name := "fillInStackTrace", desc := "(I)Ljava/lang/Throwable;" } : Jvm.MethodName) ({ cls := "java/lang/Throwable", name := "fillInStackTrace", desc := "(I)Ljava/lang/Throwable;" } : Jvm.MethodName)) ∈ gw := gw_in (List.mem_of_getElem? (i := 157) (by decide +kernel)) (by decide +kernel)
theorem w_158 : (Jvm.Cond.lays "java/lang/IndexOutOfBoundsException" "java/lang/Throwable" "cause" "Ljava/lang/Throwable;") ∈ gw := gw_in (List.mem_of_getElem? (i := 158) (by decide +kernel)) (by decide +kernel)
theorem w_159 : (Jvm.Cond.lays "java/lang/IndexOutOfBoundsException" "java/lang/Throwable" "stackTrace" "[Ljava/lang/StackTraceElement;") ∈ gw := gw_in (List.mem_of_getElem? (i := 159) (by decide +kernel)) (by decide +kernel)
theorem w_160 : (Jvm.Cond.lays "java/lang/IndexOutOfBoundsException" "java/lang/Throwable" "suppressedExceptions" "Ljava/util/List;") ∈ gw := gw_in (List.mem_of_getElem? (i := 160) (by decide +kernel)) (by decide +kernel)
theorem w_161 : (Jvm.Cond.lays "java/lang/IndexOutOfBoundsException" "java/lang/Throwable" "detailMessage" "Ljava/lang/String;") ∈ gw := gw_in (List.mem_of_getElem? (i := 161) (by decide +kernel)) (by decide +kernel)
theorem w_162 : (Jvm.Cond.lays "java/lang/IndexOutOfBoundsException" "java/lang/Throwable" "backtrace" "Ljava/lang/Object;") ∈ gw := gw_in (List.mem_of_getElem? (i := 162) (by decide +kernel)) (by decide +kernel)
theorem w_164 : (Jvm.Cond.methodLink "GrantMath" (82 : Nat) ({ cls := "java/lang/IndexOutOfBoundsException", name := "<init>", desc := "(Ljava/lang/String;)V" } : Jvm.MethodName)) ∈ gw := gw_in (List.mem_of_getElem? (i := 164) (by decide +kernel)) (by decide +kernel)
theorem w_165 : (Jvm.Cond.instanceMethod ({ cls := "java/lang/IndexOutOfBoundsException", name := "<init>", desc := "(Ljava/lang/String;)V" } : Jvm.MethodName)) ∈ gw := gw_in (List.mem_of_getElem? (i := 165) (by decide +kernel)) (by decide +kernel)
theorem w_166 : (Jvm.Cond.code ({ cls := "java/lang/IndexOutOfBoundsException", name := "<init>", desc := "(Ljava/lang/String;)V" } : Jvm.MethodName) prog_6_method_2_code (2 : Nat) (Option.none : Option Jvm.ClassFile.FieldType)) ∈ gw := gw_in (List.mem_of_getElem? (i := 166) (by decide +kernel)) (by decide +kernel)
theorem w_167 : (Jvm.Cond.methodLink "java/lang/IndexOutOfBoundsException" (7 : Nat) ({ cls := "java/lang/RuntimeException", name := "<init>", desc := "(Ljava/lang/String;)V" } : Jvm.MethodName)) ∈ gw := gw_in (List.mem_of_getElem? (i := 167) (by decide +kernel)) (by decide +kernel)
theorem w_168 : (Jvm.Cond.lays "java/lang/IndexOutOfBoundsException" "java/lang/Throwable" "depth" "I") ∈ gw := gw_in (List.mem_of_getElem? (i := 168) (by decide +kernel)) (by decide +kernel)
theorem w_169 : (Jvm.Cond.superclass "java/lang/IndexOutOfBoundsException" "java/lang/RuntimeException") ∈ gw := gw_in (List.mem_of_getElem? (i := 169) (by decide +kernel)) (by decide +kernel)
theorem w_170 : (Jvm.Cond.methodLink "GrantMathLaw" (65 : Nat) ({ cls := "GrantMathLaw", name := "number", desc := "(LGrantMath;II)I" } : Jvm.MethodName)) ∈ gw := gw_in (List.mem_of_getElem? (i := 170) (by decide +kernel)) (by decide +kernel)
theorem w_171 : (Jvm.Cond.static ({ cls := "GrantMathLaw", name := "number", desc := "(LGrantMath;II)I" } : Jvm.MethodName)) ∈ gw := gw_in (List.mem_of_getElem? (i := 171) (by decide +kernel)) (by decide +kernel)
theorem w_172 : (Jvm.Cond.codeWith ({ cls := "GrantMathLaw", name := "number", desc := "(LGrantMath;II)I" } : Jvm.MethodName) method_4_code (4 : Nat) (Option.some Jvm.ClassFile.FieldType.int) [((0 : Nat), (6 : Nat), (9 : Nat), (15 : Nat))]) ∈ gw := gw_in (List.mem_of_getElem? (i := 172) (by decide +kernel)) (by decide +kernel)
theorem w_173 : (Jvm.Cond.methodLink "GrantMathLaw" (17 : Nat) ({ cls := "GrantMath", name := "number", desc := "(II)V" } : Jvm.MethodName)) ∈ gw := gw_in (List.mem_of_getElem? (i := 173) (by decide +kernel)) (by decide +kernel)
theorem w_174 : (Jvm.Cond.instanceMethod ({ cls := "GrantMath", name := "number", desc := "(II)V" } : Jvm.MethodName)) ∈ gw := gw_in (List.mem_of_getElem? (i := 174) (by decide +kernel)) (by decide +kernel)
theorem w_175 : (Jvm.Cond.selects "GrantMath" ({ cls := "GrantMath", name := "number", desc := "(II)V" } : Jvm.MethodName) ({ cls := "GrantMath", name := "number", desc := "(II)V" } : Jvm.MethodName)) ∈ gw := gw_in (List.mem_of_getElem? (i := 175) (by decide +kernel)) (by decide +kernel)
theorem w_176 : (Jvm.Cond.code ({ cls := "GrantMath", name := "number", desc := "(II)V" } : Jvm.MethodName) prog_1_method_3_code (3 : Nat) (Option.none : Option Jvm.ClassFile.FieldType)) ∈ gw := gw_in (List.mem_of_getElem? (i := 176) (by decide +kernel)) (by decide +kernel)
theorem w_177 : (Jvm.Cond.methodLink "GrantMathLaw" (69 : Nat) ({ cls := "GrantMathLaw", name := "move", desc := "(LGrantMath;III)I" } : Jvm.MethodName)) ∈ gw := gw_in (List.mem_of_getElem? (i := 177) (by decide +kernel)) (by decide +kernel)
theorem w_178 : (Jvm.Cond.static ({ cls := "GrantMathLaw", name := "move", desc := "(LGrantMath;III)I" } : Jvm.MethodName)) ∈ gw := gw_in (List.mem_of_getElem? (i := 178) (by decide +kernel)) (by decide +kernel)
theorem w_179 : (Jvm.Cond.codeWith ({ cls := "GrantMathLaw", name := "move", desc := "(LGrantMath;III)I" } : Jvm.MethodName) method_5_code (5 : Nat) (Option.some Jvm.ClassFile.FieldType.int) [((0 : Nat), (7 : Nat), (10 : Nat), (15 : Nat))]) ∈ gw := gw_in (List.mem_of_getElem? (i := 179) (by decide +kernel)) (by decide +kernel)
theorem w_180 : (Jvm.Cond.methodLink "GrantMathLaw" (21 : Nat) ({ cls := "GrantMath", name := "move", desc := "(III)V" } : Jvm.MethodName)) ∈ gw := gw_in (List.mem_of_getElem? (i := 180) (by decide +kernel)) (by decide +kernel)
theorem w_181 : (Jvm.Cond.instanceMethod ({ cls := "GrantMath", name := "move", desc := "(III)V" } : Jvm.MethodName)) ∈ gw := gw_in (List.mem_of_getElem? (i := 181) (by decide +kernel)) (by decide +kernel)
theorem w_182 : (Jvm.Cond.selects "GrantMath" ({ cls := "GrantMath", name := "move", desc := "(III)V" } : Jvm.MethodName) ({ cls := "GrantMath", name := "move", desc := "(III)V" } : Jvm.MethodName)) ∈ gw := gw_in (List.mem_of_getElem? (i := 182) (by decide +kernel)) (by decide +kernel)
theorem w_183 : (Jvm.Cond.code ({ cls := "GrantMath", name := "move", desc := "(III)V" } : Jvm.MethodName) prog_1_method_4_code (5 : Nat) (Option.none : Option Jvm.ClassFile.FieldType)) ∈ gw := gw_in (List.mem_of_getElem? (i := 183) (by decide +kernel)) (by decide +kernel)
theorem w_184 : (Jvm.Cond.methodLink "GrantMath" (50 : Nat) ({ cls := "GrantMath", name := "copy", desc := "(II)V" } : Jvm.MethodName)) ∈ gw := gw_in (List.mem_of_getElem? (i := 184) (by decide +kernel)) (by decide +kernel)
theorem w_186 : (Jvm.Cond.instanceMethod ({ cls := "GrantMath", name := "copy", desc := "(II)V" } : Jvm.MethodName)) ∈ gw := gw_in (List.mem_of_getElem? (i := 186) (by decide +kernel)) (by decide +kernel)
theorem w_187 : (Jvm.Cond.code ({ cls := "GrantMath", name := "copy", desc := "(II)V" } : Jvm.MethodName) prog_1_method_15_code (3 : Nat) (Option.none : Option Jvm.ClassFile.FieldType)) ∈ gw := gw_in (List.mem_of_getElem? (i := 187) (by decide +kernel)) (by decide +kernel)
theorem w_188 : (Jvm.Cond.methodLink "GrantMathLaw" (73 : Nat) ({ cls := "GrantMathLaw", name := "narrow", desc := "(LGrantMath;III[J)I" } : Jvm.MethodName)) ∈ gw := gw_in (List.mem_of_getElem? (i := 188) (by decide +kernel)) (by decide +kernel)
theorem w_189 : (Jvm.Cond.static ({ cls := "GrantMathLaw", name := "narrow", desc := "(LGrantMath;III[J)I" } : Jvm.MethodName)) ∈ gw := gw_in (List.mem_of_getElem? (i := 189) (by decide +kernel)) (by decide +kernel)
theorem w_190 : (Jvm.Cond.codeWith ({ cls := "GrantMathLaw", name := "narrow", desc := "(LGrantMath;III[J)I" } : Jvm.MethodName) method_6_code (6 : Nat) (Option.some Jvm.ClassFile.FieldType.int) [((0 : Nat), (19 : Nat), (22 : Nat), (15 : Nat))]) ∈ gw := gw_in (List.mem_of_getElem? (i := 190) (by decide +kernel)) (by decide +kernel)
theorem w_191 : (Jvm.Cond.methodLink "GrantMathLaw" (25 : Nat) ({ cls := "GrantMath", name := "narrow", desc := "(III)Z" } : Jvm.MethodName)) ∈ gw := gw_in (List.mem_of_getElem? (i := 191) (by decide +kernel)) (by decide +kernel)
theorem w_192 : (Jvm.Cond.instanceMethod ({ cls := "GrantMath", name := "narrow", desc := "(III)Z" } : Jvm.MethodName)) ∈ gw := gw_in (List.mem_of_getElem? (i := 192) (by decide +kernel)) (by decide +kernel)
theorem w_193 : (Jvm.Cond.selects "GrantMath" ({ cls := "GrantMath", name := "narrow", desc := "(III)Z" } : Jvm.MethodName) ({ cls := "GrantMath", name := "narrow", desc := "(III)Z" } : Jvm.MethodName)) ∈ gw := gw_in (List.mem_of_getElem? (i := 193) (by decide +kernel)) (by decide +kernel)
theorem w_194 : (Jvm.Cond.code ({ cls := "GrantMath", name := "narrow", desc := "(III)Z" } : Jvm.MethodName) prog_1_method_5_code (5 : Nat) (Option.some Jvm.ClassFile.FieldType.boolean)) ∈ gw := gw_in (List.mem_of_getElem? (i := 194) (by decide +kernel)) (by decide +kernel)
theorem w_195 : (Jvm.Cond.methodLink "GrantMathLaw" (77 : Nat) ({ cls := "GrantMathLaw", name := "restrict", desc := "(LGrantMath;III[J)I" } : Jvm.MethodName)) ∈ gw := gw_in (List.mem_of_getElem? (i := 195) (by decide +kernel)) (by decide +kernel)
theorem w_196 : (Jvm.Cond.static ({ cls := "GrantMathLaw", name := "restrict", desc := "(LGrantMath;III[J)I" } : Jvm.MethodName)) ∈ gw := gw_in (List.mem_of_getElem? (i := 196) (by decide +kernel)) (by decide +kernel)
theorem w_197 : (Jvm.Cond.codeWith ({ cls := "GrantMathLaw", name := "restrict", desc := "(LGrantMath;III[J)I" } : Jvm.MethodName) method_7_code (6 : Nat) (Option.some Jvm.ClassFile.FieldType.int) [((0 : Nat), (19 : Nat), (22 : Nat), (15 : Nat))]) ∈ gw := gw_in (List.mem_of_getElem? (i := 197) (by decide +kernel)) (by decide +kernel)
theorem w_198 : (Jvm.Cond.methodLink "GrantMathLaw" (29 : Nat) ({ cls := "GrantMath", name := "restrict", desc := "(III)Z" } : Jvm.MethodName)) ∈ gw := gw_in (List.mem_of_getElem? (i := 198) (by decide +kernel)) (by decide +kernel)
theorem w_199 : (Jvm.Cond.instanceMethod ({ cls := "GrantMath", name := "restrict", desc := "(III)Z" } : Jvm.MethodName)) ∈ gw := gw_in (List.mem_of_getElem? (i := 199) (by decide +kernel)) (by decide +kernel)
theorem w_200 : (Jvm.Cond.selects "GrantMath" ({ cls := "GrantMath", name := "restrict", desc := "(III)Z" } : Jvm.MethodName) ({ cls := "GrantMath", name := "restrict", desc := "(III)Z" } : Jvm.MethodName)) ∈ gw := gw_in (List.mem_of_getElem? (i := 200) (by decide +kernel)) (by decide +kernel)
theorem w_201 : (Jvm.Cond.code ({ cls := "GrantMath", name := "restrict", desc := "(III)Z" } : Jvm.MethodName) prog_1_method_6_code (6 : Nat) (Option.some Jvm.ClassFile.FieldType.boolean)) ∈ gw := gw_in (List.mem_of_getElem? (i := 201) (by decide +kernel)) (by decide +kernel)
theorem w_202 : (Jvm.Cond.methodLink "GrantMathLaw" (80 : Nat) ({ cls := "GrantMathLaw", name := "seal", desc := "(LGrantMath;III[J)I" } : Jvm.MethodName)) ∈ gw := gw_in (List.mem_of_getElem? (i := 202) (by decide +kernel)) (by decide +kernel)
theorem w_203 : (Jvm.Cond.static ({ cls := "GrantMathLaw", name := "seal", desc := "(LGrantMath;III[J)I" } : Jvm.MethodName)) ∈ gw := gw_in (List.mem_of_getElem? (i := 203) (by decide +kernel)) (by decide +kernel)
theorem w_204 : (Jvm.Cond.codeWith ({ cls := "GrantMathLaw", name := "seal", desc := "(LGrantMath;III[J)I" } : Jvm.MethodName) method_8_code (6 : Nat) (Option.some Jvm.ClassFile.FieldType.int) [((0 : Nat), (12 : Nat), (15 : Nat), (15 : Nat))]) ∈ gw := gw_in (List.mem_of_getElem? (i := 204) (by decide +kernel)) (by decide +kernel)
theorem w_205 : (Jvm.Cond.methodLink "GrantMathLaw" (32 : Nat) ({ cls := "GrantMath", name := "seal", desc := "(III)I" } : Jvm.MethodName)) ∈ gw := gw_in (List.mem_of_getElem? (i := 205) (by decide +kernel)) (by decide +kernel)
theorem w_206 : (Jvm.Cond.instanceMethod ({ cls := "GrantMath", name := "seal", desc := "(III)I" } : Jvm.MethodName)) ∈ gw := gw_in (List.mem_of_getElem? (i := 206) (by decide +kernel)) (by decide +kernel)
theorem w_207 : (Jvm.Cond.selects "GrantMath" ({ cls := "GrantMath", name := "seal", desc := "(III)I" } : Jvm.MethodName) ({ cls := "GrantMath", name := "seal", desc := "(III)I" } : Jvm.MethodName)) ∈ gw := gw_in (List.mem_of_getElem? (i := 207) (by decide +kernel)) (by decide +kernel)
theorem w_208 : (Jvm.Cond.code ({ cls := "GrantMath", name := "seal", desc := "(III)I" } : Jvm.MethodName) prog_1_method_7_code (6 : Nat) (Option.some Jvm.ClassFile.FieldType.int)) ∈ gw := gw_in (List.mem_of_getElem? (i := 208) (by decide +kernel)) (by decide +kernel)
theorem w_209 : (Jvm.Cond.methodLink "GrantMath" (58 : Nat) ({ cls := "GrantMath", name := "sealingCause", desc := "(II)I" } : Jvm.MethodName)) ∈ gw := gw_in (List.mem_of_getElem? (i := 209) (by decide +kernel)) (by decide +kernel)
theorem w_211 : (Jvm.Cond.instanceMethod ({ cls := "GrantMath", name := "sealingCause", desc := "(II)I" } : Jvm.MethodName)) ∈ gw := gw_in (List.mem_of_getElem? (i := 211) (by decide +kernel)) (by decide +kernel)
theorem w_212 : (Jvm.Cond.code ({ cls := "GrantMath", name := "sealingCause", desc := "(II)I" } : Jvm.MethodName) prog_1_method_20_code (5 : Nat) (Option.some Jvm.ClassFile.FieldType.int)) ∈ gw := gw_in (List.mem_of_getElem? (i := 212) (by decide +kernel)) (by decide +kernel)
theorem w_213 : (Jvm.Cond.constant "GrantMath" (85 : Nat) (65535 : Int32)) ∈ gw := gw_in (List.mem_of_getElem? (i := 213) (by decide +kernel)) (by decide +kernel)
theorem w_214 : (Jvm.Cond.methodLink "GrantMathLaw" (83 : Nat) ({ cls := "GrantMathLaw", name := "unseal", desc := "(LGrantMath;III[J)I" } : Jvm.MethodName)) ∈ gw := gw_in (List.mem_of_getElem? (i := 214) (by decide +kernel)) (by decide +kernel)
theorem w_215 : (Jvm.Cond.static ({ cls := "GrantMathLaw", name := "unseal", desc := "(LGrantMath;III[J)I" } : Jvm.MethodName)) ∈ gw := gw_in (List.mem_of_getElem? (i := 215) (by decide +kernel)) (by decide +kernel)
theorem w_216 : (Jvm.Cond.codeWith ({ cls := "GrantMathLaw", name := "unseal", desc := "(LGrantMath;III[J)I" } : Jvm.MethodName) method_9_code (6 : Nat) (Option.some Jvm.ClassFile.FieldType.int) [((0 : Nat), (12 : Nat), (15 : Nat), (15 : Nat))]) ∈ gw := gw_in (List.mem_of_getElem? (i := 216) (by decide +kernel)) (by decide +kernel)
theorem w_217 : (Jvm.Cond.methodLink "GrantMathLaw" (36 : Nat) ({ cls := "GrantMath", name := "unseal", desc := "(III)I" } : Jvm.MethodName)) ∈ gw := gw_in (List.mem_of_getElem? (i := 217) (by decide +kernel)) (by decide +kernel)
theorem w_218 : (Jvm.Cond.instanceMethod ({ cls := "GrantMath", name := "unseal", desc := "(III)I" } : Jvm.MethodName)) ∈ gw := gw_in (List.mem_of_getElem? (i := 218) (by decide +kernel)) (by decide +kernel)
theorem w_219 : (Jvm.Cond.selects "GrantMath" ({ cls := "GrantMath", name := "unseal", desc := "(III)I" } : Jvm.MethodName) ({ cls := "GrantMath", name := "unseal", desc := "(III)I" } : Jvm.MethodName)) ∈ gw := gw_in (List.mem_of_getElem? (i := 219) (by decide +kernel)) (by decide +kernel)
theorem w_220 : (Jvm.Cond.code ({ cls := "GrantMath", name := "unseal", desc := "(III)I" } : Jvm.MethodName) prog_1_method_8_code (5 : Nat) (Option.some Jvm.ClassFile.FieldType.int)) ∈ gw := gw_in (List.mem_of_getElem? (i := 220) (by decide +kernel)) (by decide +kernel)
theorem w_221 : (Jvm.Cond.methodLink "GrantMath" (62 : Nat) ({ cls := "GrantMath", name := "unsealingCause", desc := "(II)I" } : Jvm.MethodName)) ∈ gw := gw_in (List.mem_of_getElem? (i := 221) (by decide +kernel)) (by decide +kernel)
theorem w_223 : (Jvm.Cond.instanceMethod ({ cls := "GrantMath", name := "unsealingCause", desc := "(II)I" } : Jvm.MethodName)) ∈ gw := gw_in (List.mem_of_getElem? (i := 223) (by decide +kernel)) (by decide +kernel)
theorem w_224 : (Jvm.Cond.code ({ cls := "GrantMath", name := "unsealingCause", desc := "(II)I" } : Jvm.MethodName) prog_1_method_21_code (4 : Nat) (Option.some Jvm.ClassFile.FieldType.int)) ∈ gw := gw_in (List.mem_of_getElem? (i := 224) (by decide +kernel)) (by decide +kernel)
theorem w_225 : (Jvm.Cond.methodLink "GrantMathLaw" (86 : Nat) ({ cls := "GrantMathLaw", name := "allows", desc := "(LGrantMath;IIII[J)I" } : Jvm.MethodName)) ∈ gw := gw_in (List.mem_of_getElem? (i := 225) (by decide +kernel)) (by decide +kernel)
theorem w_226 : (Jvm.Cond.static ({ cls := "GrantMathLaw", name := "allows", desc := "(LGrantMath;IIII[J)I" } : Jvm.MethodName)) ∈ gw := gw_in (List.mem_of_getElem? (i := 226) (by decide +kernel)) (by decide +kernel)
theorem w_227 : (Jvm.Cond.codeWith ({ cls := "GrantMathLaw", name := "allows", desc := "(LGrantMath;IIII[J)I" } : Jvm.MethodName) method_10_code (7 : Nat) (Option.some Jvm.ClassFile.FieldType.int) [((0 : Nat), (14 : Nat), (17 : Nat), (13 : Nat)), ((0 : Nat), (14 : Nat), (21 : Nat), (15 : Nat))]) ∈ gw := gw_in (List.mem_of_getElem? (i := 227) (by decide +kernel)) (by decide +kernel)
theorem w_228 : (Jvm.Cond.methodLink "GrantMathLaw" (39 : Nat) ({ cls := "GrantMath", name := "allows", desc := "(IIII)I" } : Jvm.MethodName)) ∈ gw := gw_in (List.mem_of_getElem? (i := 228) (by decide +kernel)) (by decide +kernel)
theorem w_229 : (Jvm.Cond.instanceMethod ({ cls := "GrantMath", name := "allows", desc := "(IIII)I" } : Jvm.MethodName)) ∈ gw := gw_in (List.mem_of_getElem? (i := 229) (by decide +kernel)) (by decide +kernel)
theorem w_230 : (Jvm.Cond.selects "GrantMath" ({ cls := "GrantMath", name := "allows", desc := "(IIII)I" } : Jvm.MethodName) ({ cls := "GrantMath", name := "allows", desc := "(IIII)I" } : Jvm.MethodName)) ∈ gw := gw_in (List.mem_of_getElem? (i := 230) (by decide +kernel)) (by decide +kernel)
theorem w_231 : (Jvm.Cond.code ({ cls := "GrantMath", name := "allows", desc := "(IIII)I" } : Jvm.MethodName) prog_1_method_9_code (5 : Nat) (Option.some Jvm.ClassFile.FieldType.int)) ∈ gw := gw_in (List.mem_of_getElem? (i := 231) (by decide +kernel)) (by decide +kernel)
theorem w_232 : (Jvm.Cond.constant "GrantMath" (65 : Nat) (65536 : Int32)) ∈ gw := gw_in (List.mem_of_getElem? (i := 232) (by decide +kernel)) (by decide +kernel)
theorem w_234 : (Jvm.Cond.methodLink "GrantMathLaw" (90 : Nat) ({ cls := "GrantMathLaw", name := "within", desc := "(LGrantMath;II[J)I" } : Jvm.MethodName)) ∈ gw := gw_in (List.mem_of_getElem? (i := 234) (by decide +kernel)) (by decide +kernel)
theorem w_235 : (Jvm.Cond.static ({ cls := "GrantMathLaw", name := "within", desc := "(LGrantMath;II[J)I" } : Jvm.MethodName)) ∈ gw := gw_in (List.mem_of_getElem? (i := 235) (by decide +kernel)) (by decide +kernel)
theorem w_236 : (Jvm.Cond.codeWith ({ cls := "GrantMathLaw", name := "within", desc := "(LGrantMath;II[J)I" } : Jvm.MethodName) method_11_code (5 : Nat) (Option.some Jvm.ClassFile.FieldType.int) [((0 : Nat), (17 : Nat), (20 : Nat), (15 : Nat))]) ∈ gw := gw_in (List.mem_of_getElem? (i := 236) (by decide +kernel)) (by decide +kernel)
theorem w_237 : (Jvm.Cond.methodLink "GrantMathLaw" (43 : Nat) ({ cls := "GrantMath", name := "within", desc := "(II)Z" } : Jvm.MethodName)) ∈ gw := gw_in (List.mem_of_getElem? (i := 237) (by decide +kernel)) (by decide +kernel)
theorem w_238 : (Jvm.Cond.instanceMethod ({ cls := "GrantMath", name := "within", desc := "(II)Z" } : Jvm.MethodName)) ∈ gw := gw_in (List.mem_of_getElem? (i := 238) (by decide +kernel)) (by decide +kernel)
theorem w_239 : (Jvm.Cond.selects "GrantMath" ({ cls := "GrantMath", name := "within", desc := "(II)Z" } : Jvm.MethodName) ({ cls := "GrantMath", name := "within", desc := "(II)Z" } : Jvm.MethodName)) ∈ gw := gw_in (List.mem_of_getElem? (i := 239) (by decide +kernel)) (by decide +kernel)
theorem w_240 : (Jvm.Cond.code ({ cls := "GrantMath", name := "within", desc := "(II)Z" } : Jvm.MethodName) prog_1_method_10_code (3 : Nat) (Option.some Jvm.ClassFile.FieldType.boolean)) ∈ gw := gw_in (List.mem_of_getElem? (i := 240) (by decide +kernel)) (by decide +kernel)
theorem w_241 : (Jvm.Cond.methodLink "GrantMathLaw" (94 : Nat) ({ cls := "GrantMathLaw", name := "part", desc := "(LGrantMath;II[J)I" } : Jvm.MethodName)) ∈ gw := gw_in (List.mem_of_getElem? (i := 241) (by decide +kernel)) (by decide +kernel)
theorem w_242 : (Jvm.Cond.static ({ cls := "GrantMathLaw", name := "part", desc := "(LGrantMath;II[J)I" } : Jvm.MethodName)) ∈ gw := gw_in (List.mem_of_getElem? (i := 242) (by decide +kernel)) (by decide +kernel)
theorem w_243 : (Jvm.Cond.codeWith ({ cls := "GrantMathLaw", name := "part", desc := "(LGrantMath;II[J)I" } : Jvm.MethodName) method_12_code (5 : Nat) (Option.some Jvm.ClassFile.FieldType.int) [((0 : Nat), (10 : Nat), (13 : Nat), (13 : Nat)), ((0 : Nat), (10 : Nat), (17 : Nat), (15 : Nat))]) ∈ gw := gw_in (List.mem_of_getElem? (i := 243) (by decide +kernel)) (by decide +kernel)
theorem w_244 : (Jvm.Cond.methodLink "GrantMathLaw" (47 : Nat) ({ cls := "GrantMath", name := "part", desc := "(II)I" } : Jvm.MethodName)) ∈ gw := gw_in (List.mem_of_getElem? (i := 244) (by decide +kernel)) (by decide +kernel)
theorem w_245 : (Jvm.Cond.instanceMethod ({ cls := "GrantMath", name := "part", desc := "(II)I" } : Jvm.MethodName)) ∈ gw := gw_in (List.mem_of_getElem? (i := 245) (by decide +kernel)) (by decide +kernel)
theorem w_246 : (Jvm.Cond.selects "GrantMath" ({ cls := "GrantMath", name := "part", desc := "(II)I" } : Jvm.MethodName) ({ cls := "GrantMath", name := "part", desc := "(II)I" } : Jvm.MethodName)) ∈ gw := gw_in (List.mem_of_getElem? (i := 246) (by decide +kernel)) (by decide +kernel)
theorem w_247 : (Jvm.Cond.code ({ cls := "GrantMath", name := "part", desc := "(II)I" } : Jvm.MethodName) prog_1_method_11_code (3 : Nat) (Option.some Jvm.ClassFile.FieldType.int)) ∈ gw := gw_in (List.mem_of_getElem? (i := 247) (by decide +kernel)) (by decide +kernel)
theorem w_249 : (Jvm.Cond.classLink "GrantMathLaw" (52 : Nat) "GrantMathModel") ∈ gw := gw_in (List.mem_of_getElem? (i := 249) (by decide +kernel)) (by decide +kernel)
theorem w_250 : (Jvm.Cond.instantiable "GrantMathModel" (7 : Nat)) ∈ gw := gw_in (List.mem_of_getElem? (i := 250) (by decide +kernel)) (by decide +kernel)
theorem w_251 : (Jvm.Cond.methodLink "GrantMathLaw" (54 : Nat) ({ cls := "GrantMathModel", name := "<init>", desc := "()V" } : Jvm.MethodName)) ∈ gw := gw_in (List.mem_of_getElem? (i := 251) (by decide +kernel)) (by decide +kernel)
theorem w_252 : (Jvm.Cond.instanceMethod ({ cls := "GrantMathModel", name := "<init>", desc := "()V" } : Jvm.MethodName)) ∈ gw := gw_in (List.mem_of_getElem? (i := 252) (by decide +kernel)) (by decide +kernel)
theorem w_253 : (Jvm.Cond.code ({ cls := "GrantMathModel", name := "<init>", desc := "()V" } : Jvm.MethodName) prog_3_method_1_code (1 : Nat) (Option.none : Option Jvm.ClassFile.FieldType)) ∈ gw := gw_in (List.mem_of_getElem? (i := 253) (by decide +kernel)) (by decide +kernel)
theorem w_254 : (Jvm.Cond.methodLink "GrantMathModel" (1 : Nat) ({ cls := "java/lang/Object", name := "<init>", desc := "()V" } : Jvm.MethodName)) ∈ gw := gw_in (List.mem_of_getElem? (i := 254) (by decide +kernel)) (by decide +kernel)
theorem w_255 : (Jvm.Cond.fieldLink "GrantMathModel" (30 : Nat) "GrantMathModel" "err" "I") ∈ gw := gw_in (List.mem_of_getElem? (i := 255) (by decide +kernel)) (by decide +kernel)
theorem w_256 : (Jvm.Cond.fieldLink "GrantMathModel" (9 : Nat) "GrantMathModel" "address" "[J") ∈ gw := gw_in (List.mem_of_getElem? (i := 256) (by decide +kernel)) (by decide +kernel)
theorem w_257 : (Jvm.Cond.fieldLink "GrantMathModel" (13 : Nat) "GrantMathModel" "base" "[J") ∈ gw := gw_in (List.mem_of_getElem? (i := 257) (by decide +kernel)) (by decide +kernel)
theorem w_258 : (Jvm.Cond.fieldLink "GrantMathModel" (16 : Nat) "GrantMathModel" "top" "[J") ∈ gw := gw_in (List.mem_of_getElem? (i := 258) (by decide +kernel)) (by decide +kernel)
theorem w_259 : (Jvm.Cond.fieldLink "GrantMathModel" (19 : Nat) "GrantMathModel" "permissions" "[I") ∈ gw := gw_in (List.mem_of_getElem? (i := 259) (by decide +kernel)) (by decide +kernel)
theorem w_260 : (Jvm.Cond.fieldLink "GrantMathModel" (23 : Nat) "GrantMathModel" "type" "[I") ∈ gw := gw_in (List.mem_of_getElem? (i := 260) (by decide +kernel)) (by decide +kernel)
theorem w_261 : (Jvm.Cond.fieldLink "GrantMathModel" (26 : Nat) "GrantMathModel" "tag" "[Z") ∈ gw := gw_in (List.mem_of_getElem? (i := 261) (by decide +kernel)) (by decide +kernel)
theorem w_262 : (Jvm.Cond.lays "GrantMathModel" "GrantMathModel" "err" "I") ∈ gw := gw_in (List.mem_of_getElem? (i := 262) (by decide +kernel)) (by decide +kernel)
theorem w_263 : (Jvm.Cond.soleField "GrantMathModel" "err") ∈ gw := gw_in (List.mem_of_getElem? (i := 263) (by decide +kernel)) (by decide +kernel)
theorem w_264 : (Jvm.Cond.laysFinal "GrantMathModel" "GrantMathModel" "address" "[J") ∈ gw := gw_in (List.mem_of_getElem? (i := 264) (by decide +kernel)) (by decide +kernel)
theorem w_265 : (Jvm.Cond.soleField "GrantMathModel" "address") ∈ gw := gw_in (List.mem_of_getElem? (i := 265) (by decide +kernel)) (by decide +kernel)
theorem w_266 : (Jvm.Cond.laysFinal "GrantMathModel" "GrantMathModel" "base" "[J") ∈ gw := gw_in (List.mem_of_getElem? (i := 266) (by decide +kernel)) (by decide +kernel)
theorem w_267 : (Jvm.Cond.soleField "GrantMathModel" "base") ∈ gw := gw_in (List.mem_of_getElem? (i := 267) (by decide +kernel)) (by decide +kernel)
theorem w_268 : (Jvm.Cond.laysFinal "GrantMathModel" "GrantMathModel" "top" "[J") ∈ gw := gw_in (List.mem_of_getElem? (i := 268) (by decide +kernel)) (by decide +kernel)
theorem w_269 : (Jvm.Cond.soleField "GrantMathModel" "top") ∈ gw := gw_in (List.mem_of_getElem? (i := 269) (by decide +kernel)) (by decide +kernel)
theorem w_270 : (Jvm.Cond.laysFinal "GrantMathModel" "GrantMathModel" "permissions" "[I") ∈ gw := gw_in (List.mem_of_getElem? (i := 270) (by decide +kernel)) (by decide +kernel)
theorem w_271 : (Jvm.Cond.soleField "GrantMathModel" "permissions") ∈ gw := gw_in (List.mem_of_getElem? (i := 271) (by decide +kernel)) (by decide +kernel)
theorem w_272 : (Jvm.Cond.laysFinal "GrantMathModel" "GrantMathModel" "type" "[I") ∈ gw := gw_in (List.mem_of_getElem? (i := 272) (by decide +kernel)) (by decide +kernel)
theorem w_273 : (Jvm.Cond.soleField "GrantMathModel" "type") ∈ gw := gw_in (List.mem_of_getElem? (i := 273) (by decide +kernel)) (by decide +kernel)
theorem w_274 : (Jvm.Cond.laysFinal "GrantMathModel" "GrantMathModel" "tag" "[Z") ∈ gw := gw_in (List.mem_of_getElem? (i := 274) (by decide +kernel)) (by decide +kernel)
theorem w_275 : (Jvm.Cond.soleField "GrantMathModel" "tag") ∈ gw := gw_in (List.mem_of_getElem? (i := 275) (by decide +kernel)) (by decide +kernel)
theorem w_276 : (Jvm.Cond.superclass "GrantMathModel" "java/lang/Object") ∈ gw := gw_in (List.mem_of_getElem? (i := 276) (by decide +kernel)) (by decide +kernel)
theorem w_277 : (Jvm.Cond.arrayClass Jvm.ClassFile.FieldType.long) ∈ gw := gw_in (List.mem_of_getElem? (i := 277) (by decide +kernel)) (by decide +kernel)
theorem w_278 : (Jvm.Cond.methodLink "GrantMathLaw" (61 : Nat) ({ cls := "GrantMathModel", name := "thrown", desc := "()I" } : Jvm.MethodName)) ∈ gw := gw_in (List.mem_of_getElem? (i := 278) (by decide +kernel)) (by decide +kernel)
theorem w_279 : (Jvm.Cond.instanceMethod ({ cls := "GrantMathModel", name := "thrown", desc := "()I" } : Jvm.MethodName)) ∈ gw := gw_in (List.mem_of_getElem? (i := 279) (by decide +kernel)) (by decide +kernel)
theorem w_280 : (Jvm.Cond.selects "GrantMathModel" ({ cls := "GrantMathModel", name := "thrown", desc := "()I" } : Jvm.MethodName) ({ cls := "GrantMathModel", name := "thrown", desc := "()I" } : Jvm.MethodName)) ∈ gw := gw_in (List.mem_of_getElem? (i := 280) (by decide +kernel)) (by decide +kernel)
theorem w_281 : (Jvm.Cond.code ({ cls := "GrantMathModel", name := "thrown", desc := "()I" } : Jvm.MethodName) prog_3_method_2_code (1 : Nat) (Option.some Jvm.ClassFile.FieldType.int)) ∈ gw := gw_in (List.mem_of_getElem? (i := 281) (by decide +kernel)) (by decide +kernel)
theorem w_282 : (Jvm.Cond.methodLink "GrantMathLaw" (60 : Nat) ({ cls := "GrantMathModel", name := "root", desc := "(IIII)V" } : Jvm.MethodName)) ∈ gw := gw_in (List.mem_of_getElem? (i := 282) (by decide +kernel)) (by decide +kernel)
theorem w_283 : (Jvm.Cond.instanceMethod ({ cls := "GrantMathModel", name := "root", desc := "(IIII)V" } : Jvm.MethodName)) ∈ gw := gw_in (List.mem_of_getElem? (i := 283) (by decide +kernel)) (by decide +kernel)
theorem w_284 : (Jvm.Cond.selects "GrantMathModel" ({ cls := "GrantMathModel", name := "root", desc := "(IIII)V" } : Jvm.MethodName) ({ cls := "GrantMathModel", name := "root", desc := "(IIII)V" } : Jvm.MethodName)) ∈ gw := gw_in (List.mem_of_getElem? (i := 284) (by decide +kernel)) (by decide +kernel)
theorem w_285 : (Jvm.Cond.code ({ cls := "GrantMathModel", name := "root", desc := "(IIII)V" } : Jvm.MethodName) prog_3_method_8_code (5 : Nat) (Option.none : Option Jvm.ClassFile.FieldType)) ∈ gw := gw_in (List.mem_of_getElem? (i := 285) (by decide +kernel)) (by decide +kernel)
theorem w_286 : (Jvm.Cond.methodLink "GrantMathModel" (42 : Nat) ({ cls := "GrantMathModel", name := "wide", desc := "(I)J" } : Jvm.MethodName)) ∈ gw := gw_in (List.mem_of_getElem? (i := 286) (by decide +kernel)) (by decide +kernel)
theorem w_287 : (Jvm.Cond.static ({ cls := "GrantMathModel", name := "wide", desc := "(I)J" } : Jvm.MethodName)) ∈ gw := gw_in (List.mem_of_getElem? (i := 287) (by decide +kernel)) (by decide +kernel)
theorem w_288 : (Jvm.Cond.code ({ cls := "GrantMathModel", name := "wide", desc := "(I)J" } : Jvm.MethodName) prog_3_method_6_code (1 : Nat) (Option.some Jvm.ClassFile.FieldType.long)) ∈ gw := gw_in (List.mem_of_getElem? (i := 288) (by decide +kernel)) (by decide +kernel)
theorem w_289 : (Jvm.Cond.constantLong "GrantMathModel" (40 : Nat) (4294967296 : Int64)) ∈ gw := gw_in (List.mem_of_getElem? (i := 289) (by decide +kernel)) (by decide +kernel)
theorem w_290 : (Jvm.Cond.constantLong "GrantMathModel" (46 : Nat) (255 : Int64)) ∈ gw := gw_in (List.mem_of_getElem? (i := 290) (by decide +kernel)) (by decide +kernel)
theorem w_291 : (Jvm.Cond.methodLink "GrantMathModel" (36 : Nat) ({ cls := "GrantMathModel", name := "in", desc := "(JJJ)Z" } : Jvm.MethodName)) ∈ gw := gw_in (List.mem_of_getElem? (i := 291) (by decide +kernel)) (by decide +kernel)
theorem w_292 : (Jvm.Cond.static ({ cls := "GrantMathModel", name := "in", desc := "(JJJ)Z" } : Jvm.MethodName)) ∈ gw := gw_in (List.mem_of_getElem? (i := 292) (by decide +kernel)) (by decide +kernel)
theorem w_293 : (Jvm.Cond.code ({ cls := "GrantMathModel", name := "in", desc := "(JJJ)Z" } : Jvm.MethodName) prog_3_method_3_code (6 : Nat) (Option.some Jvm.ClassFile.FieldType.boolean)) ∈ gw := gw_in (List.mem_of_getElem? (i := 293) (by decide +kernel)) (by decide +kernel)
theorem w_294 : (Jvm.Cond.methodLink "GrantMathModel" (48 : Nat) ({ cls := "GrantMathModel", name := "fails", desc := "(ZI)Z" } : Jvm.MethodName)) ∈ gw := gw_in (List.mem_of_getElem? (i := 294) (by decide +kernel)) (by decide +kernel)
theorem w_296 : (Jvm.Cond.instanceMethod ({ cls := "GrantMathModel", name := "fails", desc := "(ZI)Z" } : Jvm.MethodName)) ∈ gw := gw_in (List.mem_of_getElem? (i := 296) (by decide +kernel)) (by decide +kernel)
theorem w_297 : (Jvm.Cond.code ({ cls := "GrantMathModel", name := "fails", desc := "(ZI)Z" } : Jvm.MethodName) prog_3_method_4_code (3 : Nat) (Option.some Jvm.ClassFile.FieldType.boolean)) ∈ gw := gw_in (List.mem_of_getElem? (i := 297) (by decide +kernel)) (by decide +kernel)
theorem w_298 : (Jvm.Cond.methodLink "GrantMathModel" (52 : Nat) ({ cls := "GrantMathModel", name := "is", desc := "(I)Z" } : Jvm.MethodName)) ∈ gw := gw_in (List.mem_of_getElem? (i := 298) (by decide +kernel)) (by decide +kernel)
theorem w_299 : (Jvm.Cond.static ({ cls := "GrantMathModel", name := "is", desc := "(I)Z" } : Jvm.MethodName)) ∈ gw := gw_in (List.mem_of_getElem? (i := 299) (by decide +kernel)) (by decide +kernel)
theorem w_300 : (Jvm.Cond.code ({ cls := "GrantMathModel", name := "is", desc := "(I)Z" } : Jvm.MethodName) prog_3_method_5_code (1 : Nat) (Option.some Jvm.ClassFile.FieldType.boolean)) ∈ gw := gw_in (List.mem_of_getElem? (i := 300) (by decide +kernel)) (by decide +kernel)
theorem w_301 : (Jvm.Cond.constantLong "GrantMathModel" (34 : Nat) (15 : Int64)) ∈ gw := gw_in (List.mem_of_getElem? (i := 301) (by decide +kernel)) (by decide +kernel)
theorem w_302 : (Jvm.Cond.methodLink "GrantMathModel" (56 : Nat) ({ cls := "GrantMathModel", name := "give", desc := "(IJJJIIZ)V" } : Jvm.MethodName)) ∈ gw := gw_in (List.mem_of_getElem? (i := 302) (by decide +kernel)) (by decide +kernel)
theorem w_304 : (Jvm.Cond.instanceMethod ({ cls := "GrantMathModel", name := "give", desc := "(IJJJIIZ)V" } : Jvm.MethodName)) ∈ gw := gw_in (List.mem_of_getElem? (i := 304) (by decide +kernel)) (by decide +kernel)
theorem w_305 : (Jvm.Cond.code ({ cls := "GrantMathModel", name := "give", desc := "(IJJJIIZ)V" } : Jvm.MethodName) prog_3_method_7_code (11 : Nat) (Option.none : Option Jvm.ClassFile.FieldType)) ∈ gw := gw_in (List.mem_of_getElem? (i := 305) (by decide +kernel)) (by decide +kernel)
theorem w_306 : (Jvm.Cond.methodLink "GrantMathLaw" (68 : Nat) ({ cls := "GrantMathModel", name := "number", desc := "(II)V" } : Jvm.MethodName)) ∈ gw := gw_in (List.mem_of_getElem? (i := 306) (by decide +kernel)) (by decide +kernel)
theorem w_307 : (Jvm.Cond.instanceMethod ({ cls := "GrantMathModel", name := "number", desc := "(II)V" } : Jvm.MethodName)) ∈ gw := gw_in (List.mem_of_getElem? (i := 307) (by decide +kernel)) (by decide +kernel)
theorem w_308 : (Jvm.Cond.selects "GrantMathModel" ({ cls := "GrantMathModel", name := "number", desc := "(II)V" } : Jvm.MethodName) ({ cls := "GrantMathModel", name := "number", desc := "(II)V" } : Jvm.MethodName)) ∈ gw := gw_in (List.mem_of_getElem? (i := 308) (by decide +kernel)) (by decide +kernel)
theorem w_309 : (Jvm.Cond.code ({ cls := "GrantMathModel", name := "number", desc := "(II)V" } : Jvm.MethodName) prog_3_method_9_code (3 : Nat) (Option.none : Option Jvm.ClassFile.FieldType)) ∈ gw := gw_in (List.mem_of_getElem? (i := 309) (by decide +kernel)) (by decide +kernel)
theorem w_310 : (Jvm.Cond.methodLink "GrantMathLaw" (72 : Nat) ({ cls := "GrantMathModel", name := "move", desc := "(III)V" } : Jvm.MethodName)) ∈ gw := gw_in (List.mem_of_getElem? (i := 310) (by decide +kernel)) (by decide +kernel)
theorem w_311 : (Jvm.Cond.instanceMethod ({ cls := "GrantMathModel", name := "move", desc := "(III)V" } : Jvm.MethodName)) ∈ gw := gw_in (List.mem_of_getElem? (i := 311) (by decide +kernel)) (by decide +kernel)
theorem w_312 : (Jvm.Cond.selects "GrantMathModel" ({ cls := "GrantMathModel", name := "move", desc := "(III)V" } : Jvm.MethodName) ({ cls := "GrantMathModel", name := "move", desc := "(III)V" } : Jvm.MethodName)) ∈ gw := gw_in (List.mem_of_getElem? (i := 312) (by decide +kernel)) (by decide +kernel)
theorem w_313 : (Jvm.Cond.code ({ cls := "GrantMathModel", name := "move", desc := "(III)V" } : Jvm.MethodName) prog_3_method_11_code (4 : Nat) (Option.none : Option Jvm.ClassFile.FieldType)) ∈ gw := gw_in (List.mem_of_getElem? (i := 313) (by decide +kernel)) (by decide +kernel)
theorem w_314 : (Jvm.Cond.methodLink "GrantMathModel" (60 : Nat) ({ cls := "GrantMathModel", name := "isSealed", desc := "(I)Z" } : Jvm.MethodName)) ∈ gw := gw_in (List.mem_of_getElem? (i := 314) (by decide +kernel)) (by decide +kernel)
theorem w_316 : (Jvm.Cond.instanceMethod ({ cls := "GrantMathModel", name := "isSealed", desc := "(I)Z" } : Jvm.MethodName)) ∈ gw := gw_in (List.mem_of_getElem? (i := 316) (by decide +kernel)) (by decide +kernel)
theorem w_317 : (Jvm.Cond.code ({ cls := "GrantMathModel", name := "isSealed", desc := "(I)Z" } : Jvm.MethodName) prog_3_method_10_code (2 : Nat) (Option.some Jvm.ClassFile.FieldType.boolean)) ∈ gw := gw_in (List.mem_of_getElem? (i := 317) (by decide +kernel)) (by decide +kernel)
theorem w_318 : (Jvm.Cond.methodLink "GrantMathLaw" (76 : Nat) ({ cls := "GrantMathModel", name := "narrow", desc := "(III)Z" } : Jvm.MethodName)) ∈ gw := gw_in (List.mem_of_getElem? (i := 318) (by decide +kernel)) (by decide +kernel)
theorem w_319 : (Jvm.Cond.instanceMethod ({ cls := "GrantMathModel", name := "narrow", desc := "(III)Z" } : Jvm.MethodName)) ∈ gw := gw_in (List.mem_of_getElem? (i := 319) (by decide +kernel)) (by decide +kernel)
theorem w_320 : (Jvm.Cond.selects "GrantMathModel" ({ cls := "GrantMathModel", name := "narrow", desc := "(III)Z" } : Jvm.MethodName) ({ cls := "GrantMathModel", name := "narrow", desc := "(III)Z" } : Jvm.MethodName)) ∈ gw := gw_in (List.mem_of_getElem? (i := 320) (by decide +kernel)) (by decide +kernel)
theorem w_321 : (Jvm.Cond.code ({ cls := "GrantMathModel", name := "narrow", desc := "(III)Z" } : Jvm.MethodName) prog_3_method_12_code (8 : Nat) (Option.some Jvm.ClassFile.FieldType.boolean)) ∈ gw := gw_in (List.mem_of_getElem? (i := 321) (by decide +kernel)) (by decide +kernel)
theorem w_322 : (Jvm.Cond.methodLink "GrantMathLaw" (79 : Nat) ({ cls := "GrantMathModel", name := "restrict", desc := "(III)Z" } : Jvm.MethodName)) ∈ gw := gw_in (List.mem_of_getElem? (i := 322) (by decide +kernel)) (by decide +kernel)
theorem w_323 : (Jvm.Cond.instanceMethod ({ cls := "GrantMathModel", name := "restrict", desc := "(III)Z" } : Jvm.MethodName)) ∈ gw := gw_in (List.mem_of_getElem? (i := 323) (by decide +kernel)) (by decide +kernel)
theorem w_324 : (Jvm.Cond.selects "GrantMathModel" ({ cls := "GrantMathModel", name := "restrict", desc := "(III)Z" } : Jvm.MethodName) ({ cls := "GrantMathModel", name := "restrict", desc := "(III)Z" } : Jvm.MethodName)) ∈ gw := gw_in (List.mem_of_getElem? (i := 324) (by decide +kernel)) (by decide +kernel)
theorem w_325 : (Jvm.Cond.code ({ cls := "GrantMathModel", name := "restrict", desc := "(III)Z" } : Jvm.MethodName) prog_3_method_13_code (6 : Nat) (Option.some Jvm.ClassFile.FieldType.boolean)) ∈ gw := gw_in (List.mem_of_getElem? (i := 325) (by decide +kernel)) (by decide +kernel)
theorem w_326 : (Jvm.Cond.methodLink "GrantMathLaw" (82 : Nat) ({ cls := "GrantMathModel", name := "seal", desc := "(III)I" } : Jvm.MethodName)) ∈ gw := gw_in (List.mem_of_getElem? (i := 326) (by decide +kernel)) (by decide +kernel)
theorem w_327 : (Jvm.Cond.instanceMethod ({ cls := "GrantMathModel", name := "seal", desc := "(III)I" } : Jvm.MethodName)) ∈ gw := gw_in (List.mem_of_getElem? (i := 327) (by decide +kernel)) (by decide +kernel)
theorem w_328 : (Jvm.Cond.selects "GrantMathModel" ({ cls := "GrantMathModel", name := "seal", desc := "(III)I" } : Jvm.MethodName) ({ cls := "GrantMathModel", name := "seal", desc := "(III)I" } : Jvm.MethodName)) ∈ gw := gw_in (List.mem_of_getElem? (i := 328) (by decide +kernel)) (by decide +kernel)
theorem w_329 : (Jvm.Cond.code ({ cls := "GrantMathModel", name := "seal", desc := "(III)I" } : Jvm.MethodName) prog_3_method_16_code (4 : Nat) (Option.some Jvm.ClassFile.FieldType.int)) ∈ gw := gw_in (List.mem_of_getElem? (i := 329) (by decide +kernel)) (by decide +kernel)
theorem w_330 : (Jvm.Cond.methodLink "GrantMathModel" (63 : Nat) ({ cls := "GrantMathModel", name := "may", desc := "(II)Z" } : Jvm.MethodName)) ∈ gw := gw_in (List.mem_of_getElem? (i := 330) (by decide +kernel)) (by decide +kernel)
theorem w_332 : (Jvm.Cond.instanceMethod ({ cls := "GrantMathModel", name := "may", desc := "(II)Z" } : Jvm.MethodName)) ∈ gw := gw_in (List.mem_of_getElem? (i := 332) (by decide +kernel)) (by decide +kernel)
theorem w_333 : (Jvm.Cond.code ({ cls := "GrantMathModel", name := "may", desc := "(II)Z" } : Jvm.MethodName) prog_3_method_14_code (4 : Nat) (Option.some Jvm.ClassFile.FieldType.boolean)) ∈ gw := gw_in (List.mem_of_getElem? (i := 333) (by decide +kernel)) (by decide +kernel)
theorem w_334 : (Jvm.Cond.methodLink "GrantMathModel" (67 : Nat) ({ cls := "GrantMathModel", name := "holds", desc := "(IJJ)Z" } : Jvm.MethodName)) ∈ gw := gw_in (List.mem_of_getElem? (i := 334) (by decide +kernel)) (by decide +kernel)
theorem w_336 : (Jvm.Cond.instanceMethod ({ cls := "GrantMathModel", name := "holds", desc := "(IJJ)Z" } : Jvm.MethodName)) ∈ gw := gw_in (List.mem_of_getElem? (i := 336) (by decide +kernel)) (by decide +kernel)
theorem w_337 : (Jvm.Cond.code ({ cls := "GrantMathModel", name := "holds", desc := "(IJJ)Z" } : Jvm.MethodName) prog_3_method_15_code (9 : Nat) (Option.some Jvm.ClassFile.FieldType.boolean)) ∈ gw := gw_in (List.mem_of_getElem? (i := 337) (by decide +kernel)) (by decide +kernel)
theorem w_338 : (Jvm.Cond.constantLong "GrantMathModel" (71 : Nat) (65535 : Int64)) ∈ gw := gw_in (List.mem_of_getElem? (i := 338) (by decide +kernel)) (by decide +kernel)
theorem w_339 : (Jvm.Cond.methodLink "GrantMathLaw" (85 : Nat) ({ cls := "GrantMathModel", name := "unseal", desc := "(III)I" } : Jvm.MethodName)) ∈ gw := gw_in (List.mem_of_getElem? (i := 339) (by decide +kernel)) (by decide +kernel)
theorem w_340 : (Jvm.Cond.instanceMethod ({ cls := "GrantMathModel", name := "unseal", desc := "(III)I" } : Jvm.MethodName)) ∈ gw := gw_in (List.mem_of_getElem? (i := 340) (by decide +kernel)) (by decide +kernel)
theorem w_341 : (Jvm.Cond.selects "GrantMathModel" ({ cls := "GrantMathModel", name := "unseal", desc := "(III)I" } : Jvm.MethodName) ({ cls := "GrantMathModel", name := "unseal", desc := "(III)I" } : Jvm.MethodName)) ∈ gw := gw_in (List.mem_of_getElem? (i := 341) (by decide +kernel)) (by decide +kernel)
theorem w_342 : (Jvm.Cond.code ({ cls := "GrantMathModel", name := "unseal", desc := "(III)I" } : Jvm.MethodName) prog_3_method_17_code (4 : Nat) (Option.some Jvm.ClassFile.FieldType.int)) ∈ gw := gw_in (List.mem_of_getElem? (i := 342) (by decide +kernel)) (by decide +kernel)
theorem w_343 : (Jvm.Cond.methodLink "GrantMathLaw" (89 : Nat) ({ cls := "GrantMathModel", name := "allows", desc := "(IIII)I" } : Jvm.MethodName)) ∈ gw := gw_in (List.mem_of_getElem? (i := 343) (by decide +kernel)) (by decide +kernel)
theorem w_344 : (Jvm.Cond.instanceMethod ({ cls := "GrantMathModel", name := "allows", desc := "(IIII)I" } : Jvm.MethodName)) ∈ gw := gw_in (List.mem_of_getElem? (i := 344) (by decide +kernel)) (by decide +kernel)
theorem w_345 : (Jvm.Cond.selects "GrantMathModel" ({ cls := "GrantMathModel", name := "allows", desc := "(IIII)I" } : Jvm.MethodName) ({ cls := "GrantMathModel", name := "allows", desc := "(IIII)I" } : Jvm.MethodName)) ∈ gw := gw_in (List.mem_of_getElem? (i := 345) (by decide +kernel)) (by decide +kernel)
theorem w_346 : (Jvm.Cond.code ({ cls := "GrantMathModel", name := "allows", desc := "(IIII)I" } : Jvm.MethodName) prog_3_method_18_code (5 : Nat) (Option.some Jvm.ClassFile.FieldType.int)) ∈ gw := gw_in (List.mem_of_getElem? (i := 346) (by decide +kernel)) (by decide +kernel)
theorem w_347 : (Jvm.Cond.constantLong "GrantMathModel" (73 : Nat) (65536 : Int64)) ∈ gw := gw_in (List.mem_of_getElem? (i := 347) (by decide +kernel)) (by decide +kernel)
theorem w_348 : (Jvm.Cond.methodLink "GrantMathLaw" (93 : Nat) ({ cls := "GrantMathModel", name := "within", desc := "(II)Z" } : Jvm.MethodName)) ∈ gw := gw_in (List.mem_of_getElem? (i := 348) (by decide +kernel)) (by decide +kernel)
theorem w_349 : (Jvm.Cond.instanceMethod ({ cls := "GrantMathModel", name := "within", desc := "(II)Z" } : Jvm.MethodName)) ∈ gw := gw_in (List.mem_of_getElem? (i := 349) (by decide +kernel)) (by decide +kernel)
theorem w_350 : (Jvm.Cond.selects "GrantMathModel" ({ cls := "GrantMathModel", name := "within", desc := "(II)Z" } : Jvm.MethodName) ({ cls := "GrantMathModel", name := "within", desc := "(II)Z" } : Jvm.MethodName)) ∈ gw := gw_in (List.mem_of_getElem? (i := 350) (by decide +kernel)) (by decide +kernel)
theorem w_351 : (Jvm.Cond.code ({ cls := "GrantMathModel", name := "within", desc := "(II)Z" } : Jvm.MethodName) prog_3_method_19_code (3 : Nat) (Option.some Jvm.ClassFile.FieldType.boolean)) ∈ gw := gw_in (List.mem_of_getElem? (i := 351) (by decide +kernel)) (by decide +kernel)
theorem w_352 : (Jvm.Cond.methodLink "GrantMathLaw" (96 : Nat) ({ cls := "GrantMathModel", name := "part", desc := "(II)I" } : Jvm.MethodName)) ∈ gw := gw_in (List.mem_of_getElem? (i := 352) (by decide +kernel)) (by decide +kernel)
theorem w_353 : (Jvm.Cond.instanceMethod ({ cls := "GrantMathModel", name := "part", desc := "(II)I" } : Jvm.MethodName)) ∈ gw := gw_in (List.mem_of_getElem? (i := 353) (by decide +kernel)) (by decide +kernel)
theorem w_354 : (Jvm.Cond.selects "GrantMathModel" ({ cls := "GrantMathModel", name := "part", desc := "(II)I" } : Jvm.MethodName) ({ cls := "GrantMathModel", name := "part", desc := "(II)I" } : Jvm.MethodName)) ∈ gw := gw_in (List.mem_of_getElem? (i := 354) (by decide +kernel)) (by decide +kernel)
theorem w_355 : (Jvm.Cond.code ({ cls := "GrantMathModel", name := "part", desc := "(II)I" } : Jvm.MethodName) prog_3_method_20_code (3 : Nat) (Option.some Jvm.ClassFile.FieldType.int)) ∈ gw := gw_in (List.mem_of_getElem? (i := 355) (by decide +kernel)) (by decide +kernel)
theorem w_356 : (Jvm.Cond.constantLong "GrantMathModel" (75 : Nat) (5 : Int64)) ∈ gw := gw_in (List.mem_of_getElem? (i := 356) (by decide +kernel)) (by decide +kernel)
theorem w_357 : (Jvm.Cond.methodLink "GrantMathLaw" (100 : Nat) ({ cls := "GrantMathModel", name := "count", desc := "(II)I" } : Jvm.MethodName)) ∈ gw := gw_in (List.mem_of_getElem? (i := 357) (by decide +kernel)) (by decide +kernel)
theorem w_358 : (Jvm.Cond.instanceMethod ({ cls := "GrantMathModel", name := "count", desc := "(II)I" } : Jvm.MethodName)) ∈ gw := gw_in (List.mem_of_getElem? (i := 358) (by decide +kernel)) (by decide +kernel)
theorem w_359 : (Jvm.Cond.selects "GrantMathModel" ({ cls := "GrantMathModel", name := "count", desc := "(II)I" } : Jvm.MethodName) ({ cls := "GrantMathModel", name := "count", desc := "(II)I" } : Jvm.MethodName)) ∈ gw := gw_in (List.mem_of_getElem? (i := 359) (by decide +kernel)) (by decide +kernel)
theorem w_360 : (Jvm.Cond.code ({ cls := "GrantMathModel", name := "count", desc := "(II)I" } : Jvm.MethodName) prog_3_method_21_code (5 : Nat) (Option.some Jvm.ClassFile.FieldType.int)) ∈ gw := gw_in (List.mem_of_getElem? (i := 360) (by decide +kernel)) (by decide +kernel)
theorem w_361 : (Jvm.Cond.sameMethod "java/lang/Throwable" "java/lang/Throwable" "fillInStackTrace" "(I)Ljava/lang/Throwable;") ∈ gw := gw_in (List.mem_of_getElem? (i := 361) (by decide +kernel)) (by decide +kernel)
theorem inX : ∀ w ∈ u_ws RX TX 6, w ∈ gw := by decide +kernel
theorem inM : ∀ w ∈ u_ws RM TM 7, w ∈ gw := by decide +kernel
