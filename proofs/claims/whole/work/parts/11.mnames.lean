def RM_Mo : String := "DecimalMachineModel"
def TM_Mo : u_T := fun k => match k with
  | 0 => ("DecimalMachineModel", "memory", "[I", true)
  | 1 => ("DecimalMachineModel", "\x72", "[I", true)
  | 2 => ("DecimalMachineModel", "kept", "[I", true)
  | 3 => ("DecimalMachineModel", "one", "[I", true)
  | 4 => ("DecimalMachineModel", "two", "[I", true)
  | 5 => ("DecimalMachineModel", "sum", "[I", true)
  | 6 => ("DecimalMachineModel", "rest", "[I", true)
  | 7 => ("DecimalMachineModel", "taken", "[I", true)
  | 8 => ("DecimalMachineModel", "err", "I", false)
  | 9 => ("DecimalMachineModel", "cc", "I", false)
  | 10 => ("DecimalMachineModel", "next", "I", false)
  | 11 => ("DecimalMachineModel", "mask", "I", false)
  | 12 => ("DecimalMachineModel", "halt", "I", false)
  | 13 => ("DecimalMachineModel", "done", "I", false)
  | 14 => ("DecimalMachineModel", "faults", "I", false)
  | 15 => ("DecimalMachineModel", "latest", "I", false)
  | 16 => ("DecimalMachineModel", "code", "I", false)
  | 17 => ("DecimalMachineModel", "size", "I", false)
  | 18 => ("DecimalMachineModel", "second", "I", false)
  | 19 => ("DecimalMachineModel", "a1", "I", false)
  | 20 => ("DecimalMachineModel", "a2", "I", false)
  | _ => ("DecimalMachineModel", "fault", "I", false)
def tM_Mo : Nat → FieldType := fun k => match k with
  | 0 => .array .int
  | 1 => .array .int
  | 2 => .array .int
  | 3 => .array .int
  | 4 => .array .int
  | 5 => .array .int
  | 6 => .array .int
  | 7 => .array .int
  | 8 => .int
  | 9 => .int
  | 10 => .int
  | 11 => .int
  | 12 => .int
  | 13 => .int
  | 14 => .int
  | 15 => .int
  | 16 => .int
  | 17 => .int
  | 18 => .int
  | 19 => .int
  | 20 => .int
  | _ => .int
theorem nM_Mo : ∀ a, a < 22 → ∀ b, b < 22 → a ≠ b → (TM_Mo a).2.1 ≠ (TM_Mo b).2.1 := by decide +kernel
theorem tM_Mo_ok : ∀ k, k < 22 → parseFieldDescriptor (TM_Mo k).2.2.1 = some (tM_Mo k) := by decide +kernel
theorem iM_Mo : ∀ w ∈ u_ws RM_Mo TM_Mo 22, w ∈ G0 := zIn _ [863, 865, 867, 869, 871, 873, 875, 877, 879, 881, 883, 885, 887, 889, 891, 893, 895, 897, 899, 901, 903, 905] (by decide +kernel) (by decide +kernel)
def clM : List vw_C := [(RM_Mo, TM_Mo, 22)]
abbrev b_MMo_thrown : ByteArray := prog_12_method_2_code
def y_MMo_thrown : MethodName := ⟨RM_Mo, "thrown", "()I"⟩
set_option maxRecDepth 20000 in
theorem kc_MMo_thrown : Cond.code y_MMo_thrown b_MMo_thrown 1 (some .int) ∈ G0 := mG 911 rfl rfl
def w_MMo_thrown : List Cond := .code y_MMo_thrown b_MMo_thrown 1 (some .int) :: G0
def rm_MMo_thrown : Room := { frames := 0, cells := 0, slots := 0, locals := 0 }
abbrev b_MMo_in : ByteArray := prog_12_method_3_code
def y_MMo_in : MethodName := ⟨RM_Mo, "in", "(JJJ)Z"⟩
set_option maxRecDepth 20000 in
theorem kc_MMo_in : Cond.code y_MMo_in b_MMo_in 6 (some .boolean) ∈ G0 := mG 919 rfl rfl
def w_MMo_in : List Cond := .code y_MMo_in b_MMo_in 6 (some .boolean) :: G0
def rm_MMo_in : Room := { frames := 0, cells := 0, slots := 0, locals := 0 }
abbrev b_MMo_fails : ByteArray := prog_12_method_4_code
def y_MMo_fails : MethodName := ⟨RM_Mo, "fails", "(ZI)Z"⟩
set_option maxRecDepth 20000 in
theorem kc_MMo_fails : Cond.code y_MMo_fails b_MMo_fails 3 (some .boolean) ∈ G0 := mG 923 rfl rfl
def w_MMo_fails : List Cond := .code y_MMo_fails b_MMo_fails 3 (some .boolean) :: G0
def rm_MMo_fails : Room := { frames := 0, cells := 0, slots := 0, locals := 0 }
abbrev b_MMo_lies : ByteArray := prog_12_method_5_code
def y_MMo_lies : MethodName := ⟨RM_Mo, "lies", "(II)Z"⟩
set_option maxRecDepth 20000 in
theorem kc_MMo_lies : Cond.code y_MMo_lies b_MMo_lies 2 (some .boolean) ∈ G0 := mG 926 rfl rfl
def w_MMo_lies : List Cond := .code y_MMo_lies b_MMo_lies 2 (some .boolean) :: G0
def rm_MMo_lies : Room := { frames := 1, cells := 0, slots := 0, locals := 25 }
abbrev b_MMo_take : ByteArray := prog_12_method_6_code
def y_MMo_take : MethodName := ⟨RM_Mo, "take", "(II)J"⟩
set_option maxRecDepth 20000 in
theorem kc_MMo_take : Cond.code y_MMo_take b_MMo_take 6 (some .long) ∈ G0 := mG 1008 rfl rfl
def w_MMo_take : List Cond := .code y_MMo_take b_MMo_take 6 (some .long) :: G0
def rm_MMo_take : Room := { frames := 0, cells := 0, slots := 0, locals := 0 }
abbrev b_MMo_store : ByteArray := prog_12_method_7_code
def y_MMo_store : MethodName := ⟨RM_Mo, "store", "(IIJ)V"⟩
set_option maxRecDepth 20000 in
theorem kc_MMo_store : Cond.code y_MMo_store b_MMo_store 6 none ∈ G0 := mG 930 rfl rfl
def w_MMo_store : List Cond := .code y_MMo_store b_MMo_store 6 none :: G0
def rm_MMo_store : Room := { frames := 0, cells := 0, slots := 0, locals := 0 }
abbrev b_MMo_poke : ByteArray := prog_12_method_8_code
def y_MMo_poke : MethodName := ⟨RM_Mo, "poke", "(IIJ)V"⟩
set_option maxRecDepth 20000 in
theorem kc_MMo_poke : Cond.code y_MMo_poke b_MMo_poke 5 none ∈ G0 := mG 915 rfl rfl
def w_MMo_poke : List Cond := .code y_MMo_poke b_MMo_poke 5 none :: G0
def rm_MMo_poke : Room := { frames := 2, cells := 0, slots := 0, locals := 46 }
abbrev b_MMo_octet : ByteArray := prog_12_method_9_code
def y_MMo_octet : MethodName := ⟨RM_Mo, "octet", "(I)I"⟩
set_option maxRecDepth 20000 in
theorem kc_MMo_octet : Cond.code y_MMo_octet b_MMo_octet 2 (some .int) ∈ G0 := mG 935 rfl rfl
def w_MMo_octet : List Cond := .code y_MMo_octet b_MMo_octet 2 (some .int) :: G0
def rm_MMo_octet : Room := { frames := 2, cells := 0, slots := 0, locals := 46 }
abbrev b_MMo_set : ByteArray := prog_12_method_10_code
def y_MMo_set : MethodName := ⟨RM_Mo, "set", "(II)I"⟩
set_option maxRecDepth 20000 in
theorem kc_MMo_set : Cond.code y_MMo_set b_MMo_set 4 (some .int) ∈ G0 := mG 939 rfl rfl
def w_MMo_set : List Cond := .code y_MMo_set b_MMo_set 4 (some .int) :: G0
def rm_MMo_set : Room := { frames := 1, cells := 0, slots := 0, locals := 25 }
abbrev b_MMo_register : ByteArray := prog_12_method_11_code
def y_MMo_register : MethodName := ⟨RM_Mo, "register", "(I)I"⟩
set_option maxRecDepth 20000 in
theorem kc_MMo_register : Cond.code y_MMo_register b_MMo_register 2 (some .int) ∈ G0 := mG 944 rfl rfl
def w_MMo_register : List Cond := .code y_MMo_register b_MMo_register 2 (some .int) :: G0
def rm_MMo_register : Room := { frames := 1, cells := 0, slots := 0, locals := 25 }
abbrev b_MMo_start : ByteArray := prog_12_method_12_code
def y_MMo_start : MethodName := ⟨RM_Mo, "start", "(II)V"⟩
set_option maxRecDepth 20000 in
theorem kc_MMo_start : Cond.code y_MMo_start b_MMo_start 3 none ∈ G0 := mG 948 rfl rfl
def w_MMo_start : List Cond := .code y_MMo_start b_MMo_start 3 none :: G0
def rm_MMo_start : Room := { frames := 1, cells := 0, slots := 0, locals := 25 }
abbrev b_MMo_rr : ByteArray := prog_12_method_13_code
def y_MMo_rr : MethodName := ⟨RM_Mo, "rr", "(IIII)I"⟩
set_option maxRecDepth 20000 in
theorem kc_MMo_rr : Cond.code y_MMo_rr b_MMo_rr 5 (some .int) ∈ G0 := mG 954 rfl rfl
def w_MMo_rr : List Cond := .code y_MMo_rr b_MMo_rr 5 (some .int) :: G0
def rm_MMo_rr : Room := { frames := 2, cells := 0, slots := 0, locals := 46 }
abbrev b_MMo_rx : ByteArray := prog_12_method_14_code
def y_MMo_rx : MethodName := ⟨RM_Mo, "rx", "(IIIIII)I"⟩
set_option maxRecDepth 20000 in
theorem kc_MMo_rx : Cond.code y_MMo_rx b_MMo_rx 7 (some .int) ∈ G0 := mG 959 rfl rfl
def w_MMo_rx : List Cond := .code y_MMo_rx b_MMo_rx 7 (some .int) :: G0
def rm_MMo_rx : Room := { frames := 2, cells := 0, slots := 0, locals := 46 }
abbrev b_MMo_ss : ByteArray := prog_12_method_15_code
def y_MMo_ss : MethodName := ⟨RM_Mo, "ss", "(IIIIIII)I"⟩
set_option maxRecDepth 20000 in
theorem kc_MMo_ss : Cond.code y_MMo_ss b_MMo_ss 8 (some .int) ∈ G0 := mG 966 rfl rfl
def w_MMo_ss : List Cond := .code y_MMo_ss b_MMo_ss 8 (some .int) :: G0
def rm_MMo_ss : Room := { frames := 2, cells := 0, slots := 0, locals := 46 }
abbrev b_MMo_wrong : ByteArray := prog_12_method_16_code
def y_MMo_wrong : MethodName := ⟨RM_Mo, "wrong", "(ZI)V"⟩
set_option maxRecDepth 20000 in
theorem kc_MMo_wrong : Cond.code y_MMo_wrong b_MMo_wrong 3 none ∈ G0 := mG 980 rfl rfl
def w_MMo_wrong : List Cond := .code y_MMo_wrong b_MMo_wrong 3 none :: G0
def rm_MMo_wrong : Room := { frames := 0, cells := 0, slots := 0, locals := 0 }
abbrev b_MMo_based : ByteArray := prog_12_method_17_code
def y_MMo_based : MethodName := ⟨RM_Mo, "based", "(I)I"⟩
set_option maxRecDepth 20000 in
theorem kc_MMo_based : Cond.code y_MMo_based b_MMo_based 4 (some .int) ∈ G0 := mG 1004 rfl rfl
def w_MMo_based : List Cond := .code y_MMo_based b_MMo_based 4 (some .int) :: G0
def rm_MMo_based : Room := { frames := 1, cells := 0, slots := 0, locals := 25 }
abbrev b_MMo_isKnown : ByteArray := prog_12_method_18_code
def y_MMo_isKnown : MethodName := ⟨RM_Mo, "isKnown", "(I)Z"⟩
set_option maxRecDepth 20000 in
theorem kc_MMo_isKnown : Cond.code y_MMo_isKnown b_MMo_isKnown 1 (some .boolean) ∈ G0 := mG 983 rfl rfl
def w_MMo_isKnown : List Cond := .code y_MMo_isKnown b_MMo_isKnown 1 (some .boolean) :: G0
def rm_MMo_isKnown : Room := { frames := 1, cells := 0, slots := 0, locals := 25 }
abbrev b_MMo_decodes : ByteArray := prog_12_method_19_code
def y_MMo_decodes : MethodName := ⟨RM_Mo, "decodes", "()V"⟩
set_option maxRecDepth 20000 in
theorem kc_MMo_decodes : Cond.code y_MMo_decodes b_MMo_decodes 1 none ∈ G0 := mG 976 rfl rfl
def w_MMo_decodes : List Cond := .code y_MMo_decodes b_MMo_decodes 1 none :: G0
def rm_MMo_decodes : Room := { frames := 2, cells := 0, slots := 0, locals := 48 }
abbrev b_MMo_high : ByteArray := prog_12_method_20_code
def y_MMo_high : MethodName := ⟨RM_Mo, "high", "()I"⟩
set_option maxRecDepth 20000 in
theorem kc_MMo_high : Cond.code y_MMo_high b_MMo_high 1 (some .int) ∈ G0 := mG 1022 rfl rfl
def w_MMo_high : List Cond := .code y_MMo_high b_MMo_high 1 (some .int) :: G0
def rm_MMo_high : Room := { frames := 0, cells := 0, slots := 0, locals := 0 }
abbrev b_MMo_low : ByteArray := prog_12_method_21_code
def y_MMo_low : MethodName := ⟨RM_Mo, "low", "()I"⟩
set_option maxRecDepth 20000 in
theorem kc_MMo_low : Cond.code y_MMo_low b_MMo_low 1 (some .int) ∈ G0 := mG 1018 rfl rfl
def w_MMo_low : List Cond := .code y_MMo_low b_MMo_low 1 (some .int) :: G0
def rm_MMo_low : Room := { frames := 0, cells := 0, slots := 0, locals := 0 }
abbrev b_MMo_width : ByteArray := prog_12_method_22_code
def y_MMo_width : MethodName := ⟨RM_Mo, "width", "()I"⟩
set_option maxRecDepth 20000 in
theorem kc_MMo_width : Cond.code y_MMo_width b_MMo_width 1 (some .int) ∈ G0 := mG 1037 rfl rfl
def w_MMo_width : List Cond := .code y_MMo_width b_MMo_width 1 (some .int) :: G0
def rm_MMo_width : Room := { frames := 1, cells := 0, slots := 0, locals := 25 }
abbrev b_MMo_divides : ByteArray := prog_12_method_25_code
def y_MMo_divides : MethodName := ⟨RM_Mo, "divides", "(I)Z"⟩
set_option maxRecDepth 20000 in
theorem kc_MMo_divides : Cond.code y_MMo_divides b_MMo_divides 4 (some .boolean) ∈ G0 := mG 1026 rfl rfl
def w_MMo_divides : List Cond := .code y_MMo_divides b_MMo_divides 4 (some .boolean) :: G0
def rm_MMo_divides : Room := { frames := 1, cells := 0, slots := 0, locals := 25 }
abbrev b_MMo_packs : ByteArray := prog_12_method_28_code
def y_MMo_packs : MethodName := ⟨RM_Mo, "packs", "(II[I)Z"⟩
set_option maxRecDepth 20000 in
theorem kc_MMo_packs : Cond.code y_MMo_packs b_MMo_packs 8 (some .boolean) ∈ G0 := mG 1042 rfl rfl
def w_MMo_packs : List Cond := .code y_MMo_packs b_MMo_packs 8 (some .boolean) :: G0
def rm_MMo_packs : Room := { frames := 0, cells := 0, slots := 0, locals := 0 }
abbrev b_MMo_isMinus : ByteArray := prog_12_method_29_code
def y_MMo_isMinus : MethodName := ⟨RM_Mo, "isMinus", "(II)Z"⟩
set_option maxRecDepth 20000 in
theorem kc_MMo_isMinus : Cond.code y_MMo_isMinus b_MMo_isMinus 4 (some .boolean) ∈ G0 := mG 1046 rfl rfl
def w_MMo_isMinus : List Cond := .code y_MMo_isMinus b_MMo_isMinus 4 (some .boolean) :: G0
def rm_MMo_isMinus : Room := { frames := 0, cells := 0, slots := 0, locals := 0 }
abbrev b_MMo_value : ByteArray := prog_12_method_34_code
def y_MMo_value : MethodName := ⟨RM_Mo, "value", "([IZ)J"⟩
set_option maxRecDepth 20000 in
theorem kc_MMo_value : Cond.code y_MMo_value b_MMo_value 5 (some .long) ∈ G0 := mG 1049 rfl rfl
def w_MMo_value : List Cond := .code y_MMo_value b_MMo_value 5 (some .long) :: G0
def rm_MMo_value : Room := { frames := 0, cells := 0, slots := 0, locals := 0 }
abbrev b_MMo_looksAtWord : ByteArray := prog_12_method_24_code
def y_MMo_looksAtWord : MethodName := ⟨RM_Mo, "looksAtWord", "()V"⟩
set_option maxRecDepth 20000 in
theorem kc_MMo_looksAtWord : Cond.code y_MMo_looksAtWord b_MMo_looksAtWord 2 none ∈ G0 := mG 1033 rfl rfl
def w_MMo_looksAtWord : List Cond := .code y_MMo_looksAtWord b_MMo_looksAtWord 2 none :: G0
def rm_MMo_looksAtWord : Room := { frames := 2, cells := 0, slots := 0, locals := 48 }
abbrev b_MMo_translates : ByteArray := prog_12_method_26_code
def y_MMo_translates : MethodName := ⟨RM_Mo, "translates", "(I)Z"⟩
set_option maxRecDepth 20000 in
theorem kc_MMo_translates : Cond.code y_MMo_translates b_MMo_translates 5 (some .boolean) ∈ G0 := mG 1054 rfl rfl
def w_MMo_translates : List Cond := .code y_MMo_translates b_MMo_translates 5 (some .boolean) :: G0
def rm_MMo_translates : Room := { frames := 2, cells := 0, slots := 0, locals := 46 }
abbrev b_MMo_isZero : ByteArray := prog_12_method_31_code
def y_MMo_isZero : MethodName := ⟨RM_Mo, "isZero", "([I)Z"⟩
set_option maxRecDepth 20000 in
theorem kc_MMo_isZero : Cond.code y_MMo_isZero b_MMo_isZero 2 (some .boolean) ∈ G0 := mG 1061 rfl rfl
def w_MMo_isZero : List Cond := .code y_MMo_isZero b_MMo_isZero 2 (some .boolean) :: G0
def rm_MMo_isZero : Room := { frames := 0, cells := 0, slots := 0, locals := 0 }
abbrev b_MMo_notBelow : ByteArray := prog_12_method_36_code
def y_MMo_notBelow : MethodName := ⟨RM_Mo, "notBelow", "()Z"⟩
set_option maxRecDepth 20000 in
theorem kc_MMo_notBelow : Cond.code y_MMo_notBelow b_MMo_notBelow 2 (some .boolean) ∈ G0 := mG 1069 rfl rfl
def w_MMo_notBelow : List Cond := .code y_MMo_notBelow b_MMo_notBelow 2 (some .boolean) :: G0
def rm_MMo_notBelow : Room := { frames := 0, cells := 0, slots := 0, locals := 0 }
abbrev b_MMo_adds : ByteArray := prog_12_method_33_code
def y_MMo_adds : MethodName := ⟨RM_Mo, "adds", "([I[I[III)V"⟩
set_option maxRecDepth 20000 in
theorem kc_MMo_adds : Cond.code y_MMo_adds b_MMo_adds 8 none ∈ G0 := mG 1072 rfl rfl
def w_MMo_adds : List Cond := .code y_MMo_adds b_MMo_adds 8 none :: G0
def rm_MMo_adds : Room := { frames := 0, cells := 0, slots := 0, locals := 0 }
abbrev b_MMo_quotient : ByteArray := prog_12_method_35_code
def y_MMo_quotient : MethodName := ⟨RM_Mo, "quotient", "(I)Z"⟩
set_option maxRecDepth 20000 in
theorem kc_MMo_quotient : Cond.code y_MMo_quotient b_MMo_quotient 6 (some .boolean) ∈ G0 := mG 1065 rfl rfl
def w_MMo_quotient : List Cond := .code y_MMo_quotient b_MMo_quotient 6 (some .boolean) :: G0
def rm_MMo_quotient : Room := { frames := 1, cells := 0, slots := 0, locals := 27 }
abbrev b_MMo_looksAtDigits : ByteArray := prog_12_method_27_code
def y_MMo_looksAtDigits : MethodName := ⟨RM_Mo, "looksAtDigits", "(II)V"⟩
set_option maxRecDepth 20000 in
theorem kc_MMo_looksAtDigits : Cond.code y_MMo_looksAtDigits b_MMo_looksAtDigits 6 none ∈ G0 := mG 1058 rfl rfl
def w_MMo_looksAtDigits : List Cond := .code y_MMo_looksAtDigits b_MMo_looksAtDigits 6 none :: G0
def rm_MMo_looksAtDigits : Room := { frames := 2, cells := 0, slots := 0, locals := 52 }
abbrev b_MMo_looks : ByteArray := prog_12_method_23_code
def y_MMo_looks : MethodName := ⟨RM_Mo, "looks", "()V"⟩
set_option maxRecDepth 20000 in
theorem kc_MMo_looks : Cond.code y_MMo_looks b_MMo_looks 5 none ∈ G0 := mG 1014 rfl rfl
def w_MMo_looks : List Cond := .code y_MMo_looks b_MMo_looks 5 none :: G0
def rm_MMo_looks : Room := { frames := 3, cells := 0, slots := 0, locals := 77 }
abbrev b_MMo_unpacks : ByteArray := prog_12_method_30_code
def y_MMo_unpacks : MethodName := ⟨RM_Mo, "unpacks", "(II[IZ)V"⟩
set_option maxRecDepth 20000 in
theorem kc_MMo_unpacks : Cond.code y_MMo_unpacks b_MMo_unpacks 9 none ∈ G0 := mG 1117 rfl rfl
def w_MMo_unpacks : List Cond := .code y_MMo_unpacks b_MMo_unpacks 9 none :: G0
def rm_MMo_unpacks : Room := { frames := 0, cells := 0, slots := 0, locals := 0 }
abbrev b_MMo_against : ByteArray := prog_12_method_32_code
def y_MMo_against : MethodName := ⟨RM_Mo, "against", "([I[I)I"⟩
set_option maxRecDepth 20000 in
theorem kc_MMo_against : Cond.code y_MMo_against b_MMo_against 3 (some .int) ∈ G0 := mG 1154 rfl rfl
def w_MMo_against : List Cond := .code y_MMo_against b_MMo_against 3 (some .int) :: G0
def rm_MMo_against : Room := { frames := 0, cells := 0, slots := 0, locals := 0 }
abbrev b_MMo_decimal : ByteArray := prog_12_method_37_code
def y_MMo_decimal : MethodName := ⟨RM_Mo, "decimal", "(IZ)V"⟩
set_option maxRecDepth 20000 in
theorem kc_MMo_decimal : Cond.code y_MMo_decimal b_MMo_decimal 6 none ∈ G0 := mG 1147 rfl rfl
def w_MMo_decimal : List Cond := .code y_MMo_decimal b_MMo_decimal 6 none :: G0
def rm_MMo_decimal : Room := { frames := 1, cells := 0, slots := 0, locals := 28 }
abbrev b_MMo_together : ByteArray := prog_12_method_38_code
def y_MMo_together : MethodName := ⟨RM_Mo, "together", "(IZZ)V"⟩
set_option maxRecDepth 20000 in
theorem kc_MMo_together : Cond.code y_MMo_together b_MMo_together 4 none ∈ G0 := mG 1151 rfl rfl
def w_MMo_together : List Cond := .code y_MMo_together b_MMo_together 4 none :: G0
def rm_MMo_together : Room := { frames := 2, cells := 0, slots := 0, locals := 53 }
abbrev b_MMo_digits : ByteArray := prog_12_method_39_code
def y_MMo_digits : MethodName := ⟨RM_Mo, "digits", "()V"⟩
set_option maxRecDepth 20000 in
theorem kc_MMo_digits : Cond.code y_MMo_digits b_MMo_digits 8 none ∈ G0 := mG 1143 rfl rfl
def w_MMo_digits : List Cond := .code y_MMo_digits b_MMo_digits 8 none :: G0
def rm_MMo_digits : Room := { frames := 3, cells := 0, slots := 0, locals := 76 }
abbrev b_MMo_shifts : ByteArray := prog_12_method_40_code
def y_MMo_shifts : MethodName := ⟨RM_Mo, "shifts", "()V"⟩
set_option maxRecDepth 20000 in
theorem kc_MMo_shifts : Cond.code y_MMo_shifts b_MMo_shifts 9 none ∈ G0 := mG 1139 rfl rfl
def w_MMo_shifts : List Cond := .code y_MMo_shifts b_MMo_shifts 9 none :: G0
def rm_MMo_shifts : Room := { frames := 1, cells := 0, slots := 0, locals := 20 }
abbrev b_MMo_octets : ByteArray := prog_12_method_41_code
def y_MMo_octets : MethodName := ⟨RM_Mo, "octets", "()V"⟩
set_option maxRecDepth 20000 in
theorem kc_MMo_octets : Cond.code y_MMo_octets b_MMo_octets 6 none ∈ G0 := mG 1135 rfl rfl
def w_MMo_octets : List Cond := .code y_MMo_octets b_MMo_octets 6 none :: G0
def rm_MMo_octets : Room := { frames := 0, cells := 0, slots := 0, locals := 0 }
abbrev b_MMo_signOf : ByteArray := prog_12_method_42_code
def y_MMo_signOf : MethodName := ⟨RM_Mo, "signOf", "(I)I"⟩
set_option maxRecDepth 20000 in
theorem kc_MMo_signOf : Cond.code y_MMo_signOf b_MMo_signOf 1 (some .int) ∈ G0 := mG 1095 rfl rfl
def w_MMo_signOf : List Cond := .code y_MMo_signOf b_MMo_signOf 1 (some .int) :: G0
def rm_MMo_signOf : Room := { frames := 0, cells := 0, slots := 0, locals := 0 }
abbrev b_MMo_exact : ByteArray := prog_12_method_43_code
def y_MMo_exact : MethodName := ⟨RM_Mo, "exact", "(IJ)V"⟩
set_option maxRecDepth 20000 in
theorem kc_MMo_exact : Cond.code y_MMo_exact b_MMo_exact 5 none ∈ G0 := mG 1092 rfl rfl
def w_MMo_exact : List Cond := .code y_MMo_exact b_MMo_exact 5 none :: G0
def rm_MMo_exact : Room := { frames := 1, cells := 0, slots := 0, locals := 20 }
abbrev b_MMo_plain : ByteArray := prog_12_method_44_code
def y_MMo_plain : MethodName := ⟨RM_Mo, "plain", "(IJ)V"⟩
set_option maxRecDepth 20000 in
theorem kc_MMo_plain : Cond.code y_MMo_plain b_MMo_plain 4 none ∈ G0 := mG 1109 rfl rfl
def w_MMo_plain : List Cond := .code y_MMo_plain b_MMo_plain 4 none :: G0
def rm_MMo_plain : Room := { frames := 0, cells := 0, slots := 0, locals := 0 }
abbrev b_MMo_bare : ByteArray := prog_12_method_45_code
def y_MMo_bare : MethodName := ⟨RM_Mo, "bare", "(I)J"⟩
set_option maxRecDepth 20000 in
theorem kc_MMo_bare : Cond.code y_MMo_bare b_MMo_bare 1 (some .long) ∈ G0 := mG 1102 rfl rfl
def w_MMo_bare : List Cond := .code y_MMo_bare b_MMo_bare 1 (some .long) :: G0
def rm_MMo_bare : Room := { frames := 0, cells := 0, slots := 0, locals := 0 }
abbrev b_MMo_order : ByteArray := prog_12_method_46_code
def y_MMo_order : MethodName := ⟨RM_Mo, "order", "(JJ)I"⟩
set_option maxRecDepth 20000 in
theorem kc_MMo_order : Cond.code y_MMo_order b_MMo_order 4 (some .int) ∈ G0 := mG 1105 rfl rfl
def w_MMo_order : List Cond := .code y_MMo_order b_MMo_order 4 (some .int) :: G0
def rm_MMo_order : Room := { frames := 0, cells := 0, slots := 0, locals := 0 }
abbrev b_MMo_reckons : ByteArray := prog_12_method_47_code
def y_MMo_reckons : MethodName := ⟨RM_Mo, "reckons", "(III)V"⟩
set_option maxRecDepth 20000 in
theorem kc_MMo_reckons : Cond.code y_MMo_reckons b_MMo_reckons 9 none ∈ G0 := mG 1099 rfl rfl
def w_MMo_reckons : List Cond := .code y_MMo_reckons b_MMo_reckons 9 none :: G0
def rm_MMo_reckons : Room := { frames := 2, cells := 0, slots := 0, locals := 44 }
abbrev b_MMo_goes : ByteArray := prog_12_method_48_code
def y_MMo_goes : MethodName := ⟨RM_Mo, "goes", "(ZI)V"⟩
set_option maxRecDepth 20000 in
theorem kc_MMo_goes : Cond.code y_MMo_goes b_MMo_goes 3 none ∈ G0 := mG 1084 rfl rfl
def w_MMo_goes : List Cond := .code y_MMo_goes b_MMo_goes 3 none :: G0
def rm_MMo_goes : Room := { frames := 0, cells := 0, slots := 0, locals := 0 }
abbrev b_MMo_holds : ByteArray := prog_12_method_49_code
def y_MMo_holds : MethodName := ⟨RM_Mo, "holds", "(I)Z"⟩
set_option maxRecDepth 20000 in
theorem kc_MMo_holds : Cond.code y_MMo_holds b_MMo_holds 2 (some .boolean) ∈ G0 := mG 1088 rfl rfl
def w_MMo_holds : List Cond := .code y_MMo_holds b_MMo_holds 2 (some .boolean) :: G0
def rm_MMo_holds : Room := { frames := 0, cells := 0, slots := 0, locals := 0 }
abbrev b_MMo_registers : ByteArray := prog_12_method_50_code
def y_MMo_registers : MethodName := ⟨RM_Mo, "registers", "(I)V"⟩
set_option maxRecDepth 20000 in
theorem kc_MMo_registers : Cond.code y_MMo_registers b_MMo_registers 4 none ∈ G0 := mG 1080 rfl rfl
def w_MMo_registers : List Cond := .code y_MMo_registers b_MMo_registers 4 none :: G0
def rm_MMo_registers : Room := { frames := 3, cells := 0, slots := 0, locals := 72 }
abbrev b_MMo_indexed : ByteArray := prog_12_method_51_code
def y_MMo_indexed : MethodName := ⟨RM_Mo, "indexed", "(I)V"⟩
set_option maxRecDepth 20000 in
theorem kc_MMo_indexed : Cond.code y_MMo_indexed b_MMo_indexed 11 none ∈ G0 := mG 1113 rfl rfl
def w_MMo_indexed : List Cond := .code y_MMo_indexed b_MMo_indexed 11 none :: G0
def rm_MMo_indexed : Room := { frames := 3, cells := 0, slots := 0, locals := 72 }
abbrev b_MMo_left : ByteArray := prog_12_method_53_code
def y_MMo_left : MethodName := ⟨RM_Mo, "left", "(III)V"⟩
set_option maxRecDepth 20000 in
theorem kc_MMo_left : Cond.code y_MMo_left b_MMo_left 7 none ∈ G0 := mG 1125 rfl rfl
def w_MMo_left : List Cond := .code y_MMo_left b_MMo_left 7 none :: G0
def rm_MMo_left : Room := { frames := 1, cells := 0, slots := 0, locals := 20 }
abbrev b_MMo_immediate : ByteArray := prog_12_method_54_code
def y_MMo_immediate : MethodName := ⟨RM_Mo, "immediate", "()V"⟩
set_option maxRecDepth 20000 in
theorem kc_MMo_immediate : Cond.code y_MMo_immediate b_MMo_immediate 3 none ∈ G0 := mG 1131 rfl rfl
def w_MMo_immediate : List Cond := .code y_MMo_immediate b_MMo_immediate 3 none :: G0
def rm_MMo_immediate : Room := { frames := 1, cells := 0, slots := 0, locals := 23 }
abbrev b_MMo_others : ByteArray := prog_12_method_52_code
def y_MMo_others : MethodName := ⟨RM_Mo, "others", "(I)V"⟩
set_option maxRecDepth 20000 in
theorem kc_MMo_others : Cond.code y_MMo_others b_MMo_others 10 none ∈ G0 := mG 1121 rfl rfl
def w_MMo_others : List Cond := .code y_MMo_others b_MMo_others 10 none :: G0
def rm_MMo_others : Room := { frames := 2, cells := 0, slots := 0, locals := 46 }
abbrev b_MMo_acts : ByteArray := prog_12_method_55_code
def y_MMo_acts : MethodName := ⟨RM_Mo, "acts", "()V"⟩
set_option maxRecDepth 20000 in
theorem kc_MMo_acts : Cond.code y_MMo_acts b_MMo_acts 2 none ∈ G0 := mG 1076 rfl rfl
def w_MMo_acts : List Cond := .code y_MMo_acts b_MMo_acts 2 none :: G0
def rm_MMo_acts : Room := { frames := 4, cells := 0, slots := 0, locals := 103 }
abbrev b_MMo_run : ByteArray := prog_12_method_56_code
def y_MMo_run : MethodName := ⟨RM_Mo, "run", "(I)I"⟩
set_option maxRecDepth 20000 in
theorem kc_MMo_run : Cond.code y_MMo_run b_MMo_run 3 (some .int) ∈ G0 := mG 971 rfl rfl
def w_MMo_run : List Cond := .code y_MMo_run b_MMo_run 3 (some .int) :: G0
def rm_MMo_run : Room := { frames := 5, cells := 0, slots := 0, locals := 124 }
abbrev b_MMo_packed : ByteArray := prog_12_method_57_code
def y_MMo_packed : MethodName := ⟨RM_Mo, "packed", "(II)J"⟩
set_option maxRecDepth 20000 in
theorem kc_MMo_packed : Cond.code y_MMo_packed b_MMo_packed 4 (some .long) ∈ G0 := mG 1158 rfl rfl
def w_MMo_packed : List Cond := .code y_MMo_packed b_MMo_packed 4 (some .long) :: G0
def rm_MMo_packed : Room := { frames := 2, cells := 0, slots := 0, locals := 46 }
abbrev b_MMo_count : ByteArray := prog_12_method_58_code
def y_MMo_count : MethodName := ⟨RM_Mo, "count", "(I)I"⟩
set_option maxRecDepth 20000 in
theorem kc_MMo_count : Cond.code y_MMo_count b_MMo_count 2 (some .int) ∈ G0 := mG 1162 rfl rfl
def w_MMo_count : List Cond := .code y_MMo_count b_MMo_count 2 (some .int) :: G0
def rm_MMo_count : Room := { frames := 1, cells := 0, slots := 0, locals := 25 }
set_option maxRecDepth 20000 in
theorem kM_Mo_100 : Cond.constantLong RM_Mo 100 (31) ∈ G0 := mG 987 rfl rfl
set_option maxRecDepth 20000 in
theorem kM_Mo_102 : Cond.constantLong RM_Mo 102 (67) ∈ G0 := mG 988 rfl rfl
set_option maxRecDepth 20000 in
theorem kM_Mo_104 : Cond.constantLong RM_Mo 104 (69) ∈ G0 := mG 989 rfl rfl
set_option maxRecDepth 20000 in
theorem kM_Mo_106 : Cond.constantLong RM_Mo 106 (76) ∈ G0 := mG 990 rfl rfl
set_option maxRecDepth 20000 in
theorem kM_Mo_108 : Cond.constantLong RM_Mo 108 (84) ∈ G0 := mG 991 rfl rfl
set_option maxRecDepth 20000 in
theorem kM_Mo_110 : Cond.constantLong RM_Mo 110 (95) ∈ G0 := mG 992 rfl rfl
set_option maxRecDepth 20000 in
theorem kM_Mo_112 : Cond.constantLong RM_Mo 112 (134) ∈ G0 := mG 993 rfl rfl
set_option maxRecDepth 20000 in
theorem kM_Mo_114 : Cond.constantLong RM_Mo 114 (139) ∈ G0 := mG 994 rfl rfl
set_option maxRecDepth 20000 in
theorem kM_Mo_116 : Cond.constantLong RM_Mo 116 (148) ∈ G0 := mG 995 rfl rfl
set_option maxRecDepth 20000 in
theorem kM_Mo_118 : Cond.constantLong RM_Mo 118 (152) ∈ G0 := mG 996 rfl rfl
set_option maxRecDepth 20000 in
theorem kM_Mo_120 : Cond.constantLong RM_Mo 120 (209) ∈ G0 := mG 997 rfl rfl
set_option maxRecDepth 20000 in
theorem kM_Mo_122 : Cond.constantLong RM_Mo 122 (215) ∈ G0 := mG 998 rfl rfl
set_option maxRecDepth 20000 in
theorem kM_Mo_124 : Cond.constantLong RM_Mo 124 (248) ∈ G0 := mG 999 rfl rfl
set_option maxRecDepth 20000 in
theorem kM_Mo_126 : Cond.constantLong RM_Mo 126 (253) ∈ G0 := mG 1000 rfl rfl
set_option maxRecDepth 20000 in
theorem kM_Mo_13 : Cond.fieldLink RM_Mo 13 "DecimalMachineModel" "\x72" "[I" ∈ G0 := mG 842 rfl rfl
set_option maxRecDepth 20000 in
theorem kM_Mo_132 : Cond.fieldLink RM_Mo 132 "DecimalMachineModel" "code" "I" ∈ G0 := mG 857 rfl rfl
set_option maxRecDepth 20000 in
theorem kM_Mo_135 : Cond.fieldLink RM_Mo 135 "DecimalMachineModel" "size" "I" ∈ G0 := mG 858 rfl rfl
set_option maxRecDepth 20000 in
theorem kM_Mo_142 : Cond.fieldLink RM_Mo 142 "DecimalMachineModel" "second" "I" ∈ G0 := mG 859 rfl rfl
set_option maxRecDepth 20000 in
theorem kM_Mo_149 : Cond.fieldLink RM_Mo 149 "DecimalMachineModel" "a1" "I" ∈ G0 := mG 860 rfl rfl
set_option maxRecDepth 20000 in
theorem kM_Mo_152 : Cond.fieldLink RM_Mo 152 "DecimalMachineModel" "a2" "I" ∈ G0 := mG 861 rfl rfl
set_option maxRecDepth 20000 in
theorem kM_Mo_155 : Cond.constantLong RM_Mo 155 (127) ∈ G0 := mG 1010 rfl rfl
set_option maxRecDepth 20000 in
theorem kM_Mo_157 : Cond.constantLong RM_Mo 157 (72) ∈ G0 := mG 1038 rfl rfl
set_option maxRecDepth 20000 in
theorem kM_Mo_16 : Cond.fieldLink RM_Mo 16 "DecimalMachineModel" "kept" "[I" ∈ G0 := mG 843 rfl rfl
set_option maxRecDepth 20000 in
theorem kM_Mo_19 : Cond.fieldLink RM_Mo 19 "DecimalMachineModel" "one" "[I" ∈ G0 := mG 844 rfl rfl
set_option maxRecDepth 20000 in
theorem kM_Mo_193 : Cond.constantLong RM_Mo 193 (-2147483648) ∈ G0 := mG 1028 rfl rfl
set_option maxRecDepth 20000 in
theorem kM_Mo_195 : Cond.constantLong RM_Mo 195 (2147483647) ∈ G0 := mG 1029 rfl rfl
set_option maxRecDepth 20000 in
theorem kM_Mo_197 : Cond.constantLong RM_Mo 197 (4294967295) ∈ G0 := mG 1027 rfl rfl
set_option maxRecDepth 20000 in
theorem kM_Mo_206 : Cond.constantLong RM_Mo 206 (10) ∈ G0 := mG 1050 rfl rfl
set_option maxRecDepth 20000 in
theorem kM_Mo_22 : Cond.fieldLink RM_Mo 22 "DecimalMachineModel" "two" "[I" ∈ G0 := mG 845 rfl rfl
set_option maxRecDepth 20000 in
theorem kM_Mo_25 : Cond.fieldLink RM_Mo 25 "DecimalMachineModel" "sum" "[I" ∈ G0 := mG 846 rfl rfl
set_option maxRecDepth 20000 in
theorem kM_Mo_266 : Cond.constant RM_Mo 266 (2147483647) ∈ G0 := mG 1126 rfl rfl
set_option maxRecDepth 20000 in
theorem kM_Mo_267 : Cond.constant RM_Mo 267 (-2147483648) ∈ G0 := mG 1127 rfl rfl
set_option maxRecDepth 20000 in
theorem kM_Mo_28 : Cond.fieldLink RM_Mo 28 "DecimalMachineModel" "rest" "[I" ∈ G0 := mG 847 rfl rfl
set_option maxRecDepth 20000 in
theorem kM_Mo_287 : Cond.constantLong RM_Mo 287 (200) ∈ G0 := mG 972 rfl rfl
set_option maxRecDepth 20000 in
theorem kM_Mo_298 : Cond.fieldLink RM_Mo 298 "DecimalMachineModel" "done" "I" ∈ G0 := mG 854 rfl rfl
set_option maxRecDepth 20000 in
theorem kM_Mo_301 : Cond.fieldLink RM_Mo 301 "DecimalMachineModel" "faults" "I" ∈ G0 := mG 855 rfl rfl
set_option maxRecDepth 20000 in
theorem kM_Mo_304 : Cond.fieldLink RM_Mo 304 "DecimalMachineModel" "latest" "I" ∈ G0 := mG 856 rfl rfl
set_option maxRecDepth 20000 in
theorem kM_Mo_307 : Cond.constantLong RM_Mo 307 (6) ∈ G0 := mG 1163 rfl rfl
set_option maxRecDepth 20000 in
theorem kM_Mo_31 : Cond.fieldLink RM_Mo 31 "DecimalMachineModel" "taken" "[I" ∈ G0 := mG 848 rfl rfl
set_option maxRecDepth 20000 in
theorem kM_Mo_34 : Cond.fieldLink RM_Mo 34 "DecimalMachineModel" "halt" "I" ∈ G0 := mG 853 rfl rfl
set_option maxRecDepth 20000 in
theorem kM_Mo_38 : Cond.fieldLink RM_Mo 38 "DecimalMachineModel" "err" "I" ∈ G0 := mG 849 rfl rfl
set_option maxRecDepth 20000 in
theorem kM_Mo_45 : Cond.constantLong RM_Mo 45 (255) ∈ G0 := mG 931 rfl rfl
set_option maxRecDepth 20000 in
theorem kM_Mo_47 : Cond.constantLong RM_Mo 47 (8) ∈ G0 := mG 916 rfl rfl
set_option maxRecDepth 20000 in
theorem kM_Mo_61 : Cond.constantLong RM_Mo 61 (15) ∈ G0 := mG 940 rfl rfl
set_option maxRecDepth 20000 in
theorem kM_Mo_63 : Cond.constantLong RM_Mo 63 (16777215) ∈ G0 := mG 949 rfl rfl
set_option maxRecDepth 20000 in
theorem kM_Mo_65 : Cond.constantLong RM_Mo 65 (3) ∈ G0 := mG 950 rfl rfl
set_option maxRecDepth 20000 in
theorem kM_Mo_67 : Cond.fieldLink RM_Mo 67 "DecimalMachineModel" "next" "I" ∈ G0 := mG 851 rfl rfl
set_option maxRecDepth 20000 in
theorem kM_Mo_7 : Cond.fieldLink RM_Mo 7 "DecimalMachineModel" "memory" "[I" ∈ G0 := mG 841 rfl rfl
set_option maxRecDepth 20000 in
theorem kM_Mo_70 : Cond.fieldLink RM_Mo 70 "DecimalMachineModel" "mask" "I" ∈ G0 := mG 852 rfl rfl
set_option maxRecDepth 20000 in
theorem kM_Mo_73 : Cond.fieldLink RM_Mo 73 "DecimalMachineModel" "cc" "I" ∈ G0 := mG 850 rfl rfl
set_option maxRecDepth 20000 in
theorem kM_Mo_76 : Cond.constantLong RM_Mo 76 (63) ∈ G0 := mG 955 rfl rfl
set_option maxRecDepth 20000 in
theorem kM_Mo_78 : Cond.constantLong RM_Mo 78 (64) ∈ G0 := mG 960 rfl rfl
set_option maxRecDepth 20000 in
theorem kM_Mo_80 : Cond.constantLong RM_Mo 80 (191) ∈ G0 := mG 961 rfl rfl
set_option maxRecDepth 20000 in
theorem kM_Mo_82 : Cond.constantLong RM_Mo 82 (4095) ∈ G0 := mG 962 rfl rfl
set_option maxRecDepth 20000 in
theorem kM_Mo_84 : Cond.constantLong RM_Mo 84 (192) ∈ G0 := mG 967 rfl rfl
set_option maxRecDepth 20000 in
theorem kM_Mo_86 : Cond.fieldLink RM_Mo 86 "DecimalMachineModel" "fault" "I" ∈ G0 := mG 862 rfl rfl
set_option maxRecDepth 20000 in
theorem kM_Mo_93 : Cond.constant RM_Mo 93 (16777215) ∈ G0 := mG 1009 rfl rfl
set_option maxRecDepth 20000 in
theorem kM_Mo_94 : Cond.constantLong RM_Mo 94 (5) ∈ G0 := mG 984 rfl rfl
set_option maxRecDepth 20000 in
theorem kM_Mo_96 : Cond.constantLong RM_Mo 96 (7) ∈ G0 := mG 985 rfl rfl
set_option maxRecDepth 20000 in
theorem kM_Mo_98 : Cond.constantLong RM_Mo 98 (16) ∈ G0 := mG 986 rfl rfl
def nwM : List Cond := []
theorem nwM_in : ∀ w ∈ nwM, w ∈ lw_tbl := zInL _ [] (by decide +kernel)
theorem nwM_ok : ∀ w ∈ nwM, zNest w = true := by decide +kernel
set_option maxRecDepth 20000 in
theorem kwM_0 : Cond.methodLink RM_Mo 128 y_MMo_wrong ∈ G0 := mG 977 rfl rfl
set_option maxRecDepth 20000 in
theorem kwM_1 : Cond.initialized RM_Mo ∈ G0 := mG 80 rfl rfl
set_option maxRecDepth 20000 in
theorem kwM_2 : Cond.instanceMethod y_MMo_wrong ∈ G0 := mG 979 rfl rfl
set_option maxRecDepth 20000 in
theorem kwM_3 : Cond.selects RM_Mo y_MMo_wrong y_MMo_wrong ∈ G0 := mG 37 rfl rfl
theorem qM_Mo_128 {R : Room} {s : State} {args : Array Value} (hts : ∀ w ∈ G0, w.before args s = true) (hR : (rm_MMo_wrong).frames + 1 ≤ R.frames ∧ 8 + (3 + 11) + (rm_MMo_wrong).locals ≤ R.locals) : CallW R s args RM_Mo RM_Mo 128 y_MMo_wrong b_MMo_wrong 3 none w_MMo_wrong rm_MMo_wrong 0 0 2 := cwV 2 hts (zgV kwM_0 kwM_2 kwM_3 kwM_1 kc_MMo_wrong) rfl rfl rfl (by decide +kernel) hR
set_option maxRecDepth 20000 in
theorem kwM_4 : Cond.methodLink RM_Mo 138 y_MMo_isKnown ∈ G0 := mG 981 rfl rfl
set_option maxRecDepth 20000 in
theorem kwM_5 : Cond.static y_MMo_isKnown ∈ G0 := mG 982 rfl rfl
theorem qM_Mo_138 {R : Room} {s : State} {args : Array Value} (hts : ∀ w ∈ G0, w.before args s = true) (hR : (rm_MMo_isKnown).frames + 1 ≤ R.frames ∧ 8 + (1 + 11) + (rm_MMo_isKnown).locals ≤ R.locals) : CallB R s args RM_Mo 138 y_MMo_isKnown b_MMo_isKnown 1 (some .boolean) w_MMo_isKnown rm_MMo_isKnown 0 0 1 ∧ (Cond.static y_MMo_isKnown).before args s = true := cwS 1 hts (zgS kwM_4 kwM_5 kwM_1 kc_MMo_isKnown) rfl rfl rfl (by decide +kernel) hR
set_option maxRecDepth 20000 in
theorem kwM_6 : Cond.methodLink RM_Mo 145 y_MMo_based ∈ G0 := mG 1001 rfl rfl
set_option maxRecDepth 20000 in
theorem kwM_7 : Cond.instanceMethod y_MMo_based ∈ G0 := mG 1003 rfl rfl
set_option maxRecDepth 20000 in
theorem kwM_8 : Cond.selects RM_Mo y_MMo_based y_MMo_based ∈ G0 := mG 38 rfl rfl
theorem qM_Mo_145 {R : Room} {s : State} {args : Array Value} (hts : ∀ w ∈ G0, w.before args s = true) (hR : (rm_MMo_based).frames + 1 ≤ R.frames ∧ 8 + (4 + 11) + (rm_MMo_based).locals ≤ R.locals) : CallW R s args RM_Mo RM_Mo 145 y_MMo_based b_MMo_based 4 (some .int) w_MMo_based rm_MMo_based 0 0 1 := cwV 1 hts (zgV kwM_6 kwM_7 kwM_8 kwM_1 kc_MMo_based) rfl rfl rfl (by decide +kernel) hR
set_option maxRecDepth 20000 in
theorem kwM_9 : Cond.methodLink RM_Mo 159 y_MMo_low ∈ G0 := mG 1015 rfl rfl
set_option maxRecDepth 20000 in
theorem kwM_10 : Cond.instanceMethod y_MMo_low ∈ G0 := mG 1017 rfl rfl
set_option maxRecDepth 20000 in
theorem kwM_11 : Cond.selects RM_Mo y_MMo_low y_MMo_low ∈ G0 := mG 41 rfl rfl
theorem qM_Mo_159 {R : Room} {s : State} {args : Array Value} (hts : ∀ w ∈ G0, w.before args s = true) (hR : (rm_MMo_low).frames + 1 ≤ R.frames ∧ 8 + (1 + 11) + (rm_MMo_low).locals ≤ R.locals) : CallW R s args RM_Mo RM_Mo 159 y_MMo_low b_MMo_low 1 (some .int) w_MMo_low rm_MMo_low 0 0 0 := cwV 0 hts (zgV kwM_9 kwM_10 kwM_11 kwM_1 kc_MMo_low) rfl rfl rfl (by decide +kernel) hR
set_option maxRecDepth 20000 in
theorem kwM_12 : Cond.methodLink RM_Mo 163 y_MMo_high ∈ G0 := mG 1019 rfl rfl
set_option maxRecDepth 20000 in
theorem kwM_13 : Cond.instanceMethod y_MMo_high ∈ G0 := mG 1021 rfl rfl
set_option maxRecDepth 20000 in
theorem kwM_14 : Cond.selects RM_Mo y_MMo_high y_MMo_high ∈ G0 := mG 42 rfl rfl
theorem qM_Mo_163 {R : Room} {s : State} {args : Array Value} (hts : ∀ w ∈ G0, w.before args s = true) (hR : (rm_MMo_high).frames + 1 ≤ R.frames ∧ 8 + (1 + 11) + (rm_MMo_high).locals ≤ R.locals) : CallW R s args RM_Mo RM_Mo 163 y_MMo_high b_MMo_high 1 (some .int) w_MMo_high rm_MMo_high 0 0 0 := cwV 0 hts (zgV kwM_12 kwM_13 kwM_14 kwM_1 kc_MMo_high) rfl rfl rfl (by decide +kernel) hR
set_option maxRecDepth 20000 in
theorem kwM_15 : Cond.methodLink RM_Mo 166 y_MMo_divides ∈ G0 := mG 1023 rfl rfl
set_option maxRecDepth 20000 in
theorem kwM_16 : Cond.instanceMethod y_MMo_divides ∈ G0 := mG 1025 rfl rfl
set_option maxRecDepth 20000 in
theorem kwM_17 : Cond.selects RM_Mo y_MMo_divides y_MMo_divides ∈ G0 := mG 43 rfl rfl
theorem qM_Mo_166 {R : Room} {s : State} {args : Array Value} (hts : ∀ w ∈ G0, w.before args s = true) (hR : (rm_MMo_divides).frames + 1 ≤ R.frames ∧ 8 + (4 + 11) + (rm_MMo_divides).locals ≤ R.locals) : CallW R s args RM_Mo RM_Mo 166 y_MMo_divides b_MMo_divides 4 (some .boolean) w_MMo_divides rm_MMo_divides 0 0 1 := cwV 1 hts (zgV kwM_15 kwM_16 kwM_17 kwM_1 kc_MMo_divides) rfl rfl rfl (by decide +kernel) hR
set_option maxRecDepth 20000 in
theorem kwM_18 : Cond.methodLink RM_Mo 169 y_MMo_looksAtWord ∈ G0 := mG 1030 rfl rfl
set_option maxRecDepth 20000 in
theorem kwM_19 : Cond.instanceMethod y_MMo_looksAtWord ∈ G0 := mG 1032 rfl rfl
set_option maxRecDepth 20000 in
theorem kwM_20 : Cond.selects RM_Mo y_MMo_looksAtWord y_MMo_looksAtWord ∈ G0 := mG 44 rfl rfl
theorem qM_Mo_169 {R : Room} {s : State} {args : Array Value} (hts : ∀ w ∈ G0, w.before args s = true) (hR : (rm_MMo_looksAtWord).frames + 1 ≤ R.frames ∧ 8 + (2 + 11) + (rm_MMo_looksAtWord).locals ≤ R.locals) : CallW R s args RM_Mo RM_Mo 169 y_MMo_looksAtWord b_MMo_looksAtWord 2 none w_MMo_looksAtWord rm_MMo_looksAtWord 0 0 0 := cwV 0 hts (zgV kwM_18 kwM_19 kwM_20 kwM_1 kc_MMo_looksAtWord) rfl rfl rfl (by decide +kernel) hR
set_option maxRecDepth 20000 in
theorem kwM_21 : Cond.methodLink RM_Mo 172 y_MMo_translates ∈ G0 := mG 1051 rfl rfl
set_option maxRecDepth 20000 in
theorem kwM_22 : Cond.instanceMethod y_MMo_translates ∈ G0 := mG 1053 rfl rfl
set_option maxRecDepth 20000 in
theorem kwM_23 : Cond.selects RM_Mo y_MMo_translates y_MMo_translates ∈ G0 := mG 48 rfl rfl
theorem qM_Mo_172 {R : Room} {s : State} {args : Array Value} (hts : ∀ w ∈ G0, w.before args s = true) (hR : (rm_MMo_translates).frames + 1 ≤ R.frames ∧ 8 + (5 + 11) + (rm_MMo_translates).locals ≤ R.locals) : CallW R s args RM_Mo RM_Mo 172 y_MMo_translates b_MMo_translates 5 (some .boolean) w_MMo_translates rm_MMo_translates 0 0 1 := cwV 1 hts (zgV kwM_21 kwM_22 kwM_23 kwM_1 kc_MMo_translates) rfl rfl rfl (by decide +kernel) hR
set_option maxRecDepth 20000 in
theorem kwM_24 : Cond.methodLink RM_Mo 175 y_MMo_looksAtDigits ∈ G0 := mG 1055 rfl rfl
set_option maxRecDepth 20000 in
theorem kwM_25 : Cond.instanceMethod y_MMo_looksAtDigits ∈ G0 := mG 1057 rfl rfl
set_option maxRecDepth 20000 in
theorem kwM_26 : Cond.selects RM_Mo y_MMo_looksAtDigits y_MMo_looksAtDigits ∈ G0 := mG 49 rfl rfl
theorem qM_Mo_175 {R : Room} {s : State} {args : Array Value} (hts : ∀ w ∈ G0, w.before args s = true) (hR : (rm_MMo_looksAtDigits).frames + 1 ≤ R.frames ∧ 8 + (6 + 11) + (rm_MMo_looksAtDigits).locals ≤ R.locals) : CallW R s args RM_Mo RM_Mo 175 y_MMo_looksAtDigits b_MMo_looksAtDigits 6 none w_MMo_looksAtDigits rm_MMo_looksAtDigits 0 0 2 := cwV 2 hts (zgV kwM_24 kwM_25 kwM_26 kwM_1 kc_MMo_looksAtDigits) rfl rfl rfl (by decide +kernel) hR
set_option maxRecDepth 20000 in
theorem kwM_27 : Cond.methodLink RM_Mo 179 y_MMo_width ∈ G0 := mG 1034 rfl rfl
set_option maxRecDepth 20000 in
theorem kwM_28 : Cond.instanceMethod y_MMo_width ∈ G0 := mG 1036 rfl rfl
set_option maxRecDepth 20000 in
theorem kwM_29 : Cond.selects RM_Mo y_MMo_width y_MMo_width ∈ G0 := mG 45 rfl rfl
theorem qM_Mo_179 {R : Room} {s : State} {args : Array Value} (hts : ∀ w ∈ G0, w.before args s = true) (hR : (rm_MMo_width).frames + 1 ≤ R.frames ∧ 8 + (1 + 11) + (rm_MMo_width).locals ≤ R.locals) : CallW R s args RM_Mo RM_Mo 179 y_MMo_width b_MMo_width 1 (some .int) w_MMo_width rm_MMo_width 0 0 0 := cwV 0 hts (zgV kwM_27 kwM_28 kwM_29 kwM_1 kc_MMo_width) rfl rfl rfl (by decide +kernel) hR
set_option maxRecDepth 20000 in
theorem kwM_30 : Cond.methodLink RM_Mo 182 y_MMo_packs ∈ G0 := mG 1039 rfl rfl
set_option maxRecDepth 20000 in
theorem kwM_31 : Cond.instanceMethod y_MMo_packs ∈ G0 := mG 1041 rfl rfl
set_option maxRecDepth 20000 in
theorem kwM_32 : Cond.selects RM_Mo y_MMo_packs y_MMo_packs ∈ G0 := mG 46 rfl rfl
theorem qM_Mo_182 {R : Room} {s : State} {args : Array Value} (hts : ∀ w ∈ G0, w.before args s = true) (hR : (rm_MMo_packs).frames + 1 ≤ R.frames ∧ 8 + (8 + 11) + (rm_MMo_packs).locals ≤ R.locals) : CallW R s args RM_Mo RM_Mo 182 y_MMo_packs b_MMo_packs 8 (some .boolean) w_MMo_packs rm_MMo_packs 0 0 3 := cwV 3 hts (zgV kwM_30 kwM_31 kwM_32 kwM_1 kc_MMo_packs) rfl rfl rfl (by decide +kernel) hR
set_option maxRecDepth 20000 in
theorem kwM_33 : Cond.methodLink RM_Mo 186 y_MMo_isMinus ∈ G0 := mG 1043 rfl rfl
set_option maxRecDepth 20000 in
theorem kwM_34 : Cond.instanceMethod y_MMo_isMinus ∈ G0 := mG 1045 rfl rfl
set_option maxRecDepth 20000 in
theorem kwM_35 : Cond.selects RM_Mo y_MMo_isMinus y_MMo_isMinus ∈ G0 := mG 47 rfl rfl
theorem qM_Mo_186 {R : Room} {s : State} {args : Array Value} (hts : ∀ w ∈ G0, w.before args s = true) (hR : (rm_MMo_isMinus).frames + 1 ≤ R.frames ∧ 8 + (4 + 11) + (rm_MMo_isMinus).locals ≤ R.locals) : CallW R s args RM_Mo RM_Mo 186 y_MMo_isMinus b_MMo_isMinus 4 (some .boolean) w_MMo_isMinus rm_MMo_isMinus 0 0 2 := cwV 2 hts (zgV kwM_33 kwM_34 kwM_35 kwM_1 kc_MMo_isMinus) rfl rfl rfl (by decide +kernel) hR
set_option maxRecDepth 20000 in
theorem kwM_36 : Cond.methodLink RM_Mo 189 y_MMo_value ∈ G0 := mG 1047 rfl rfl
set_option maxRecDepth 20000 in
theorem kwM_37 : Cond.static y_MMo_value ∈ G0 := mG 1048 rfl rfl
theorem qM_Mo_189 {R : Room} {s : State} {args : Array Value} (hts : ∀ w ∈ G0, w.before args s = true) (hR : (rm_MMo_value).frames + 1 ≤ R.frames ∧ 8 + (5 + 11) + (rm_MMo_value).locals ≤ R.locals) : CallB R s args RM_Mo 189 y_MMo_value b_MMo_value 5 (some .long) w_MMo_value rm_MMo_value 0 0 2 ∧ (Cond.static y_MMo_value).before args s = true := cwS 2 hts (zgS kwM_36 kwM_37 kwM_1 kc_MMo_value) rfl rfl rfl (by decide +kernel) hR
set_option maxRecDepth 20000 in
theorem kwM_38 : Cond.methodLink RM_Mo 199 y_MMo_isZero ∈ G0 := mG 1059 rfl rfl
set_option maxRecDepth 20000 in
theorem kwM_39 : Cond.static y_MMo_isZero ∈ G0 := mG 1060 rfl rfl
theorem qM_Mo_199 {R : Room} {s : State} {args : Array Value} (hts : ∀ w ∈ G0, w.before args s = true) (hR : (rm_MMo_isZero).frames + 1 ≤ R.frames ∧ 8 + (2 + 11) + (rm_MMo_isZero).locals ≤ R.locals) : CallB R s args RM_Mo 199 y_MMo_isZero b_MMo_isZero 2 (some .boolean) w_MMo_isZero rm_MMo_isZero 0 0 1 ∧ (Cond.static y_MMo_isZero).before args s = true := cwS 1 hts (zgS kwM_38 kwM_39 kwM_1 kc_MMo_isZero) rfl rfl rfl (by decide +kernel) hR
set_option maxRecDepth 20000 in
theorem kwM_40 : Cond.methodLink RM_Mo 203 y_MMo_quotient ∈ G0 := mG 1062 rfl rfl
set_option maxRecDepth 20000 in
theorem kwM_41 : Cond.instanceMethod y_MMo_quotient ∈ G0 := mG 1064 rfl rfl
set_option maxRecDepth 20000 in
theorem kwM_42 : Cond.selects RM_Mo y_MMo_quotient y_MMo_quotient ∈ G0 := mG 50 rfl rfl
theorem qM_Mo_203 {R : Room} {s : State} {args : Array Value} (hts : ∀ w ∈ G0, w.before args s = true) (hR : (rm_MMo_quotient).frames + 1 ≤ R.frames ∧ 8 + (6 + 11) + (rm_MMo_quotient).locals ≤ R.locals) : CallW R s args RM_Mo RM_Mo 203 y_MMo_quotient b_MMo_quotient 6 (some .boolean) w_MMo_quotient rm_MMo_quotient 0 0 1 := cwV 1 hts (zgV kwM_40 kwM_41 kwM_42 kwM_1 kc_MMo_quotient) rfl rfl rfl (by decide +kernel) hR
set_option maxRecDepth 20000 in
theorem kwM_43 : Cond.methodLink RM_Mo 208 y_MMo_notBelow ∈ G0 := mG 1066 rfl rfl
set_option maxRecDepth 20000 in
theorem kwM_44 : Cond.instanceMethod y_MMo_notBelow ∈ G0 := mG 1068 rfl rfl
set_option maxRecDepth 20000 in
theorem kwM_45 : Cond.selects RM_Mo y_MMo_notBelow y_MMo_notBelow ∈ G0 := mG 51 rfl rfl
theorem qM_Mo_208 {R : Room} {s : State} {args : Array Value} (hts : ∀ w ∈ G0, w.before args s = true) (hR : (rm_MMo_notBelow).frames + 1 ≤ R.frames ∧ 8 + (2 + 11) + (rm_MMo_notBelow).locals ≤ R.locals) : CallW R s args RM_Mo RM_Mo 208 y_MMo_notBelow b_MMo_notBelow 2 (some .boolean) w_MMo_notBelow rm_MMo_notBelow 0 0 0 := cwV 0 hts (zgV kwM_43 kwM_44 kwM_45 kwM_1 kc_MMo_notBelow) rfl rfl rfl (by decide +kernel) hR
set_option maxRecDepth 20000 in
theorem kwM_46 : Cond.methodLink RM_Mo 212 y_MMo_adds ∈ G0 := mG 1070 rfl rfl
set_option maxRecDepth 20000 in
theorem kwM_47 : Cond.static y_MMo_adds ∈ G0 := mG 1071 rfl rfl
theorem qM_Mo_212 {R : Room} {s : State} {args : Array Value} (hts : ∀ w ∈ G0, w.before args s = true) (hR : (rm_MMo_adds).frames + 1 ≤ R.frames ∧ 8 + (8 + 11) + (rm_MMo_adds).locals ≤ R.locals) : CallB R s args RM_Mo 212 y_MMo_adds b_MMo_adds 8 none w_MMo_adds rm_MMo_adds 0 0 5 ∧ (Cond.static y_MMo_adds).before args s = true := cwS 5 hts (zgS kwM_46 kwM_47 kwM_1 kc_MMo_adds) rfl rfl rfl (by decide +kernel) hR
set_option maxRecDepth 20000 in
theorem kwM_48 : Cond.methodLink RM_Mo 216 y_MMo_unpacks ∈ G0 := mG 1114 rfl rfl
set_option maxRecDepth 20000 in
theorem kwM_49 : Cond.instanceMethod y_MMo_unpacks ∈ G0 := mG 1116 rfl rfl
set_option maxRecDepth 20000 in
theorem kwM_50 : Cond.selects RM_Mo y_MMo_unpacks y_MMo_unpacks ∈ G0 := mG 60 rfl rfl
theorem qM_Mo_216 {R : Room} {s : State} {args : Array Value} (hts : ∀ w ∈ G0, w.before args s = true) (hR : (rm_MMo_unpacks).frames + 1 ≤ R.frames ∧ 8 + (9 + 11) + (rm_MMo_unpacks).locals ≤ R.locals) : CallW R s args RM_Mo RM_Mo 216 y_MMo_unpacks b_MMo_unpacks 9 none w_MMo_unpacks rm_MMo_unpacks 0 0 4 := cwV 4 hts (zgV kwM_48 kwM_49 kwM_50 kwM_1 kc_MMo_unpacks) rfl rfl rfl (by decide +kernel) hR
set_option maxRecDepth 20000 in
theorem kwM_51 : Cond.methodLink RM_Mo 220 y_MMo_decimal ∈ G0 := mG 1144 rfl rfl
set_option maxRecDepth 20000 in
theorem kwM_52 : Cond.instanceMethod y_MMo_decimal ∈ G0 := mG 1146 rfl rfl
set_option maxRecDepth 20000 in
theorem kwM_53 : Cond.selects RM_Mo y_MMo_decimal y_MMo_decimal ∈ G0 := mG 67 rfl rfl
theorem qM_Mo_220 {R : Room} {s : State} {args : Array Value} (hts : ∀ w ∈ G0, w.before args s = true) (hR : (rm_MMo_decimal).frames + 1 ≤ R.frames ∧ 8 + (6 + 11) + (rm_MMo_decimal).locals ≤ R.locals) : CallW R s args RM_Mo RM_Mo 220 y_MMo_decimal b_MMo_decimal 6 none w_MMo_decimal rm_MMo_decimal 0 0 2 := cwV 2 hts (zgV kwM_51 kwM_52 kwM_53 kwM_1 kc_MMo_decimal) rfl rfl rfl (by decide +kernel) hR
set_option maxRecDepth 20000 in
theorem kwM_54 : Cond.methodLink RM_Mo 224 y_MMo_against ∈ G0 := mG 1152 rfl rfl
set_option maxRecDepth 20000 in
theorem kwM_55 : Cond.static y_MMo_against ∈ G0 := mG 1153 rfl rfl
theorem qM_Mo_224 {R : Room} {s : State} {args : Array Value} (hts : ∀ w ∈ G0, w.before args s = true) (hR : (rm_MMo_against).frames + 1 ≤ R.frames ∧ 8 + (3 + 11) + (rm_MMo_against).locals ≤ R.locals) : CallB R s args RM_Mo 224 y_MMo_against b_MMo_against 3 (some .int) w_MMo_against rm_MMo_against 0 0 2 ∧ (Cond.static y_MMo_against).before args s = true := cwS 2 hts (zgS kwM_54 kwM_55 kwM_1 kc_MMo_against) rfl rfl rfl (by decide +kernel) hR
set_option maxRecDepth 20000 in
theorem kwM_56 : Cond.methodLink RM_Mo 228 y_MMo_together ∈ G0 := mG 1148 rfl rfl
set_option maxRecDepth 20000 in
theorem kwM_57 : Cond.instanceMethod y_MMo_together ∈ G0 := mG 1150 rfl rfl
set_option maxRecDepth 20000 in
theorem kwM_58 : Cond.selects RM_Mo y_MMo_together y_MMo_together ∈ G0 := mG 68 rfl rfl
theorem qM_Mo_228 {R : Room} {s : State} {args : Array Value} (hts : ∀ w ∈ G0, w.before args s = true) (hR : (rm_MMo_together).frames + 1 ≤ R.frames ∧ 8 + (4 + 11) + (rm_MMo_together).locals ≤ R.locals) : CallW R s args RM_Mo RM_Mo 228 y_MMo_together b_MMo_together 4 none w_MMo_together rm_MMo_together 0 0 3 := cwV 3 hts (zgV kwM_56 kwM_57 kwM_58 kwM_1 kc_MMo_together) rfl rfl rfl (by decide +kernel) hR
set_option maxRecDepth 20000 in
theorem kwM_59 : Cond.methodLink RM_Mo 232 y_MMo_signOf ∈ G0 := mG 1093 rfl rfl
set_option maxRecDepth 20000 in
theorem kwM_60 : Cond.static y_MMo_signOf ∈ G0 := mG 1094 rfl rfl
theorem qM_Mo_232 {R : Room} {s : State} {args : Array Value} (hts : ∀ w ∈ G0, w.before args s = true) (hR : (rm_MMo_signOf).frames + 1 ≤ R.frames ∧ 8 + (1 + 11) + (rm_MMo_signOf).locals ≤ R.locals) : CallB R s args RM_Mo 232 y_MMo_signOf b_MMo_signOf 1 (some .int) w_MMo_signOf rm_MMo_signOf 0 0 1 ∧ (Cond.static y_MMo_signOf).before args s = true := cwS 1 hts (zgS kwM_59 kwM_60 kwM_1 kc_MMo_signOf) rfl rfl rfl (by decide +kernel) hR
set_option maxRecDepth 20000 in
theorem kwM_61 : Cond.methodLink RM_Mo 235 y_MMo_bare ∈ G0 := mG 1100 rfl rfl
set_option maxRecDepth 20000 in
theorem kwM_62 : Cond.static y_MMo_bare ∈ G0 := mG 1101 rfl rfl
theorem qM_Mo_235 {R : Room} {s : State} {args : Array Value} (hts : ∀ w ∈ G0, w.before args s = true) (hR : (rm_MMo_bare).frames + 1 ≤ R.frames ∧ 8 + (1 + 11) + (rm_MMo_bare).locals ≤ R.locals) : CallB R s args RM_Mo 235 y_MMo_bare b_MMo_bare 1 (some .long) w_MMo_bare rm_MMo_bare 0 0 1 ∧ (Cond.static y_MMo_bare).before args s = true := cwS 1 hts (zgS kwM_61 kwM_62 kwM_1 kc_MMo_bare) rfl rfl rfl (by decide +kernel) hR
set_option maxRecDepth 20000 in
theorem kwM_63 : Cond.methodLink RM_Mo 239 y_MMo_order ∈ G0 := mG 1103 rfl rfl
set_option maxRecDepth 20000 in
theorem kwM_64 : Cond.static y_MMo_order ∈ G0 := mG 1104 rfl rfl
theorem qM_Mo_239 {R : Room} {s : State} {args : Array Value} (hts : ∀ w ∈ G0, w.before args s = true) (hR : (rm_MMo_order).frames + 1 ≤ R.frames ∧ 8 + (4 + 11) + (rm_MMo_order).locals ≤ R.locals) : CallB R s args RM_Mo 239 y_MMo_order b_MMo_order 4 (some .int) w_MMo_order rm_MMo_order 0 0 2 ∧ (Cond.static y_MMo_order).before args s = true := cwS 2 hts (zgS kwM_63 kwM_64 kwM_1 kc_MMo_order) rfl rfl rfl (by decide +kernel) hR
set_option maxRecDepth 20000 in
theorem kwM_65 : Cond.methodLink RM_Mo 243 y_MMo_exact ∈ G0 := mG 1089 rfl rfl
set_option maxRecDepth 20000 in
theorem kwM_66 : Cond.instanceMethod y_MMo_exact ∈ G0 := mG 1091 rfl rfl
set_option maxRecDepth 20000 in
theorem kwM_67 : Cond.selects RM_Mo y_MMo_exact y_MMo_exact ∈ G0 := mG 56 rfl rfl
theorem qM_Mo_243 {R : Room} {s : State} {args : Array Value} (hts : ∀ w ∈ G0, w.before args s = true) (hR : (rm_MMo_exact).frames + 1 ≤ R.frames ∧ 8 + (5 + 11) + (rm_MMo_exact).locals ≤ R.locals) : CallW R s args RM_Mo RM_Mo 243 y_MMo_exact b_MMo_exact 5 none w_MMo_exact rm_MMo_exact 0 0 2 := cwV 2 hts (zgV kwM_65 kwM_66 kwM_67 kwM_1 kc_MMo_exact) rfl rfl rfl (by decide +kernel) hR
set_option maxRecDepth 20000 in
theorem kwM_68 : Cond.methodLink RM_Mo 247 y_MMo_plain ∈ G0 := mG 1106 rfl rfl
set_option maxRecDepth 20000 in
theorem kwM_69 : Cond.instanceMethod y_MMo_plain ∈ G0 := mG 1108 rfl rfl
set_option maxRecDepth 20000 in
theorem kwM_70 : Cond.selects RM_Mo y_MMo_plain y_MMo_plain ∈ G0 := mG 58 rfl rfl
theorem qM_Mo_247 {R : Room} {s : State} {args : Array Value} (hts : ∀ w ∈ G0, w.before args s = true) (hR : (rm_MMo_plain).frames + 1 ≤ R.frames ∧ 8 + (4 + 11) + (rm_MMo_plain).locals ≤ R.locals) : CallW R s args RM_Mo RM_Mo 247 y_MMo_plain b_MMo_plain 4 none w_MMo_plain rm_MMo_plain 0 0 2 := cwV 2 hts (zgV kwM_68 kwM_69 kwM_70 kwM_1 kc_MMo_plain) rfl rfl rfl (by decide +kernel) hR
set_option maxRecDepth 20000 in
theorem kwM_71 : Cond.methodLink RM_Mo 250 y_MMo_goes ∈ G0 := mG 1081 rfl rfl
set_option maxRecDepth 20000 in
theorem kwM_72 : Cond.instanceMethod y_MMo_goes ∈ G0 := mG 1083 rfl rfl
set_option maxRecDepth 20000 in
theorem kwM_73 : Cond.selects RM_Mo y_MMo_goes y_MMo_goes ∈ G0 := mG 54 rfl rfl
theorem qM_Mo_250 {R : Room} {s : State} {args : Array Value} (hts : ∀ w ∈ G0, w.before args s = true) (hR : (rm_MMo_goes).frames + 1 ≤ R.frames ∧ 8 + (3 + 11) + (rm_MMo_goes).locals ≤ R.locals) : CallW R s args RM_Mo RM_Mo 250 y_MMo_goes b_MMo_goes 3 none w_MMo_goes rm_MMo_goes 0 0 2 := cwV 2 hts (zgV kwM_71 kwM_72 kwM_73 kwM_1 kc_MMo_goes) rfl rfl rfl (by decide +kernel) hR
set_option maxRecDepth 20000 in
theorem kwM_74 : Cond.methodLink RM_Mo 253 y_MMo_holds ∈ G0 := mG 1085 rfl rfl
set_option maxRecDepth 20000 in
theorem kwM_75 : Cond.instanceMethod y_MMo_holds ∈ G0 := mG 1087 rfl rfl
set_option maxRecDepth 20000 in
theorem kwM_76 : Cond.selects RM_Mo y_MMo_holds y_MMo_holds ∈ G0 := mG 55 rfl rfl
theorem qM_Mo_253 {R : Room} {s : State} {args : Array Value} (hts : ∀ w ∈ G0, w.before args s = true) (hR : (rm_MMo_holds).frames + 1 ≤ R.frames ∧ 8 + (2 + 11) + (rm_MMo_holds).locals ≤ R.locals) : CallW R s args RM_Mo RM_Mo 253 y_MMo_holds b_MMo_holds 2 (some .boolean) w_MMo_holds rm_MMo_holds 0 0 1 := cwV 1 hts (zgV kwM_74 kwM_75 kwM_76 kwM_1 kc_MMo_holds) rfl rfl rfl (by decide +kernel) hR
set_option maxRecDepth 20000 in
theorem kwM_77 : Cond.methodLink RM_Mo 256 y_MMo_reckons ∈ G0 := mG 1096 rfl rfl
set_option maxRecDepth 20000 in
theorem kwM_78 : Cond.instanceMethod y_MMo_reckons ∈ G0 := mG 1098 rfl rfl
set_option maxRecDepth 20000 in
theorem kwM_79 : Cond.selects RM_Mo y_MMo_reckons y_MMo_reckons ∈ G0 := mG 57 rfl rfl
theorem qM_Mo_256 {R : Room} {s : State} {args : Array Value} (hts : ∀ w ∈ G0, w.before args s = true) (hR : (rm_MMo_reckons).frames + 1 ≤ R.frames ∧ 8 + (9 + 11) + (rm_MMo_reckons).locals ≤ R.locals) : CallW R s args RM_Mo RM_Mo 256 y_MMo_reckons b_MMo_reckons 9 none w_MMo_reckons rm_MMo_reckons 0 0 3 := cwV 3 hts (zgV kwM_77 kwM_78 kwM_79 kwM_1 kc_MMo_reckons) rfl rfl rfl (by decide +kernel) hR
set_option maxRecDepth 20000 in
theorem kwM_80 : Cond.methodLink RM_Mo 260 y_MMo_left ∈ G0 := mG 1122 rfl rfl
set_option maxRecDepth 20000 in
theorem kwM_81 : Cond.instanceMethod y_MMo_left ∈ G0 := mG 1124 rfl rfl
set_option maxRecDepth 20000 in
theorem kwM_82 : Cond.selects RM_Mo y_MMo_left y_MMo_left ∈ G0 := mG 62 rfl rfl
theorem qM_Mo_260 {R : Room} {s : State} {args : Array Value} (hts : ∀ w ∈ G0, w.before args s = true) (hR : (rm_MMo_left).frames + 1 ≤ R.frames ∧ 8 + (7 + 11) + (rm_MMo_left).locals ≤ R.locals) : CallW R s args RM_Mo RM_Mo 260 y_MMo_left b_MMo_left 7 none w_MMo_left rm_MMo_left 0 0 3 := cwV 3 hts (zgV kwM_80 kwM_81 kwM_82 kwM_1 kc_MMo_left) rfl rfl rfl (by decide +kernel) hR
set_option maxRecDepth 20000 in
theorem kwM_83 : Cond.methodLink RM_Mo 263 y_MMo_immediate ∈ G0 := mG 1128 rfl rfl
set_option maxRecDepth 20000 in
theorem kwM_84 : Cond.instanceMethod y_MMo_immediate ∈ G0 := mG 1130 rfl rfl
set_option maxRecDepth 20000 in
theorem kwM_85 : Cond.selects RM_Mo y_MMo_immediate y_MMo_immediate ∈ G0 := mG 63 rfl rfl
theorem qM_Mo_263 {R : Room} {s : State} {args : Array Value} (hts : ∀ w ∈ G0, w.before args s = true) (hR : (rm_MMo_immediate).frames + 1 ≤ R.frames ∧ 8 + (3 + 11) + (rm_MMo_immediate).locals ≤ R.locals) : CallW R s args RM_Mo RM_Mo 263 y_MMo_immediate b_MMo_immediate 3 none w_MMo_immediate rm_MMo_immediate 0 0 0 := cwV 0 hts (zgV kwM_83 kwM_84 kwM_85 kwM_1 kc_MMo_immediate) rfl rfl rfl (by decide +kernel) hR
set_option maxRecDepth 20000 in
theorem kwM_86 : Cond.methodLink RM_Mo 268 y_MMo_registers ∈ G0 := mG 1077 rfl rfl
set_option maxRecDepth 20000 in
theorem kwM_87 : Cond.instanceMethod y_MMo_registers ∈ G0 := mG 1079 rfl rfl
set_option maxRecDepth 20000 in
theorem kwM_88 : Cond.selects RM_Mo y_MMo_registers y_MMo_registers ∈ G0 := mG 53 rfl rfl
theorem qM_Mo_268 {R : Room} {s : State} {args : Array Value} (hts : ∀ w ∈ G0, w.before args s = true) (hR : (rm_MMo_registers).frames + 1 ≤ R.frames ∧ 8 + (4 + 11) + (rm_MMo_registers).locals ≤ R.locals) : CallW R s args RM_Mo RM_Mo 268 y_MMo_registers b_MMo_registers 4 none w_MMo_registers rm_MMo_registers 0 0 1 := cwV 1 hts (zgV kwM_86 kwM_87 kwM_88 kwM_1 kc_MMo_registers) rfl rfl rfl (by decide +kernel) hR
set_option maxRecDepth 20000 in
theorem kwM_89 : Cond.methodLink RM_Mo 272 y_MMo_indexed ∈ G0 := mG 1110 rfl rfl
set_option maxRecDepth 20000 in
theorem kwM_90 : Cond.instanceMethod y_MMo_indexed ∈ G0 := mG 1112 rfl rfl
set_option maxRecDepth 20000 in
theorem kwM_91 : Cond.selects RM_Mo y_MMo_indexed y_MMo_indexed ∈ G0 := mG 59 rfl rfl
theorem qM_Mo_272 {R : Room} {s : State} {args : Array Value} (hts : ∀ w ∈ G0, w.before args s = true) (hR : (rm_MMo_indexed).frames + 1 ≤ R.frames ∧ 8 + (11 + 11) + (rm_MMo_indexed).locals ≤ R.locals) : CallW R s args RM_Mo RM_Mo 272 y_MMo_indexed b_MMo_indexed 11 none w_MMo_indexed rm_MMo_indexed 0 0 1 := cwV 1 hts (zgV kwM_89 kwM_90 kwM_91 kwM_1 kc_MMo_indexed) rfl rfl rfl (by decide +kernel) hR
set_option maxRecDepth 20000 in
theorem kwM_92 : Cond.methodLink RM_Mo 275 y_MMo_others ∈ G0 := mG 1118 rfl rfl
set_option maxRecDepth 20000 in
theorem kwM_93 : Cond.instanceMethod y_MMo_others ∈ G0 := mG 1120 rfl rfl
set_option maxRecDepth 20000 in
theorem kwM_94 : Cond.selects RM_Mo y_MMo_others y_MMo_others ∈ G0 := mG 61 rfl rfl
theorem qM_Mo_275 {R : Room} {s : State} {args : Array Value} (hts : ∀ w ∈ G0, w.before args s = true) (hR : (rm_MMo_others).frames + 1 ≤ R.frames ∧ 8 + (10 + 11) + (rm_MMo_others).locals ≤ R.locals) : CallW R s args RM_Mo RM_Mo 275 y_MMo_others b_MMo_others 10 none w_MMo_others rm_MMo_others 0 0 1 := cwV 1 hts (zgV kwM_92 kwM_93 kwM_94 kwM_1 kc_MMo_others) rfl rfl rfl (by decide +kernel) hR
set_option maxRecDepth 20000 in
theorem kwM_95 : Cond.methodLink RM_Mo 278 y_MMo_octets ∈ G0 := mG 1132 rfl rfl
set_option maxRecDepth 20000 in
theorem kwM_96 : Cond.instanceMethod y_MMo_octets ∈ G0 := mG 1134 rfl rfl
set_option maxRecDepth 20000 in
theorem kwM_97 : Cond.selects RM_Mo y_MMo_octets y_MMo_octets ∈ G0 := mG 64 rfl rfl
theorem qM_Mo_278 {R : Room} {s : State} {args : Array Value} (hts : ∀ w ∈ G0, w.before args s = true) (hR : (rm_MMo_octets).frames + 1 ≤ R.frames ∧ 8 + (6 + 11) + (rm_MMo_octets).locals ≤ R.locals) : CallW R s args RM_Mo RM_Mo 278 y_MMo_octets b_MMo_octets 6 none w_MMo_octets rm_MMo_octets 0 0 0 := cwV 0 hts (zgV kwM_95 kwM_96 kwM_97 kwM_1 kc_MMo_octets) rfl rfl rfl (by decide +kernel) hR
set_option maxRecDepth 20000 in
theorem kwM_98 : Cond.methodLink RM_Mo 281 y_MMo_shifts ∈ G0 := mG 1136 rfl rfl
set_option maxRecDepth 20000 in
theorem kwM_99 : Cond.instanceMethod y_MMo_shifts ∈ G0 := mG 1138 rfl rfl
set_option maxRecDepth 20000 in
theorem kwM_100 : Cond.selects RM_Mo y_MMo_shifts y_MMo_shifts ∈ G0 := mG 65 rfl rfl
theorem qM_Mo_281 {R : Room} {s : State} {args : Array Value} (hts : ∀ w ∈ G0, w.before args s = true) (hR : (rm_MMo_shifts).frames + 1 ≤ R.frames ∧ 8 + (9 + 11) + (rm_MMo_shifts).locals ≤ R.locals) : CallW R s args RM_Mo RM_Mo 281 y_MMo_shifts b_MMo_shifts 9 none w_MMo_shifts rm_MMo_shifts 0 0 0 := cwV 0 hts (zgV kwM_98 kwM_99 kwM_100 kwM_1 kc_MMo_shifts) rfl rfl rfl (by decide +kernel) hR
set_option maxRecDepth 20000 in
theorem kwM_101 : Cond.methodLink RM_Mo 284 y_MMo_digits ∈ G0 := mG 1140 rfl rfl
set_option maxRecDepth 20000 in
theorem kwM_102 : Cond.instanceMethod y_MMo_digits ∈ G0 := mG 1142 rfl rfl
set_option maxRecDepth 20000 in
theorem kwM_103 : Cond.selects RM_Mo y_MMo_digits y_MMo_digits ∈ G0 := mG 66 rfl rfl
theorem qM_Mo_284 {R : Room} {s : State} {args : Array Value} (hts : ∀ w ∈ G0, w.before args s = true) (hR : (rm_MMo_digits).frames + 1 ≤ R.frames ∧ 8 + (8 + 11) + (rm_MMo_digits).locals ≤ R.locals) : CallW R s args RM_Mo RM_Mo 284 y_MMo_digits b_MMo_digits 8 none w_MMo_digits rm_MMo_digits 0 0 0 := cwV 0 hts (zgV kwM_101 kwM_102 kwM_103 kwM_1 kc_MMo_digits) rfl rfl rfl (by decide +kernel) hR
set_option maxRecDepth 20000 in
theorem kwM_104 : Cond.methodLink RM_Mo 289 y_MMo_decodes ∈ G0 := mG 973 rfl rfl
set_option maxRecDepth 20000 in
theorem kwM_105 : Cond.instanceMethod y_MMo_decodes ∈ G0 := mG 975 rfl rfl
set_option maxRecDepth 20000 in
theorem kwM_106 : Cond.selects RM_Mo y_MMo_decodes y_MMo_decodes ∈ G0 := mG 36 rfl rfl
theorem qM_Mo_289 {R : Room} {s : State} {args : Array Value} (hts : ∀ w ∈ G0, w.before args s = true) (hR : (rm_MMo_decodes).frames + 1 ≤ R.frames ∧ 8 + (1 + 11) + (rm_MMo_decodes).locals ≤ R.locals) : CallW R s args RM_Mo RM_Mo 289 y_MMo_decodes b_MMo_decodes 1 none w_MMo_decodes rm_MMo_decodes 0 0 0 := cwV 0 hts (zgV kwM_104 kwM_105 kwM_106 kwM_1 kc_MMo_decodes) rfl rfl rfl (by decide +kernel) hR
set_option maxRecDepth 20000 in
theorem kwM_107 : Cond.methodLink RM_Mo 292 y_MMo_looks ∈ G0 := mG 1011 rfl rfl
set_option maxRecDepth 20000 in
theorem kwM_108 : Cond.instanceMethod y_MMo_looks ∈ G0 := mG 1013 rfl rfl
set_option maxRecDepth 20000 in
theorem kwM_109 : Cond.selects RM_Mo y_MMo_looks y_MMo_looks ∈ G0 := mG 40 rfl rfl
theorem qM_Mo_292 {R : Room} {s : State} {args : Array Value} (hts : ∀ w ∈ G0, w.before args s = true) (hR : (rm_MMo_looks).frames + 1 ≤ R.frames ∧ 8 + (5 + 11) + (rm_MMo_looks).locals ≤ R.locals) : CallW R s args RM_Mo RM_Mo 292 y_MMo_looks b_MMo_looks 5 none w_MMo_looks rm_MMo_looks 0 0 0 := cwV 0 hts (zgV kwM_107 kwM_108 kwM_109 kwM_1 kc_MMo_looks) rfl rfl rfl (by decide +kernel) hR
set_option maxRecDepth 20000 in
theorem kwM_110 : Cond.methodLink RM_Mo 295 y_MMo_acts ∈ G0 := mG 1073 rfl rfl
set_option maxRecDepth 20000 in
theorem kwM_111 : Cond.instanceMethod y_MMo_acts ∈ G0 := mG 1075 rfl rfl
set_option maxRecDepth 20000 in
theorem kwM_112 : Cond.selects RM_Mo y_MMo_acts y_MMo_acts ∈ G0 := mG 52 rfl rfl
theorem qM_Mo_295 {R : Room} {s : State} {args : Array Value} (hts : ∀ w ∈ G0, w.before args s = true) (hR : (rm_MMo_acts).frames + 1 ≤ R.frames ∧ 8 + (2 + 11) + (rm_MMo_acts).locals ≤ R.locals) : CallW R s args RM_Mo RM_Mo 295 y_MMo_acts b_MMo_acts 2 none w_MMo_acts rm_MMo_acts 0 0 0 := cwV 0 hts (zgV kwM_110 kwM_111 kwM_112 kwM_1 kc_MMo_acts) rfl rfl rfl (by decide +kernel) hR
set_option maxRecDepth 20000 in
theorem kwM_113 : Cond.methodLink RM_Mo 41 y_MMo_in ∈ G0 := mG 917 rfl rfl
set_option maxRecDepth 20000 in
theorem kwM_114 : Cond.static y_MMo_in ∈ G0 := mG 918 rfl rfl
theorem qM_Mo_41 {R : Room} {s : State} {args : Array Value} (hts : ∀ w ∈ G0, w.before args s = true) (hR : (rm_MMo_in).frames + 1 ≤ R.frames ∧ 8 + (6 + 11) + (rm_MMo_in).locals ≤ R.locals) : CallB R s args RM_Mo 41 y_MMo_in b_MMo_in 6 (some .boolean) w_MMo_in rm_MMo_in 0 0 3 ∧ (Cond.static y_MMo_in).before args s = true := cwS 3 hts (zgS kwM_113 kwM_114 kwM_1 kc_MMo_in) rfl rfl rfl (by decide +kernel) hR
set_option maxRecDepth 20000 in
theorem kwM_115 : Cond.methodLink RM_Mo 49 y_MMo_fails ∈ G0 := mG 920 rfl rfl
set_option maxRecDepth 20000 in
theorem kwM_116 : Cond.instanceMethod y_MMo_fails ∈ G0 := mG 922 rfl rfl
set_option maxRecDepth 20000 in
theorem kwM_117 : Cond.selects RM_Mo y_MMo_fails y_MMo_fails ∈ G0 := mG 34 rfl rfl
theorem qM_Mo_49 {R : Room} {s : State} {args : Array Value} (hts : ∀ w ∈ G0, w.before args s = true) (hR : (rm_MMo_fails).frames + 1 ≤ R.frames ∧ 8 + (3 + 11) + (rm_MMo_fails).locals ≤ R.locals) : CallW R s args RM_Mo RM_Mo 49 y_MMo_fails b_MMo_fails 3 (some .boolean) w_MMo_fails rm_MMo_fails 0 0 2 := cwV 2 hts (zgV kwM_115 kwM_116 kwM_117 kwM_1 kc_MMo_fails) rfl rfl rfl (by decide +kernel) hR
set_option maxRecDepth 20000 in
theorem kwM_118 : Cond.methodLink RM_Mo 53 y_MMo_lies ∈ G0 := mG 924 rfl rfl
set_option maxRecDepth 20000 in
theorem kwM_119 : Cond.static y_MMo_lies ∈ G0 := mG 925 rfl rfl
theorem qM_Mo_53 {R : Room} {s : State} {args : Array Value} (hts : ∀ w ∈ G0, w.before args s = true) (hR : (rm_MMo_lies).frames + 1 ≤ R.frames ∧ 8 + (2 + 11) + (rm_MMo_lies).locals ≤ R.locals) : CallB R s args RM_Mo 53 y_MMo_lies b_MMo_lies 2 (some .boolean) w_MMo_lies rm_MMo_lies 0 0 2 ∧ (Cond.static y_MMo_lies).before args s = true := cwS 2 hts (zgS kwM_118 kwM_119 kwM_1 kc_MMo_lies) rfl rfl rfl (by decide +kernel) hR
set_option maxRecDepth 20000 in
theorem kwM_120 : Cond.methodLink RM_Mo 57 y_MMo_store ∈ G0 := mG 927 rfl rfl
set_option maxRecDepth 20000 in
theorem kwM_121 : Cond.instanceMethod y_MMo_store ∈ G0 := mG 929 rfl rfl
set_option maxRecDepth 20000 in
theorem kwM_122 : Cond.selects RM_Mo y_MMo_store y_MMo_store ∈ G0 := mG 35 rfl rfl
theorem qM_Mo_57 {R : Room} {s : State} {args : Array Value} (hts : ∀ w ∈ G0, w.before args s = true) (hR : (rm_MMo_store).frames + 1 ≤ R.frames ∧ 8 + (6 + 11) + (rm_MMo_store).locals ≤ R.locals) : CallW R s args RM_Mo RM_Mo 57 y_MMo_store b_MMo_store 6 none w_MMo_store rm_MMo_store 0 0 3 := cwV 3 hts (zgV kwM_120 kwM_121 kwM_122 kwM_1 kc_MMo_store) rfl rfl rfl (by decide +kernel) hR
set_option maxRecDepth 20000 in
theorem kwM_123 : Cond.methodLink RM_Mo 89 y_MMo_take ∈ G0 := mG 1005 rfl rfl
set_option maxRecDepth 20000 in
theorem kwM_124 : Cond.instanceMethod y_MMo_take ∈ G0 := mG 1007 rfl rfl
set_option maxRecDepth 20000 in
theorem kwM_125 : Cond.selects RM_Mo y_MMo_take y_MMo_take ∈ G0 := mG 39 rfl rfl
theorem qM_Mo_89 {R : Room} {s : State} {args : Array Value} (hts : ∀ w ∈ G0, w.before args s = true) (hR : (rm_MMo_take).frames + 1 ≤ R.frames ∧ 8 + (6 + 11) + (rm_MMo_take).locals ≤ R.locals) : CallW R s args RM_Mo RM_Mo 89 y_MMo_take b_MMo_take 6 (some .long) w_MMo_take rm_MMo_take 0 0 2 := cwV 2 hts (zgV kwM_123 kwM_124 kwM_125 kwM_1 kc_MMo_take) rfl rfl rfl (by decide +kernel) hR
