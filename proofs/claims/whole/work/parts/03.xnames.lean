/-! the words that every method of ours is given: what of the tables' words keeps -/
def G0 : List Cond := lw_tbl.filter goodWord
theorem mG {w : Cond} (n : Nat) (h : lw_tbl[n]? = some w) (hg : goodWord w = true) : w ∈ G0 := List.mem_filter.mpr ⟨List.mem_of_getElem? h, hg⟩
theorem G0_good : ∀ w ∈ G0, w ∈ G0 ∧ ((w.onTables && w.keeps) = true ∨ ∃ ty, w = .arrayClass ty) := fun w h => ⟨h, good_of_word (List.mem_filter.mp h).2⟩
theorem zInL (ws : List Cond) (ps : List Nat) (hp : ws = ps.filterMap (fun i => lw_tbl[i]?)) : ∀ w ∈ ws, w ∈ lw_tbl := fun w h => by
  rw [hp] at h
  obtain ⟨i, -, hi⟩ := List.mem_filterMap.mp h
  exact List.mem_of_getElem? hi
theorem zIn (ws : List Cond) (ps : List Nat) (hp : ws = ps.filterMap (fun i => lw_tbl[i]?)) (h : ws.all goodWord = true) : ∀ w ∈ ws, w ∈ G0 := fun w hw => List.mem_filter.mpr ⟨zInL ws ps hp w hw, List.all_eq_true.mp h w hw⟩
theorem zgV {own C : String} {idx : Nat} {y : MethodName} {c : Cond} (h1 : Cond.methodLink own idx y ∈ G0) (h2 : Cond.instanceMethod y ∈ G0) (h3 : Cond.selects C y y ∈ G0) (h4 : Cond.initialized C ∈ G0) (h5 : c ∈ G0) : GoodIn G0 (wsV own idx C y (c :: G0)) := by
  intro w hw
  unfold wsV at hw
  simp only [List.cons_append, List.nil_append, List.mem_cons] at hw
  rcases hw with rfl | rfl | rfl | rfl | rfl | hw
  · exact G0_good _ h1
  · exact G0_good _ h2
  · exact G0_good _ h3
  · exact G0_good _ h4
  · exact G0_good _ h5
  · exact G0_good _ hw
theorem zgS {own : String} {idx : Nat} {y : MethodName} {c : Cond} (h1 : Cond.methodLink own idx y ∈ G0) (h2 : Cond.static y ∈ G0) (h4 : Cond.initialized own ∈ G0) (h5 : c ∈ G0) : GoodIn G0 (wsS own idx y (c :: G0)) := by
  intro w hw
  unfold wsS at hw
  simp only [List.cons_append, List.nil_append, List.mem_cons] at hw
  rcases hw with rfl | rfl | rfl | rfl | hw
  · exact G0_good _ h1
  · exact G0_good _ h2
  · exact G0_good _ h4
  · exact G0_good _ h5
  · exact G0_good _ hw
def RX_DM : String := "DecimalMachine"
def TX_DM : u_T := fun k => match k with
  | 0 => ("DecimalMachine", "state", "LDecimalMachine$State;", true)
  | _ => ("DecimalMachine", "processor", "LDecimalMachine$Processor;", true)
def tX_DM : Nat → FieldType := fun k => match k with
  | 0 => .object "DecimalMachine$State"
  | _ => .object "DecimalMachine$Processor"
theorem nX_DM : ∀ a, a < 2 → ∀ b, b < 2 → a ≠ b → (TX_DM a).2.1 ≠ (TX_DM b).2.1 := by decide +kernel
theorem tX_DM_ok : ∀ k, k < 2 → parseFieldDescriptor (TX_DM k).2.2.1 = some (tX_DM k) := by decide +kernel
theorem iX_DM : ∀ w ∈ u_ws RX_DM TX_DM 2, w ∈ G0 := zIn _ [304, 306] (by decide +kernel) (by decide +kernel)
def RX_St : String := "DecimalMachine$State"
def TX_St : u_T := fun k => match k with
  | 0 => ("DecimalMachine$State", "memory", "LDecimalMachine$Memory;", true)
  | 1 => ("DecimalMachine$State", "registers", "[I", true)
  | 2 => ("DecimalMachine$State", "next", "I", false)
  | 3 => ("DecimalMachine$State", "condition", "I", false)
  | 4 => ("DecimalMachine$State", "mask", "I", false)
  | _ => ("DecimalMachine$State", "halt", "I", false)
def tX_St : Nat → FieldType := fun k => match k with
  | 0 => .object "DecimalMachine$Memory"
  | 1 => .array .int
  | 2 => .int
  | 3 => .int
  | 4 => .int
  | _ => .int
theorem nX_St : ∀ a, a < 6 → ∀ b, b < 6 → a ≠ b → (TX_St a).2.1 ≠ (TX_St b).2.1 := by decide +kernel
theorem tX_St_ok : ∀ k, k < 6 → parseFieldDescriptor (TX_St k).2.2.1 = some (tX_St k) := by decide +kernel
theorem iX_St : ∀ w ∈ u_ws RX_St TX_St 6, w ∈ G0 := zIn _ [137, 139, 141, 143, 145, 147] (by decide +kernel) (by decide +kernel)
def RX_Me : String := "DecimalMachine$Memory"
def TX_Me : u_T := fun k => match k with
  | _ => ("DecimalMachine$Memory", "octets", "[I", true)
def tX_Me : Nat → FieldType := fun k => match k with
  | _ => .array .int
theorem nX_Me : ∀ a, a < 1 → ∀ b, b < 1 → a ≠ b → (TX_Me a).2.1 ≠ (TX_Me b).2.1 := by decide +kernel
theorem tX_Me_ok : ∀ k, k < 1 → parseFieldDescriptor (TX_Me k).2.2.1 = some (tX_Me k) := by decide +kernel
theorem iX_Me : ∀ w ∈ u_ws RX_Me TX_Me 1, w ∈ G0 := zIn _ [110] (by decide +kernel) (by decide +kernel)
def RX_Pr : String := "DecimalMachine$Processor"
def TX_Pr : u_T := fun k => match k with
  | 0 => ("DecimalMachine$Processor", "state", "LDecimalMachine$State;", true)
  | 1 => ("DecimalMachine$Processor", "instruction", "LDecimalMachine$Instruction;", true)
  | 2 => ("DecimalMachine$Processor", "arithmetic", "LDecimalMachine$Arithmetic;", true)
  | 3 => ("DecimalMachine$Processor", "transfers", "LDecimalMachine$Transfers;", true)
  | 4 => ("DecimalMachine$Processor", "branches", "LDecimalMachine$Branches;", true)
  | 5 => ("DecimalMachine$Processor", "octets", "LDecimalMachine$Octets;", true)
  | 6 => ("DecimalMachine$Processor", "decimals", "LDecimalMachine$Decimals;", true)
  | 7 => ("DecimalMachine$Processor", "done", "I", false)
  | 8 => ("DecimalMachine$Processor", "faults", "I", false)
  | _ => ("DecimalMachine$Processor", "latestFault", "I", false)
def tX_Pr : Nat → FieldType := fun k => match k with
  | 0 => .object "DecimalMachine$State"
  | 1 => .object "DecimalMachine$Instruction"
  | 2 => .object "DecimalMachine$Arithmetic"
  | 3 => .object "DecimalMachine$Transfers"
  | 4 => .object "DecimalMachine$Branches"
  | 5 => .object "DecimalMachine$Octets"
  | 6 => .object "DecimalMachine$Decimals"
  | 7 => .int
  | 8 => .int
  | _ => .int
theorem nX_Pr : ∀ a, a < 10 → ∀ b, b < 10 → a ≠ b → (TX_Pr a).2.1 ≠ (TX_Pr b).2.1 := by decide +kernel
theorem tX_Pr_ok : ∀ k, k < 10 → parseFieldDescriptor (TX_Pr k).2.2.1 = some (tX_Pr k) := by decide +kernel
theorem iX_Pr : ∀ w ∈ u_ws RX_Pr TX_Pr 10, w ∈ G0 := zIn _ [281, 283, 285, 287, 289, 291, 293, 295, 297, 299] (by decide +kernel) (by decide +kernel)
def RX_In : String := "DecimalMachine$Instruction"
def TX_In : u_T := fun k => match k with
  | 0 => ("DecimalMachine$Instruction", "code", "I", false)
  | 1 => ("DecimalMachine$Instruction", "second", "I", false)
  | 2 => ("DecimalMachine$Instruction", "r1", "I", false)
  | 3 => ("DecimalMachine$Instruction", "r2", "I", false)
  | 4 => ("DecimalMachine$Instruction", "a1", "I", false)
  | 5 => ("DecimalMachine$Instruction", "a2", "I", false)
  | _ => ("DecimalMachine$Instruction", "behind", "I", false)
def tX_In : Nat → FieldType := fun k => match k with
  | 0 => .int
  | 1 => .int
  | 2 => .int
  | 3 => .int
  | 4 => .int
  | 5 => .int
  | _ => .int
theorem nX_In : ∀ a, a < 7 → ∀ b, b < 7 → a ≠ b → (TX_In a).2.1 ≠ (TX_In b).2.1 := by decide +kernel
theorem tX_In_ok : ∀ k, k < 7 → parseFieldDescriptor (TX_In k).2.2.1 = some (tX_In k) := by decide +kernel
theorem iX_In : ∀ w ∈ u_ws RX_In TX_In 7, w ∈ G0 := zIn _ [194, 196, 198, 200, 202, 204, 206] (by decide +kernel) (by decide +kernel)
def RX_Ar : String := "DecimalMachine$Arithmetic"
def TX_Ar : u_T := fun k => match k with
  | _ => ("DecimalMachine$Arithmetic", "state", "LDecimalMachine$State;", true)
def tX_Ar : Nat → FieldType := fun k => match k with
  | _ => .object "DecimalMachine$State"
theorem nX_Ar : ∀ a, a < 1 → ∀ b, b < 1 → a ≠ b → (TX_Ar a).2.1 ≠ (TX_Ar b).2.1 := by decide +kernel
theorem tX_Ar_ok : ∀ k, k < 1 → parseFieldDescriptor (TX_Ar k).2.2.1 = some (tX_Ar k) := by decide +kernel
theorem iX_Ar : ∀ w ∈ u_ws RX_Ar TX_Ar 1, w ∈ G0 := zIn _ [216] (by decide +kernel) (by decide +kernel)
def RX_Tr : String := "DecimalMachine$Transfers"
def TX_Tr : u_T := fun k => match k with
  | _ => ("DecimalMachine$Transfers", "state", "LDecimalMachine$State;", true)
def tX_Tr : Nat → FieldType := fun k => match k with
  | _ => .object "DecimalMachine$State"
theorem nX_Tr : ∀ a, a < 1 → ∀ b, b < 1 → a ≠ b → (TX_Tr a).2.1 ≠ (TX_Tr b).2.1 := by decide +kernel
theorem tX_Tr_ok : ∀ k, k < 1 → parseFieldDescriptor (TX_Tr k).2.2.1 = some (tX_Tr k) := by decide +kernel
theorem iX_Tr : ∀ w ∈ u_ws RX_Tr TX_Tr 1, w ∈ G0 := zIn _ [226] (by decide +kernel) (by decide +kernel)
def RX_Br : String := "DecimalMachine$Branches"
def TX_Br : u_T := fun k => match k with
  | _ => ("DecimalMachine$Branches", "state", "LDecimalMachine$State;", true)
def tX_Br : Nat → FieldType := fun k => match k with
  | _ => .object "DecimalMachine$State"
theorem nX_Br : ∀ a, a < 1 → ∀ b, b < 1 → a ≠ b → (TX_Br a).2.1 ≠ (TX_Br b).2.1 := by decide +kernel
theorem tX_Br_ok : ∀ k, k < 1 → parseFieldDescriptor (TX_Br k).2.2.1 = some (tX_Br k) := by decide +kernel
theorem iX_Br : ∀ w ∈ u_ws RX_Br TX_Br 1, w ∈ G0 := zIn _ [236] (by decide +kernel) (by decide +kernel)
def RX_Oc : String := "DecimalMachine$Octets"
def TX_Oc : u_T := fun k => match k with
  | 0 => ("DecimalMachine$Octets", "state", "LDecimalMachine$State;", true)
  | _ => ("DecimalMachine$Octets", "memory", "LDecimalMachine$Memory;", true)
def tX_Oc : Nat → FieldType := fun k => match k with
  | 0 => .object "DecimalMachine$State"
  | _ => .object "DecimalMachine$Memory"
theorem nX_Oc : ∀ a, a < 2 → ∀ b, b < 2 → a ≠ b → (TX_Oc a).2.1 ≠ (TX_Oc b).2.1 := by decide +kernel
theorem tX_Oc_ok : ∀ k, k < 2 → parseFieldDescriptor (TX_Oc k).2.2.1 = some (tX_Oc k) := by decide +kernel
theorem iX_Oc : ∀ w ∈ u_ws RX_Oc TX_Oc 2, w ∈ G0 := zIn _ [247, 249] (by decide +kernel) (by decide +kernel)
def RX_De : String := "DecimalMachine$Decimals"
def TX_De : u_T := fun k => match k with
  | 0 => ("DecimalMachine$Decimals", "state", "LDecimalMachine$State;", true)
  | 1 => ("DecimalMachine$Decimals", "memory", "LDecimalMachine$Memory;", true)
  | _ => ("DecimalMachine$Decimals", "source", "[I", true)
def tX_De : Nat → FieldType := fun k => match k with
  | 0 => .object "DecimalMachine$State"
  | 1 => .object "DecimalMachine$Memory"
  | _ => .array .int
theorem nX_De : ∀ a, a < 3 → ∀ b, b < 3 → a ≠ b → (TX_De a).2.1 ≠ (TX_De b).2.1 := by decide +kernel
theorem tX_De_ok : ∀ k, k < 3 → parseFieldDescriptor (TX_De k).2.2.1 = some (tX_De k) := by decide +kernel
theorem iX_De : ∀ w ∈ u_ws RX_De TX_De 3, w ∈ G0 := zIn _ [261, 263, 265] (by decide +kernel) (by decide +kernel)
def clX : List vw_C := [(RX_DM, TX_DM, 2), (RX_St, TX_St, 6), (RX_Me, TX_Me, 1), (RX_Pr, TX_Pr, 10), (RX_In, TX_In, 7), (RX_Ar, TX_Ar, 1), (RX_Tr, TX_Tr, 1), (RX_Br, TX_Br, 1), (RX_Oc, TX_Oc, 2), (RX_De, TX_De, 3)]
abbrev b_XDM_isWithin : ByteArray := prog_1_method_13_code
def y_XDM_isWithin : MethodName := ⟨RX_DM, "isWithin", "(III)Z"⟩
set_option maxRecDepth 20000 in
theorem kc_XDM_isWithin : Cond.code y_XDM_isWithin b_XDM_isWithin 3 (some .boolean) ∈ G0 := mG 320 rfl rfl
def w_XDM_isWithin : List Cond := .code y_XDM_isWithin b_XDM_isWithin 3 (some .boolean) :: G0
def rm_XDM_isWithin : Room := { frames := 0, cells := 0, slots := 0, locals := 0 }
abbrev b_XDM_isNibble : ByteArray := prog_1_method_14_code
def y_XDM_isNibble : MethodName := ⟨RX_DM, "isNibble", "(I)Z"⟩
set_option maxRecDepth 20000 in
theorem kc_XDM_isNibble : Cond.code y_XDM_isNibble b_XDM_isNibble 1 (some .boolean) ∈ G0 := mG 446 rfl rfl
def w_XDM_isNibble : List Cond := .code y_XDM_isNibble b_XDM_isNibble 1 (some .boolean) :: G0
def rm_XDM_isNibble : Room := { frames := 1, cells := 0, slots := 0, locals := 22 }
abbrev b_XDM_isPlace : ByteArray := prog_1_method_15_code
def y_XDM_isPlace : MethodName := ⟨RX_DM, "isPlace", "(II)Z"⟩
set_option maxRecDepth 20000 in
theorem kc_XDM_isPlace : Cond.code y_XDM_isPlace b_XDM_isPlace 2 (some .boolean) ∈ G0 := mG 486 rfl rfl
def w_XDM_isPlace : List Cond := .code y_XDM_isPlace b_XDM_isPlace 2 (some .boolean) :: G0
def rm_XDM_isPlace : Room := { frames := 2, cells := 0, slots := 0, locals := 42 }
abbrev b_XAr_lacksPair : ByteArray := prog_2_method_6_code
def y_XAr_lacksPair : MethodName := ⟨RX_Ar, "lacksPair", "(II)Z"⟩
set_option maxRecDepth 20000 in
theorem kc_XAr_lacksPair : Cond.code y_XAr_lacksPair b_XAr_lacksPair 2 (some .boolean) ∈ G0 := mG 792 rfl rfl
def w_XAr_lacksPair : List Cond := .code y_XAr_lacksPair b_XAr_lacksPair 2 (some .boolean) :: G0
def rm_XAr_lacksPair : Room := { frames := 0, cells := 0, slots := 0, locals := 0 }
abbrev b_XSt_value : ByteArray := prog_9_method_2_code
def y_XSt_value : MethodName := ⟨RX_St, "value", "(I)I"⟩
set_option maxRecDepth 20000 in
theorem kc_XSt_value : Cond.code y_XSt_value b_XSt_value 2 (some .int) ∈ G0 := mG 450 rfl rfl
def w_XSt_value : List Cond := .code y_XSt_value b_XSt_value 2 (some .int) :: G0
def rm_XSt_value : Room := { frames := 0, cells := 0, slots := 0, locals := 0 }
abbrev b_XSt_put : ByteArray := prog_9_method_3_code
def y_XSt_put : MethodName := ⟨RX_St, "put", "(II)V"⟩
set_option maxRecDepth 20000 in
theorem kc_XSt_put : Cond.code y_XSt_put b_XSt_put 3 none ∈ G0 := mG 454 rfl rfl
def w_XSt_put : List Cond := .code y_XSt_put b_XSt_put 3 none :: G0
def rm_XSt_put : Room := { frames := 0, cells := 0, slots := 0, locals := 0 }
abbrev b_XSt_conditionBySign : ByteArray := prog_9_method_4_code
def y_XSt_conditionBySign : MethodName := ⟨RX_St, "conditionBySign", "(J)V"⟩
set_option maxRecDepth 20000 in
theorem kc_XSt_conditionBySign : Cond.code y_XSt_conditionBySign b_XSt_conditionBySign 3 none ∈ G0 := mG 613 rfl rfl
def w_XSt_conditionBySign : List Cond := .code y_XSt_conditionBySign b_XSt_conditionBySign 3 none :: G0
def rm_XSt_conditionBySign : Room := { frames := 0, cells := 0, slots := 0, locals := 0 }
abbrev b_XSt_fixedOverflow : ByteArray := prog_9_method_6_code
def y_XSt_fixedOverflow : MethodName := ⟨RX_St, "fixedOverflow", "()I"⟩
set_option maxRecDepth 20000 in
theorem kc_XSt_fixedOverflow : Cond.code y_XSt_fixedOverflow b_XSt_fixedOverflow 1 (some .int) ∈ G0 := mG 617 rfl rfl
def w_XSt_fixedOverflow : List Cond := .code y_XSt_fixedOverflow b_XSt_fixedOverflow 1 (some .int) :: G0
def rm_XSt_fixedOverflow : Room := { frames := 0, cells := 0, slots := 0, locals := 0 }
abbrev b_XAr_putSigned : ByteArray := prog_2_method_11_code
def y_XAr_putSigned : MethodName := ⟨RX_Ar, "putSigned", "(IJ)I"⟩
set_option maxRecDepth 20000 in
theorem kc_XAr_putSigned : Cond.code y_XAr_putSigned b_XAr_putSigned 5 (some .int) ∈ G0 := mG 609 rfl rfl
def w_XAr_putSigned : List Cond := .code y_XAr_putSigned b_XAr_putSigned 5 (some .int) :: G0
def rm_XAr_putSigned : Room := { frames := 1, cells := 0, slots := 0, locals := 22 }
abbrev b_XSt_conditionByBits : ByteArray := prog_9_method_5_code
def y_XSt_conditionByBits : MethodName := ⟨RX_St, "conditionByBits", "(I)V"⟩
set_option maxRecDepth 20000 in
theorem kc_XSt_conditionByBits : Cond.code y_XSt_conditionByBits b_XSt_conditionByBits 2 none ∈ G0 := mG 625 rfl rfl
def w_XSt_conditionByBits : List Cond := .code y_XSt_conditionByBits b_XSt_conditionByBits 2 none :: G0
def rm_XSt_conditionByBits : Room := { frames := 0, cells := 0, slots := 0, locals := 0 }
abbrev b_XAr_putBits : ByteArray := prog_2_method_10_code
def y_XAr_putBits : MethodName := ⟨RX_Ar, "putBits", "(II)I"⟩
set_option maxRecDepth 20000 in
theorem kc_XAr_putBits : Cond.code y_XAr_putBits b_XAr_putBits 3 (some .int) ∈ G0 := mG 621 rfl rfl
def w_XAr_putBits : List Cond := .code y_XAr_putBits b_XAr_putBits 3 (some .int) :: G0
def rm_XAr_putBits : Room := { frames := 1, cells := 0, slots := 0, locals := 22 }
abbrev b_XAr_compare : ByteArray := prog_2_method_9_code
def y_XAr_compare : MethodName := ⟨RX_Ar, "compare", "(JJ)I"⟩
set_option maxRecDepth 20000 in
theorem kc_XAr_compare : Cond.code y_XAr_compare b_XAr_compare 5 (some .int) ∈ G0 := mG 630 rfl rfl
def w_XAr_compare : List Cond := .code y_XAr_compare b_XAr_compare 5 (some .int) :: G0
def rm_XAr_compare : Room := { frames := 1, cells := 0, slots := 0, locals := 22 }
abbrev b_XAr_load : ByteArray := prog_2_method_8_code
def y_XAr_load : MethodName := ⟨RX_Ar, "load", "(II)I"⟩
set_option maxRecDepth 20000 in
theorem kc_XAr_load : Cond.code y_XAr_load b_XAr_load 3 (some .int) ∈ G0 := mG 634 rfl rfl
def w_XAr_load : List Cond := .code y_XAr_load b_XAr_load 3 (some .int) :: G0
def rm_XAr_load : Room := { frames := 1, cells := 0, slots := 0, locals := 22 }
abbrev b_XAr_multiply : ByteArray := prog_2_method_13_code
def y_XAr_multiply : MethodName := ⟨RX_Ar, "multiply", "(II)I"⟩
set_option maxRecDepth 20000 in
theorem kc_XAr_multiply : Cond.code y_XAr_multiply b_XAr_multiply 5 (some .int) ∈ G0 := mG 638 rfl rfl
def w_XAr_multiply : List Cond := .code y_XAr_multiply b_XAr_multiply 5 (some .int) :: G0
def rm_XAr_multiply : Room := { frames := 1, cells := 0, slots := 0, locals := 22 }
abbrev b_XAr_divide : ByteArray := prog_2_method_14_code
def y_XAr_divide : MethodName := ⟨RX_Ar, "divide", "(II)I"⟩
set_option maxRecDepth 20000 in
theorem kc_XAr_divide : Cond.code y_XAr_divide b_XAr_divide 7 (some .int) ∈ G0 := mG 642 rfl rfl
def w_XAr_divide : List Cond := .code y_XAr_divide b_XAr_divide 7 (some .int) :: G0
def rm_XAr_divide : Room := { frames := 1, cells := 0, slots := 0, locals := 22 }
abbrev b_XAr_putUnsigned : ByteArray := prog_2_method_12_code
def y_XAr_putUnsigned : MethodName := ⟨RX_Ar, "putUnsigned", "(IJ)I"⟩
set_option maxRecDepth 20000 in
theorem kc_XAr_putUnsigned : Cond.code y_XAr_putUnsigned b_XAr_putUnsigned 5 (some .int) ∈ G0 := mG 646 rfl rfl
def w_XAr_putUnsigned : List Cond := .code y_XAr_putUnsigned b_XAr_putUnsigned 5 (some .int) :: G0
def rm_XAr_putUnsigned : Room := { frames := 1, cells := 0, slots := 0, locals := 22 }
abbrev b_XAr_apply : ByteArray := prog_2_method_7_code
def y_XAr_apply : MethodName := ⟨RX_Ar, "apply", "(III)I"⟩
set_option maxRecDepth 20000 in
theorem kc_XAr_apply : Cond.code y_XAr_apply b_XAr_apply 5 (some .int) ∈ G0 := mG 602 rfl rfl
def w_XAr_apply : List Cond := .code y_XAr_apply b_XAr_apply 5 (some .int) :: G0
def rm_XAr_apply : Room := { frames := 2, cells := 0, slots := 0, locals := 48 }
abbrev b_XAr_withRegister : ByteArray := prog_2_method_2_code
def y_XAr_withRegister : MethodName := ⟨RX_Ar, "withRegister", "(LDecimalMachine$Instruction;)I"⟩
set_option maxRecDepth 20000 in
theorem kc_XAr_withRegister : Cond.code y_XAr_withRegister b_XAr_withRegister 2 (some .int) ∈ G0 := mG 789 rfl rfl
def w_XAr_withRegister : List Cond := .code y_XAr_withRegister b_XAr_withRegister 2 (some .int) :: G0
def rm_XAr_withRegister : Room := { frames := 3, cells := 0, slots := 0, locals := 72 }
abbrev b_XMe_holds : ByteArray := prog_6_method_2_code
def y_XMe_holds : MethodName := ⟨RX_Me, "holds", "(II)Z"⟩
set_option maxRecDepth 20000 in
theorem kc_XMe_holds : Cond.code y_XMe_holds b_XMe_holds 3 (some .boolean) ∈ G0 := mG 400 rfl rfl
def w_XMe_holds : List Cond := .code y_XMe_holds b_XMe_holds 3 (some .boolean) :: G0
def rm_XMe_holds : Room := { frames := 0, cells := 0, slots := 0, locals := 0 }
abbrev b_XMe_faultOf : ByteArray := prog_6_method_3_code
def y_XMe_faultOf : MethodName := ⟨RX_Me, "faultOf", "(II)I"⟩
set_option maxRecDepth 20000 in
theorem kc_XMe_faultOf : Cond.code y_XMe_faultOf b_XMe_faultOf 3 (some .int) ∈ G0 := mG 568 rfl rfl
def w_XMe_faultOf : List Cond := .code y_XMe_faultOf b_XMe_faultOf 3 (some .int) :: G0
def rm_XMe_faultOf : Room := { frames := 1, cells := 0, slots := 0, locals := 22 }
abbrev b_XMe_get : ByteArray := prog_6_method_4_code
def y_XMe_get : MethodName := ⟨RX_Me, "get", "(I)I"⟩
set_option maxRecDepth 20000 in
theorem kc_XMe_get : Cond.code y_XMe_get b_XMe_get 2 (some .int) ∈ G0 := mG 436 rfl rfl
def w_XMe_get : List Cond := .code y_XMe_get b_XMe_get 2 (some .int) :: G0
def rm_XMe_get : Room := { frames := 0, cells := 0, slots := 0, locals := 0 }
abbrev b_XMe_word : ByteArray := prog_6_method_7_code
def y_XMe_word : MethodName := ⟨RX_Me, "word", "(I)I"⟩
set_option maxRecDepth 20000 in
theorem kc_XMe_word : Cond.code y_XMe_word b_XMe_word 2 (some .int) ∈ G0 := mG 586 rfl rfl
def w_XMe_word : List Cond := .code y_XMe_word b_XMe_word 2 (some .int) :: G0
def rm_XMe_word : Room := { frames := 1, cells := 0, slots := 0, locals := 21 }
abbrev b_XAr_withWord : ByteArray := prog_2_method_3_code
def y_XAr_withWord : MethodName := ⟨RX_Ar, "withWord", "(LDecimalMachine$Instruction;)I"⟩
set_option maxRecDepth 20000 in
theorem kc_XAr_withWord : Cond.code y_XAr_withWord b_XAr_withWord 4 (some .int) ∈ G0 := mG 796 rfl rfl
def w_XAr_withWord : List Cond := .code y_XAr_withWord b_XAr_withWord 4 (some .int) :: G0
def rm_XAr_withWord : Room := { frames := 3, cells := 0, slots := 0, locals := 72 }
abbrev b_XMe_half : ByteArray := prog_6_method_6_code
def y_XMe_half : MethodName := ⟨RX_Me, "half", "(I)I"⟩
set_option maxRecDepth 20000 in
theorem kc_XMe_half : Cond.code y_XMe_half b_XMe_half 2 (some .int) ∈ G0 := mG 596 rfl rfl
def w_XMe_half : List Cond := .code y_XMe_half b_XMe_half 2 (some .int) :: G0
def rm_XMe_half : Room := { frames := 1, cells := 0, slots := 0, locals := 21 }
abbrev b_XAr_withHalf : ByteArray := prog_2_method_4_code
def y_XAr_withHalf : MethodName := ⟨RX_Ar, "withHalf", "(LDecimalMachine$Instruction;)I"⟩
set_option maxRecDepth 20000 in
theorem kc_XAr_withHalf : Cond.code y_XAr_withHalf b_XAr_withHalf 4 (some .int) ∈ G0 := mG 591 rfl rfl
def w_XAr_withHalf : List Cond := .code y_XAr_withHalf b_XAr_withHalf 4 (some .int) :: G0
def rm_XAr_withHalf : Room := { frames := 3, cells := 0, slots := 0, locals := 72 }
abbrev b_XAr_shiftLeftBelowSign : ByteArray := prog_2_method_15_code
def y_XAr_shiftLeftBelowSign : MethodName := ⟨RX_Ar, "shiftLeftBelowSign", "(II)I"⟩
set_option maxRecDepth 20000 in
theorem kc_XAr_shiftLeftBelowSign : Cond.code y_XAr_shiftLeftBelowSign b_XAr_shiftLeftBelowSign 8 (some .int) ∈ G0 := mG 684 rfl rfl
def w_XAr_shiftLeftBelowSign : List Cond := .code y_XAr_shiftLeftBelowSign b_XAr_shiftLeftBelowSign 8 (some .int) :: G0
def rm_XAr_shiftLeftBelowSign : Room := { frames := 1, cells := 0, slots := 0, locals := 22 }
abbrev b_XAr_shift : ByteArray := prog_2_method_5_code
def y_XAr_shift : MethodName := ⟨RX_Ar, "shift", "(LDecimalMachine$Instruction;)I"⟩
set_option maxRecDepth 20000 in
theorem kc_XAr_shift : Cond.code y_XAr_shift b_XAr_shift 4 (some .int) ∈ G0 := mG 680 rfl rfl
def w_XAr_shift : List Cond := .code y_XAr_shift b_XAr_shift 4 (some .int) :: G0
def rm_XAr_shift : Room := { frames := 2, cells := 0, slots := 0, locals := 49 }
abbrev b_XBr_isAboveAfterStep : ByteArray := prog_3_method_4_code
def y_XBr_isAboveAfterStep : MethodName := ⟨RX_Br, "isAboveAfterStep", "(LDecimalMachine$Instruction;)Z"⟩
set_option maxRecDepth 20000 in
theorem kc_XBr_isAboveAfterStep : Cond.code y_XBr_isAboveAfterStep b_XBr_isAboveAfterStep 4 (some .boolean) ∈ G0 := mG 556 rfl rfl
def w_XBr_isAboveAfterStep : List Cond := .code y_XBr_isAboveAfterStep b_XBr_isAboveAfterStep 4 (some .boolean) :: G0
def rm_XBr_isAboveAfterStep : Room := { frames := 1, cells := 0, slots := 0, locals := 22 }
abbrev b_XBr_decide : ByteArray := prog_3_method_3_code
def y_XBr_decide : MethodName := ⟨RX_Br, "decide", "(LDecimalMachine$Instruction;)Z"⟩
set_option maxRecDepth 20000 in
theorem kc_XBr_decide : Cond.code y_XBr_decide b_XBr_decide 2 (some .boolean) ∈ G0 := mG 551 rfl rfl
def w_XBr_decide : List Cond := .code y_XBr_decide b_XBr_decide 2 (some .boolean) :: G0
def rm_XBr_decide : Room := { frames := 2, cells := 0, slots := 0, locals := 45 }
abbrev b_XBr_perform : ByteArray := prog_3_method_2_code
def y_XBr_perform : MethodName := ⟨RX_Br, "perform", "(LDecimalMachine$Instruction;)I"⟩
set_option maxRecDepth 20000 in
theorem kc_XBr_perform : Cond.code y_XBr_perform b_XBr_perform 5 (some .int) ∈ G0 := mG 545 rfl rfl
def w_XBr_perform : List Cond := .code y_XBr_perform b_XBr_perform 5 (some .int) :: G0
def rm_XBr_perform : Room := { frames := 3, cells := 0, slots := 0, locals := 66 }
abbrev b_XMe_put : ByteArray := prog_6_method_5_code
def y_XMe_put : MethodName := ⟨RX_Me, "put", "(II)V"⟩
set_option maxRecDepth 20000 in
theorem kc_XMe_put : Cond.code y_XMe_put b_XMe_put 3 none ∈ G0 := mG 425 rfl rfl
def w_XMe_put : List Cond := .code y_XMe_put b_XMe_put 3 none :: G0
def rm_XMe_put : Room := { frames := 0, cells := 0, slots := 0, locals := 0 }
abbrev b_XMe_putDecimal : ByteArray := prog_6_method_12_code
def y_XMe_putDecimal : MethodName := ⟨RX_Me, "putDecimal", "(IIJZ)V"⟩
set_option maxRecDepth 20000 in
theorem kc_XMe_putDecimal : Cond.code y_XMe_putDecimal b_XMe_putDecimal 10 none ∈ G0 := mG 657 rfl rfl
def w_XMe_putDecimal : List Cond := .code y_XMe_putDecimal b_XMe_putDecimal 10 none :: G0
def rm_XMe_putDecimal : Room := { frames := 1, cells := 0, slots := 0, locals := 22 }
abbrev b_XMe_isPacked : ByteArray := prog_6_method_9_code
def y_XMe_isPacked : MethodName := ⟨RX_Me, "isPacked", "(II)Z"⟩
set_option maxRecDepth 20000 in
theorem kc_XMe_isPacked : Cond.code y_XMe_isPacked b_XMe_isPacked 7 (some .boolean) ∈ G0 := mG 667 rfl rfl
def w_XMe_isPacked : List Cond := .code y_XMe_isPacked b_XMe_isPacked 7 (some .boolean) :: G0
def rm_XMe_isPacked : Room := { frames := 1, cells := 0, slots := 0, locals := 21 }
abbrev b_XMe_isMinus : ByteArray := prog_6_method_10_code
def y_XMe_isMinus : MethodName := ⟨RX_Me, "isMinus", "(II)Z"⟩
set_option maxRecDepth 20000 in
theorem kc_XMe_isMinus : Cond.code y_XMe_isMinus b_XMe_isMinus 4 (some .boolean) ∈ G0 := mG 675 rfl rfl
def w_XMe_isMinus : List Cond := .code y_XMe_isMinus b_XMe_isMinus 4 (some .boolean) :: G0
def rm_XMe_isMinus : Room := { frames := 1, cells := 0, slots := 0, locals := 21 }
abbrev b_XMe_decimal : ByteArray := prog_6_method_11_code
def y_XMe_decimal : MethodName := ⟨RX_Me, "decimal", "(II)J"⟩
set_option maxRecDepth 20000 in
theorem kc_XMe_decimal : Cond.code y_XMe_decimal b_XMe_decimal 7 (some .long) ∈ G0 := mG 671 rfl rfl
def w_XMe_decimal : List Cond := .code y_XMe_decimal b_XMe_decimal 7 (some .long) :: G0
def rm_XMe_decimal : Room := { frames := 2, cells := 0, slots := 0, locals := 44 }
abbrev b_XDe_convertToBinary : ByteArray := prog_4_method_3_code
def y_XDe_convertToBinary : MethodName := ⟨RX_De, "convertToBinary", "(LDecimalMachine$Instruction;)I"⟩
set_option maxRecDepth 20000 in
theorem kc_XDe_convertToBinary : Cond.code y_XDe_convertToBinary b_XDe_convertToBinary 4 (some .int) ∈ G0 := mG 663 rfl rfl
def w_XDe_convertToBinary : List Cond := .code y_XDe_convertToBinary b_XDe_convertToBinary 4 (some .int) :: G0
def rm_XDe_convertToBinary : Room := { frames := 3, cells := 0, slots := 0, locals := 70 }
abbrev b_XDe_convert : ByteArray := prog_4_method_2_code
def y_XDe_convert : MethodName := ⟨RX_De, "convert", "(LDecimalMachine$Instruction;)I"⟩
set_option maxRecDepth 20000 in
theorem kc_XDe_convert : Cond.code y_XDe_convert b_XDe_convert 5 (some .int) ∈ G0 := mG 650 rfl rfl
def w_XDe_convert : List Cond := .code y_XDe_convert b_XDe_convert 5 (some .int) :: G0
def rm_XDe_convert : Room := { frames := 4, cells := 0, slots := 0, locals := 93 }
abbrev b_XDe_sourceOctet : ByteArray := prog_4_method_5_code
def y_XDe_sourceOctet : MethodName := ⟨RX_De, "sourceOctet", "(I)I"⟩
set_option maxRecDepth 20000 in
theorem kc_XDe_sourceOctet : Cond.code y_XDe_sourceOctet b_XDe_sourceOctet 2 (some .int) ∈ G0 := mG 737 rfl rfl
def w_XDe_sourceOctet : List Cond := .code y_XDe_sourceOctet b_XDe_sourceOctet 2 (some .int) :: G0
def rm_XDe_sourceOctet : Room := { frames := 0, cells := 0, slots := 0, locals := 0 }
abbrev b_XDe_packRest : ByteArray := prog_4_method_6_code
def y_XDe_packRest : MethodName := ⟨RX_De, "packRest", "(III)V"⟩
set_option maxRecDepth 20000 in
theorem kc_XDe_packRest : Cond.code y_XDe_packRest b_XDe_packRest 8 none ∈ G0 := mG 742 rfl rfl
def w_XDe_packRest : List Cond := .code y_XDe_packRest b_XDe_packRest 8 none :: G0
def rm_XDe_packRest : Room := { frames := 1, cells := 0, slots := 0, locals := 22 }
abbrev b_XDe_unpackRest : ByteArray := prog_4_method_7_code
def y_XDe_unpackRest : MethodName := ⟨RX_De, "unpackRest", "(III)V"⟩
set_option maxRecDepth 20000 in
theorem kc_XDe_unpackRest : Cond.code y_XDe_unpackRest b_XDe_unpackRest 7 none ∈ G0 := mG 746 rfl rfl
def w_XDe_unpackRest : List Cond := .code y_XDe_unpackRest b_XDe_unpackRest 7 none :: G0
def rm_XDe_unpackRest : Room := { frames := 1, cells := 0, slots := 0, locals := 22 }
abbrev b_XDe_changeForm : ByteArray := prog_4_method_4_code
def y_XDe_changeForm : MethodName := ⟨RX_De, "changeForm", "(LDecimalMachine$Instruction;)I"⟩
set_option maxRecDepth 20000 in
theorem kc_XDe_changeForm : Cond.code y_XDe_changeForm b_XDe_changeForm 5 (some .int) ∈ G0 := mG 731 rfl rfl
def w_XDe_changeForm : List Cond := .code y_XDe_changeForm b_XDe_changeForm 5 (some .int) :: G0
def rm_XDe_changeForm : Room := { frames := 2, cells := 0, slots := 0, locals := 49 }
abbrev b_XDe_startsWithZeros : ByteArray := prog_4_method_10_code
def y_XDe_startsWithZeros : MethodName := ⟨RX_De, "startsWithZeros", "(II)Z"⟩
set_option maxRecDepth 20000 in
theorem kc_XDe_startsWithZeros : Cond.code y_XDe_startsWithZeros b_XDe_startsWithZeros 5 (some .boolean) ∈ G0 := mG 758 rfl rfl
def w_XDe_startsWithZeros : List Cond := .code y_XDe_startsWithZeros b_XDe_startsWithZeros 5 (some .boolean) :: G0
def rm_XDe_startsWithZeros : Room := { frames := 1, cells := 0, slots := 0, locals := 21 }
abbrev b_XDe_faultOfFields : ByteArray := prog_4_method_9_code
def y_XDe_faultOfFields : MethodName := ⟨RX_De, "faultOfFields", "(LDecimalMachine$Instruction;II)I"⟩
set_option maxRecDepth 20000 in
theorem kc_XDe_faultOfFields : Cond.code y_XDe_faultOfFields b_XDe_faultOfFields 6 (some .int) ∈ G0 := mG 754 rfl rfl
def w_XDe_faultOfFields : List Cond := .code y_XDe_faultOfFields b_XDe_faultOfFields 6 (some .int) :: G0
def rm_XDe_faultOfFields : Room := { frames := 2, cells := 0, slots := 0, locals := 47 }
abbrev b_XDe_hasRoom : ByteArray := prog_4_method_11_code
def y_XDe_hasRoom : MethodName := ⟨RX_De, "hasRoom", "(JI)Z"⟩
set_option maxRecDepth 20000 in
theorem kc_XDe_hasRoom : Cond.code y_XDe_hasRoom b_XDe_hasRoom 6 (some .boolean) ∈ G0 := mG 766 rfl rfl
def w_XDe_hasRoom : List Cond := .code y_XDe_hasRoom b_XDe_hasRoom 6 (some .boolean) :: G0
def rm_XDe_hasRoom : Room := { frames := 0, cells := 0, slots := 0, locals := 0 }
abbrev b_XSt_decimalOverflow : ByteArray := prog_9_method_7_code
def y_XSt_decimalOverflow : MethodName := ⟨RX_St, "decimalOverflow", "()I"⟩
set_option maxRecDepth 20000 in
theorem kc_XSt_decimalOverflow : Cond.code y_XSt_decimalOverflow b_XSt_decimalOverflow 1 (some .int) ∈ G0 := mG 772 rfl rfl
def w_XSt_decimalOverflow : List Cond := .code y_XSt_decimalOverflow b_XSt_decimalOverflow 1 (some .int) :: G0
def rm_XSt_decimalOverflow : Room := { frames := 0, cells := 0, slots := 0, locals := 0 }
abbrev b_XDe_putSum : ByteArray := prog_4_method_12_code
def y_XDe_putSum : MethodName := ⟨RX_De, "putSum", "(IIJ)I"⟩
set_option maxRecDepth 20000 in
theorem kc_XDe_putSum : Cond.code y_XDe_putSum b_XDe_putSum 7 (some .int) ∈ G0 := mG 762 rfl rfl
def w_XDe_putSum : List Cond := .code y_XDe_putSum b_XDe_putSum 7 (some .int) :: G0
def rm_XDe_putSum : Room := { frames := 2, cells := 0, slots := 0, locals := 51 }
abbrev b_XDe_multiply : ByteArray := prog_4_method_13_code
def y_XDe_multiply : MethodName := ⟨RX_De, "multiply", "(LDecimalMachine$Instruction;II)I"⟩
set_option maxRecDepth 20000 in
theorem kc_XDe_multiply : Cond.code y_XDe_multiply b_XDe_multiply 7 (some .int) ∈ G0 := mG 776 rfl rfl
def w_XDe_multiply : List Cond := .code y_XDe_multiply b_XDe_multiply 7 (some .int) :: G0
def rm_XDe_multiply : Room := { frames := 3, cells := 0, slots := 0, locals := 70 }
abbrev b_XDe_divide : ByteArray := prog_4_method_14_code
def y_XDe_divide : MethodName := ⟨RX_De, "divide", "(LDecimalMachine$Instruction;II)I"⟩
set_option maxRecDepth 20000 in
theorem kc_XDe_divide : Cond.code y_XDe_divide b_XDe_divide 11 (some .int) ∈ G0 := mG 781 rfl rfl
def w_XDe_divide : List Cond := .code y_XDe_divide b_XDe_divide 11 (some .int) :: G0
def rm_XDe_divide : Room := { frames := 3, cells := 0, slots := 0, locals := 70 }
abbrev b_XDe_calculate : ByteArray := prog_4_method_8_code
def y_XDe_calculate : MethodName := ⟨RX_De, "calculate", "(LDecimalMachine$Instruction;)I"⟩
set_option maxRecDepth 20000 in
theorem kc_XDe_calculate : Cond.code y_XDe_calculate b_XDe_calculate 9 (some .int) ∈ G0 := mG 750 rfl rfl
def w_XDe_calculate : List Cond := .code y_XDe_calculate b_XDe_calculate 9 (some .int) :: G0
def rm_XDe_calculate : Room := { frames := 4, cells := 0, slots := 0, locals := 100 }
abbrev b_XIn_place : ByteArray := prog_5_method_4_code
def y_XIn_place : MethodName := ⟨RX_In, "place", "(LDecimalMachine$State;I)I"⟩
set_option maxRecDepth 20000 in
theorem kc_XIn_place : Cond.code y_XIn_place b_XIn_place 4 (some .int) ∈ G0 := mG 536 rfl rfl
def w_XIn_place : List Cond := .code y_XIn_place b_XIn_place 4 (some .int) :: G0
def rm_XIn_place : Room := { frames := 1, cells := 0, slots := 0, locals := 21 }
abbrev b_XIn_findAddresses : ByteArray := prog_5_method_3_code
def y_XIn_findAddresses : MethodName := ⟨RX_In, "findAddresses", "(LDecimalMachine$State;I)V"⟩
set_option maxRecDepth 20000 in
theorem kc_XIn_findAddresses : Cond.code y_XIn_findAddresses b_XIn_findAddresses 4 none ∈ G0 := mG 532 rfl rfl
def w_XIn_findAddresses : List Cond := .code y_XIn_findAddresses b_XIn_findAddresses 4 none :: G0
def rm_XIn_findAddresses : Room := { frames := 2, cells := 0, slots := 0, locals := 44 }
abbrev b_XIn_fetch : ByteArray := prog_5_method_2_code
def y_XIn_fetch : MethodName := ⟨RX_In, "fetch", "(LDecimalMachine$State;)I"⟩
set_option maxRecDepth 20000 in
theorem kc_XIn_fetch : Cond.code y_XIn_fetch b_XIn_fetch 4 (some .int) ∈ G0 := mG 526 rfl rfl
def w_XIn_fetch : List Cond := .code y_XIn_fetch b_XIn_fetch 4 (some .int) :: G0
def rm_XIn_fetch : Room := { frames := 3, cells := 0, slots := 0, locals := 67 }
abbrev b_XMe_store : ByteArray := prog_6_method_8_code
def y_XMe_store : MethodName := ⟨RX_Me, "store", "(IIJ)V"⟩
set_option maxRecDepth 20000 in
theorem kc_XMe_store : Cond.code y_XMe_store b_XMe_store 8 none ∈ G0 := mG 420 rfl rfl
def w_XMe_store : List Cond := .code y_XMe_store b_XMe_store 8 none :: G0
def rm_XMe_store : Room := { frames := 1, cells := 0, slots := 0, locals := 22 }
abbrev b_XOc_testBits : ByteArray := prog_7_method_4_code
def y_XOc_testBits : MethodName := ⟨RX_Oc, "testBits", "(II)V"⟩
set_option maxRecDepth 20000 in
theorem kc_XOc_testBits : Cond.code y_XOc_testBits b_XOc_testBits 4 none ∈ G0 := mG 696 rfl rfl
def w_XOc_testBits : List Cond := .code y_XOc_testBits b_XOc_testBits 4 none :: G0
def rm_XOc_testBits : Room := { frames := 0, cells := 0, slots := 0, locals := 0 }
abbrev b_XOc_putBits : ByteArray := prog_7_method_5_code
def y_XOc_putBits : MethodName := ⟨RX_Oc, "putBits", "(II)I"⟩
set_option maxRecDepth 20000 in
theorem kc_XOc_putBits : Cond.code y_XOc_putBits b_XOc_putBits 3 (some .int) ∈ G0 := mG 701 rfl rfl
def w_XOc_putBits : List Cond := .code y_XOc_putBits b_XOc_putBits 3 (some .int) :: G0
def rm_XOc_putBits : Room := { frames := 1, cells := 0, slots := 0, locals := 22 }
abbrev b_XOc_withImmediate : ByteArray := prog_7_method_2_code
def y_XOc_withImmediate : MethodName := ⟨RX_Oc, "withImmediate", "(LDecimalMachine$Instruction;)I"⟩
set_option maxRecDepth 20000 in
theorem kc_XOc_withImmediate : Cond.code y_XOc_withImmediate b_XOc_withImmediate 3 (some .int) ∈ G0 := mG 690 rfl rfl
def w_XOc_withImmediate : List Cond := .code y_XOc_withImmediate b_XOc_withImmediate 3 (some .int) :: G0
def rm_XOc_withImmediate : Room := { frames := 2, cells := 0, slots := 0, locals := 44 }
abbrev b_XOc_entry : ByteArray := prog_7_method_10_code
def y_XOc_entry : MethodName := ⟨RX_Oc, "entry", "(LDecimalMachine$Instruction;I)I"⟩
set_option maxRecDepth 20000 in
theorem kc_XOc_entry : Cond.code y_XOc_entry b_XOc_entry 3 (some .int) ∈ G0 := mG 715 rfl rfl
def w_XOc_entry : List Cond := .code y_XOc_entry b_XOc_entry 3 (some .int) :: G0
def rm_XOc_entry : Room := { frames := 1, cells := 0, slots := 0, locals := 21 }
abbrev b_XOc_translate : ByteArray := prog_7_method_9_code
def y_XOc_translate : MethodName := ⟨RX_Oc, "translate", "(LDecimalMachine$Instruction;I)I"⟩
set_option maxRecDepth 20000 in
theorem kc_XOc_translate : Cond.code y_XOc_translate b_XOc_translate 4 (some .int) ∈ G0 := mG 711 rfl rfl
def w_XOc_translate : List Cond := .code y_XOc_translate b_XOc_translate 4 (some .int) :: G0
def rm_XOc_translate : Room := { frames := 2, cells := 0, slots := 0, locals := 43 }
abbrev b_XOc_compare : ByteArray := prog_7_method_6_code
def y_XOc_compare : MethodName := ⟨RX_Oc, "compare", "(LDecimalMachine$Instruction;I)I"⟩
set_option maxRecDepth 20000 in
theorem kc_XOc_compare : Cond.code y_XOc_compare b_XOc_compare 5 (some .int) ∈ G0 := mG 720 rfl rfl
def w_XOc_compare : List Cond := .code y_XOc_compare b_XOc_compare 5 (some .int) :: G0
def rm_XOc_compare : Room := { frames := 1, cells := 0, slots := 0, locals := 22 }
abbrev b_XOc_join : ByteArray := prog_7_method_8_code
def y_XOc_join : MethodName := ⟨RX_Oc, "join", "(III)I"⟩
set_option maxRecDepth 20000 in
theorem kc_XOc_join : Cond.code y_XOc_join b_XOc_join 3 (some .int) ∈ G0 := mG 727 rfl rfl
def w_XOc_join : List Cond := .code y_XOc_join b_XOc_join 3 (some .int) :: G0
def rm_XOc_join : Room := { frames := 0, cells := 0, slots := 0, locals := 0 }
abbrev b_XOc_rewrite : ByteArray := prog_7_method_7_code
def y_XOc_rewrite : MethodName := ⟨RX_Oc, "rewrite", "(LDecimalMachine$Instruction;I)I"⟩
set_option maxRecDepth 20000 in
theorem kc_XOc_rewrite : Cond.code y_XOc_rewrite b_XOc_rewrite 6 (some .int) ∈ G0 := mG 724 rfl rfl
def w_XOc_rewrite : List Cond := .code y_XOc_rewrite b_XOc_rewrite 6 (some .int) :: G0
def rm_XOc_rewrite : Room := { frames := 1, cells := 0, slots := 0, locals := 22 }
abbrev b_XOc_withField : ByteArray := prog_7_method_3_code
def y_XOc_withField : MethodName := ⟨RX_Oc, "withField", "(LDecimalMachine$Instruction;)I"⟩
set_option maxRecDepth 20000 in
theorem kc_XOc_withField : Cond.code y_XOc_withField b_XOc_withField 3 (some .int) ∈ G0 := mG 707 rfl rfl
def w_XOc_withField : List Cond := .code y_XOc_withField b_XOc_withField 3 (some .int) :: G0
def rm_XOc_withField : Room := { frames := 3, cells := 0, slots := 0, locals := 66 }
abbrev b_XTr_store : ByteArray := prog_10_method_3_code
def y_XTr_store : MethodName := ⟨RX_Tr, "store", "(LDecimalMachine$Instruction;I)I"⟩
set_option maxRecDepth 20000 in
theorem kc_XTr_store : Cond.code y_XTr_store b_XTr_store 4 (some .int) ∈ G0 := mG 564 rfl rfl
def w_XTr_store : List Cond := .code y_XTr_store b_XTr_store 4 (some .int) :: G0
def rm_XTr_store : Room := { frames := 2, cells := 0, slots := 0, locals := 49 }
abbrev b_XTr_insert : ByteArray := prog_10_method_4_code
def y_XTr_insert : MethodName := ⟨RX_Tr, "insert", "(LDecimalMachine$Instruction;)I"⟩
set_option maxRecDepth 20000 in
theorem kc_XTr_insert : Cond.code y_XTr_insert b_XTr_insert 2 (some .int) ∈ G0 := mG 576 rfl rfl
def w_XTr_insert : List Cond := .code y_XTr_insert b_XTr_insert 2 (some .int) :: G0
def rm_XTr_insert : Room := { frames := 1, cells := 0, slots := 0, locals := 22 }
abbrev b_XTr_several : ByteArray := prog_10_method_5_code
def y_XTr_several : MethodName := ⟨RX_Tr, "several", "(LDecimalMachine$Instruction;)I"⟩
set_option maxRecDepth 20000 in
theorem kc_XTr_several : Cond.code y_XTr_several b_XTr_several 5 (some .int) ∈ G0 := mG 582 rfl rfl
def w_XTr_several : List Cond := .code y_XTr_several b_XTr_several 5 (some .int) :: G0
def rm_XTr_several : Room := { frames := 2, cells := 0, slots := 0, locals := 49 }
abbrev b_XTr_perform : ByteArray := prog_10_method_2_code
def y_XTr_perform : MethodName := ⟨RX_Tr, "perform", "(LDecimalMachine$Instruction;)I"⟩
set_option maxRecDepth 20000 in
theorem kc_XTr_perform : Cond.code y_XTr_perform b_XTr_perform 2 (some .int) ∈ G0 := mG 560 rfl rfl
def w_XTr_perform : List Cond := .code y_XTr_perform b_XTr_perform 2 (some .int) :: G0
def rm_XTr_perform : Room := { frames := 3, cells := 0, slots := 0, locals := 73 }
abbrev b_XPr_performRegular : ByteArray := prog_8_method_4_code
def y_XPr_performRegular : MethodName := ⟨RX_Pr, "performRegular", "(LDecimalMachine$Instruction;)I"⟩
set_option maxRecDepth 20000 in
theorem kc_XPr_performRegular : Cond.code y_XPr_performRegular b_XPr_performRegular 2 (some .int) ∈ G0 := mG 785 rfl rfl
def w_XPr_performRegular : List Cond := .code y_XPr_performRegular b_XPr_performRegular 2 (some .int) :: G0
def rm_XPr_performRegular : Room := { frames := 4, cells := 0, slots := 0, locals := 95 }
abbrev b_XPr_perform : ByteArray := prog_8_method_3_code
def y_XPr_perform : MethodName := ⟨RX_Pr, "perform", "(LDecimalMachine$Instruction;)I"⟩
set_option maxRecDepth 20000 in
theorem kc_XPr_perform : Cond.code y_XPr_perform b_XPr_perform 2 (some .int) ∈ G0 := mG 541 rfl rfl
def w_XPr_perform : List Cond := .code y_XPr_perform b_XPr_perform 2 (some .int) :: G0
def rm_XPr_perform : Room := { frames := 5, cells := 0, slots := 0, locals := 128 }
abbrev b_XPr_step : ByteArray := prog_8_method_2_code
def y_XPr_step : MethodName := ⟨RX_Pr, "step", "()I"⟩
set_option maxRecDepth 20000 in
theorem kc_XPr_step : Cond.code y_XPr_step b_XPr_step 3 (some .int) ∈ G0 := mG 522 rfl rfl
def w_XPr_step : List Cond := .code y_XPr_step b_XPr_step 3 (some .int) :: G0
def rm_XPr_step : Room := { frames := 6, cells := 0, slots := 0, locals := 149 }
set_option maxRecDepth 20000 in
theorem kX_Ar_113 : Cond.constant RX_Ar 113 (-2147483648) ∈ G0 := mG 685 rfl rfl
set_option maxRecDepth 20000 in
theorem kX_Ar_114 : Cond.constant RX_Ar 114 (2147483647) ∈ G0 := mG 686 rfl rfl
set_option maxRecDepth 20000 in
theorem kX_Ar_64 : Cond.constantLong RX_Ar 64 (4294967295) ∈ G0 := mG 626 rfl rfl
set_option maxRecDepth 20000 in
theorem kX_Ar_76 : Cond.methodLink RX_Ar 76 Lib.MathLoose.abs_long.x ∈ G0 := mG 603 rfl rfl
set_option maxRecDepth 20000 in
theorem kX_Ar_9 : Cond.fieldLink RX_Ar 9 "DecimalMachine$Arithmetic" "state" "LDecimalMachine$State;" ∈ G0 := mG 215 rfl rfl
set_option maxRecDepth 20000 in
theorem kX_Br_30 : Cond.constant RX_Br 30 (16777215) ∈ G0 := mG 547 rfl rfl
set_option maxRecDepth 20000 in
theorem kX_Br_9 : Cond.fieldLink RX_Br 9 "DecimalMachine$Branches" "state" "LDecimalMachine$State;" ∈ G0 := mG 235 rfl rfl
set_option maxRecDepth 20000 in
theorem kX_De_118 : Cond.constantLong RX_De 118 (10) ∈ G0 := mG 767 rfl rfl
set_option maxRecDepth 20000 in
theorem kX_De_120 : Cond.constantLong RX_De 120 (100) ∈ G0 := mG 768 rfl rfl
set_option maxRecDepth 20000 in
theorem kX_De_15 : Cond.fieldLink RX_De 15 "DecimalMachine$Decimals" "state" "LDecimalMachine$State;" ∈ G0 := mG 258 rfl rfl
set_option maxRecDepth 20000 in
theorem kX_De_25 : Cond.fieldLink RX_De 25 "DecimalMachine$Decimals" "memory" "LDecimalMachine$Memory;" ∈ G0 := mG 259 rfl rfl
set_option maxRecDepth 20000 in
theorem kX_De_48 : Cond.methodLink RX_De 48 Lib.MathLoose.abs_long.x ∈ G0 := mG 653 rfl rfl
set_option maxRecDepth 20000 in
theorem kX_De_9 : Cond.fieldLink RX_De 9 "DecimalMachine$Decimals" "source" "[I" ∈ G0 := mG 260 rfl rfl
set_option maxRecDepth 20000 in
theorem kX_In_29 : Cond.fieldLink RX_In 29 "DecimalMachine$Instruction" "code" "I" ∈ G0 := mG 167 rfl rfl
set_option maxRecDepth 20000 in
theorem kX_In_34 : Cond.fieldLink RX_In 34 "DecimalMachine$Instruction" "second" "I" ∈ G0 := mG 170 rfl rfl
set_option maxRecDepth 20000 in
theorem kX_In_37 : Cond.fieldLink RX_In 37 "DecimalMachine$Instruction" "r1" "I" ∈ G0 := mG 175 rfl rfl
set_option maxRecDepth 20000 in
theorem kX_In_40 : Cond.fieldLink RX_In 40 "DecimalMachine$Instruction" "r2" "I" ∈ G0 := mG 179 rfl rfl
set_option maxRecDepth 20000 in
theorem kX_In_43 : Cond.fieldLink RX_In 43 "DecimalMachine$Instruction" "behind" "I" ∈ G0 := mG 192 rfl rfl
set_option maxRecDepth 20000 in
theorem kX_In_57 : Cond.constant RX_In 57 (16777215) ∈ G0 := mG 537 rfl rfl
set_option maxRecDepth 20000 in
theorem kX_In_58 : Cond.fieldLink RX_In 58 "DecimalMachine$Instruction" "a1" "I" ∈ G0 := mG 183 rfl rfl
set_option maxRecDepth 20000 in
theorem kX_In_61 : Cond.fieldLink RX_In 61 "DecimalMachine$Instruction" "a2" "I" ∈ G0 := mG 190 rfl rfl
set_option maxRecDepth 20000 in
theorem kX_Me_11 : Cond.fieldLink RX_Me 11 "DecimalMachine$Memory" "octets" "[I" ∈ G0 := mG 109 rfl rfl
set_option maxRecDepth 20000 in
theorem kX_Me_23 : Cond.constantLong RX_Me 23 (255) ∈ G0 := mG 421 rfl rfl
set_option maxRecDepth 20000 in
theorem kX_Me_29 : Cond.constantLong RX_Me 29 (100) ∈ G0 := mG 659 rfl rfl
set_option maxRecDepth 20000 in
theorem kX_Me_31 : Cond.constantLong RX_Me 31 (10) ∈ G0 := mG 658 rfl rfl
set_option maxRecDepth 20000 in
theorem kX_Oc_21 : Cond.fieldLink RX_Oc 21 "DecimalMachine$Octets" "memory" "LDecimalMachine$Memory;" ∈ G0 := mG 246 rfl rfl
set_option maxRecDepth 20000 in
theorem kX_Oc_86 : Cond.constant RX_Oc 86 (16777215) ∈ G0 := mG 716 rfl rfl
set_option maxRecDepth 20000 in
theorem kX_Oc_9 : Cond.fieldLink RX_Oc 9 "DecimalMachine$Octets" "state" "LDecimalMachine$State;" ∈ G0 := mG 245 rfl rfl
set_option maxRecDepth 20000 in
theorem kX_Pr_12 : Cond.fieldLink RX_Pr 12 "DecimalMachine$Processor" "instruction" "LDecimalMachine$Instruction;" ∈ G0 := mG 269 rfl rfl
set_option maxRecDepth 20000 in
theorem kX_Pr_18 : Cond.fieldLink RX_Pr 18 "DecimalMachine$Processor" "done" "I" ∈ G0 := mG 275 rfl rfl
set_option maxRecDepth 20000 in
theorem kX_Pr_22 : Cond.fieldLink RX_Pr 22 "DecimalMachine$Processor" "faults" "I" ∈ G0 := mG 277 rfl rfl
set_option maxRecDepth 20000 in
theorem kX_Pr_25 : Cond.fieldLink RX_Pr 25 "DecimalMachine$Processor" "latestFault" "I" ∈ G0 := mG 279 rfl rfl
set_option maxRecDepth 20000 in
theorem kX_Pr_28 : Cond.fieldLink RX_Pr 28 "DecimalMachine$Processor" "state" "LDecimalMachine$State;" ∈ G0 := mG 268 rfl rfl
set_option maxRecDepth 20000 in
theorem kX_Pr_37 : Cond.fieldLink RX_Pr 37 "DecimalMachine$Processor" "arithmetic" "LDecimalMachine$Arithmetic;" ∈ G0 := mG 270 rfl rfl
set_option maxRecDepth 20000 in
theorem kX_Pr_44 : Cond.fieldLink RX_Pr 44 "DecimalMachine$Processor" "transfers" "LDecimalMachine$Transfers;" ∈ G0 := mG 271 rfl rfl
set_option maxRecDepth 20000 in
theorem kX_Pr_51 : Cond.fieldLink RX_Pr 51 "DecimalMachine$Processor" "branches" "LDecimalMachine$Branches;" ∈ G0 := mG 272 rfl rfl
set_option maxRecDepth 20000 in
theorem kX_Pr_58 : Cond.fieldLink RX_Pr 58 "DecimalMachine$Processor" "octets" "LDecimalMachine$Octets;" ∈ G0 := mG 273 rfl rfl
set_option maxRecDepth 20000 in
theorem kX_Pr_65 : Cond.fieldLink RX_Pr 65 "DecimalMachine$Processor" "decimals" "LDecimalMachine$Decimals;" ∈ G0 := mG 274 rfl rfl
set_option maxRecDepth 20000 in
theorem kX_St_18 : Cond.fieldLink RX_St 18 "DecimalMachine$State" "registers" "[I" ∈ G0 := mG 121 rfl rfl
set_option maxRecDepth 20000 in
theorem kX_St_26 : Cond.fieldLink RX_St 26 "DecimalMachine$State" "condition" "I" ∈ G0 := mG 127 rfl rfl
set_option maxRecDepth 20000 in
theorem kX_St_29 : Cond.fieldLink RX_St 29 "DecimalMachine$State" "mask" "I" ∈ G0 := mG 132 rfl rfl
set_option maxRecDepth 20000 in
theorem kX_Tr_9 : Cond.fieldLink RX_Tr 9 "DecimalMachine$Transfers" "state" "LDecimalMachine$State;" ∈ G0 := mG 225 rfl rfl
def nwX : List Cond := [Cond.fieldLinkNest RX_Ar 110 "DecimalMachine$State" "condition" "I" "DecimalMachine", Cond.fieldLinkNest RX_Ar 15 "DecimalMachine$Instruction" "code" "I" "DecimalMachine", Cond.fieldLinkNest RX_Ar 21 "DecimalMachine$Instruction" "r1" "I" "DecimalMachine", Cond.fieldLinkNest RX_Ar 28 "DecimalMachine$Instruction" "r2" "I" "DecimalMachine", Cond.fieldLinkNest RX_Ar 41 "DecimalMachine$State" "memory" "LDecimalMachine$Memory;" "DecimalMachine", Cond.fieldLinkNest RX_Ar 45 "DecimalMachine$Instruction" "a2" "I" "DecimalMachine", Cond.fieldLinkNest RX_Br 15 "DecimalMachine$Instruction" "code" "I" "DecimalMachine", Cond.fieldLinkNest RX_Br 21 "DecimalMachine$Instruction" "r2" "I" "DecimalMachine", Cond.fieldLinkNest RX_Br 31 "DecimalMachine$Instruction" "a2" "I" "DecimalMachine", Cond.fieldLinkNest RX_Br 38 "DecimalMachine$State" "next" "I" "DecimalMachine", Cond.fieldLinkNest RX_Br 41 "DecimalMachine$Instruction" "r1" "I" "DecimalMachine", Cond.fieldLinkNest RX_Br 44 "DecimalMachine$Instruction" "behind" "I" "DecimalMachine", Cond.fieldLinkNest RX_Br 51 "DecimalMachine$State" "condition" "I" "DecimalMachine", Cond.fieldLinkNest RX_DM 101 "DecimalMachine$Processor" "done" "I" "DecimalMachine", Cond.fieldLinkNest RX_DM 104 "DecimalMachine$Processor" "faults" "I" "DecimalMachine", Cond.fieldLinkNest RX_DM 107 "DecimalMachine$Processor" "latestFault" "I" "DecimalMachine", Cond.fieldLinkNest RX_DM 37 "DecimalMachine$State" "memory" "LDecimalMachine$Memory;" "DecimalMachine", Cond.fieldLinkNest RX_DM 62 "DecimalMachine$State" "next" "I" "DecimalMachine", Cond.fieldLinkNest RX_DM 66 "DecimalMachine$State" "mask" "I" "DecimalMachine", Cond.fieldLinkNest RX_DM 69 "DecimalMachine$State" "condition" "I" "DecimalMachine", Cond.fieldLinkNest RX_DM 72 "DecimalMachine$State" "halt" "I" "DecimalMachine", Cond.fieldLinkNest RX_De 26 "DecimalMachine$Instruction" "a2" "I" "DecimalMachine", Cond.fieldLinkNest RX_De 38 "DecimalMachine$Instruction" "code" "I" "DecimalMachine", Cond.fieldLinkNest RX_De 41 "DecimalMachine$Instruction" "r1" "I" "DecimalMachine", Cond.fieldLinkNest RX_De 74 "DecimalMachine$Instruction" "r2" "I" "DecimalMachine", Cond.fieldLinkNest RX_De 77 "DecimalMachine$Instruction" "a1" "I" "DecimalMachine", Cond.fieldLinkNest RX_In 15 "DecimalMachine$State" "memory" "LDecimalMachine$Memory;" "DecimalMachine", Cond.fieldLinkNest RX_In 9 "DecimalMachine$State" "next" "I" "DecimalMachine", Cond.fieldLinkNest RX_Oc 22 "DecimalMachine$Instruction" "a1" "I" "DecimalMachine", Cond.fieldLinkNest RX_Oc 38 "DecimalMachine$Instruction" "code" "I" "DecimalMachine", Cond.fieldLinkNest RX_Oc 41 "DecimalMachine$Instruction" "second" "I" "DecimalMachine", Cond.fieldLinkNest RX_Oc 63 "DecimalMachine$Instruction" "a2" "I" "DecimalMachine", Cond.fieldLinkNest RX_Oc 72 "DecimalMachine$State" "condition" "I" "DecimalMachine", Cond.fieldLinkNest RX_Pr 69 "DecimalMachine$State" "next" "I" "DecimalMachine", Cond.fieldLinkNest RX_Pr 78 "DecimalMachine$Instruction" "behind" "I" "DecimalMachine", Cond.fieldLinkNest RX_Pr 85 "DecimalMachine$Instruction" "code" "I" "DecimalMachine", Cond.fieldLinkNest RX_Pr 88 "DecimalMachine$Instruction" "second" "I" "DecimalMachine", Cond.fieldLinkNest RX_Pr 91 "DecimalMachine$State" "halt" "I" "DecimalMachine", Cond.fieldLinkNest RX_Tr 15 "DecimalMachine$Instruction" "code" "I" "DecimalMachine", Cond.fieldLinkNest RX_Tr 25 "DecimalMachine$Instruction" "r1" "I" "DecimalMachine", Cond.fieldLinkNest RX_Tr 28 "DecimalMachine$Instruction" "a2" "I" "DecimalMachine", Cond.fieldLinkNest RX_Tr 44 "DecimalMachine$State" "memory" "LDecimalMachine$Memory;" "DecimalMachine", Cond.fieldLinkNest RX_Tr 68 "DecimalMachine$Instruction" "r2" "I" "DecimalMachine"]
theorem kX_Ar_110 : Cond.fieldLinkNest RX_Ar 110 "DecimalMachine$State" "condition" "I" "DecimalMachine" ∈ nwX := List.mem_of_getElem? (i := 0) rfl
theorem kX_Ar_15 : Cond.fieldLinkNest RX_Ar 15 "DecimalMachine$Instruction" "code" "I" "DecimalMachine" ∈ nwX := List.mem_of_getElem? (i := 1) rfl
theorem kX_Ar_21 : Cond.fieldLinkNest RX_Ar 21 "DecimalMachine$Instruction" "r1" "I" "DecimalMachine" ∈ nwX := List.mem_of_getElem? (i := 2) rfl
theorem kX_Ar_28 : Cond.fieldLinkNest RX_Ar 28 "DecimalMachine$Instruction" "r2" "I" "DecimalMachine" ∈ nwX := List.mem_of_getElem? (i := 3) rfl
theorem kX_Ar_41 : Cond.fieldLinkNest RX_Ar 41 "DecimalMachine$State" "memory" "LDecimalMachine$Memory;" "DecimalMachine" ∈ nwX := List.mem_of_getElem? (i := 4) rfl
theorem kX_Ar_45 : Cond.fieldLinkNest RX_Ar 45 "DecimalMachine$Instruction" "a2" "I" "DecimalMachine" ∈ nwX := List.mem_of_getElem? (i := 5) rfl
theorem kX_Br_15 : Cond.fieldLinkNest RX_Br 15 "DecimalMachine$Instruction" "code" "I" "DecimalMachine" ∈ nwX := List.mem_of_getElem? (i := 6) rfl
theorem kX_Br_21 : Cond.fieldLinkNest RX_Br 21 "DecimalMachine$Instruction" "r2" "I" "DecimalMachine" ∈ nwX := List.mem_of_getElem? (i := 7) rfl
theorem kX_Br_31 : Cond.fieldLinkNest RX_Br 31 "DecimalMachine$Instruction" "a2" "I" "DecimalMachine" ∈ nwX := List.mem_of_getElem? (i := 8) rfl
theorem kX_Br_38 : Cond.fieldLinkNest RX_Br 38 "DecimalMachine$State" "next" "I" "DecimalMachine" ∈ nwX := List.mem_of_getElem? (i := 9) rfl
theorem kX_Br_41 : Cond.fieldLinkNest RX_Br 41 "DecimalMachine$Instruction" "r1" "I" "DecimalMachine" ∈ nwX := List.mem_of_getElem? (i := 10) rfl
theorem kX_Br_44 : Cond.fieldLinkNest RX_Br 44 "DecimalMachine$Instruction" "behind" "I" "DecimalMachine" ∈ nwX := List.mem_of_getElem? (i := 11) rfl
theorem kX_Br_51 : Cond.fieldLinkNest RX_Br 51 "DecimalMachine$State" "condition" "I" "DecimalMachine" ∈ nwX := List.mem_of_getElem? (i := 12) rfl
theorem kX_DM_101 : Cond.fieldLinkNest RX_DM 101 "DecimalMachine$Processor" "done" "I" "DecimalMachine" ∈ nwX := List.mem_of_getElem? (i := 13) rfl
theorem kX_DM_104 : Cond.fieldLinkNest RX_DM 104 "DecimalMachine$Processor" "faults" "I" "DecimalMachine" ∈ nwX := List.mem_of_getElem? (i := 14) rfl
theorem kX_DM_107 : Cond.fieldLinkNest RX_DM 107 "DecimalMachine$Processor" "latestFault" "I" "DecimalMachine" ∈ nwX := List.mem_of_getElem? (i := 15) rfl
theorem kX_DM_37 : Cond.fieldLinkNest RX_DM 37 "DecimalMachine$State" "memory" "LDecimalMachine$Memory;" "DecimalMachine" ∈ nwX := List.mem_of_getElem? (i := 16) rfl
theorem kX_DM_62 : Cond.fieldLinkNest RX_DM 62 "DecimalMachine$State" "next" "I" "DecimalMachine" ∈ nwX := List.mem_of_getElem? (i := 17) rfl
theorem kX_DM_66 : Cond.fieldLinkNest RX_DM 66 "DecimalMachine$State" "mask" "I" "DecimalMachine" ∈ nwX := List.mem_of_getElem? (i := 18) rfl
theorem kX_DM_69 : Cond.fieldLinkNest RX_DM 69 "DecimalMachine$State" "condition" "I" "DecimalMachine" ∈ nwX := List.mem_of_getElem? (i := 19) rfl
theorem kX_DM_72 : Cond.fieldLinkNest RX_DM 72 "DecimalMachine$State" "halt" "I" "DecimalMachine" ∈ nwX := List.mem_of_getElem? (i := 20) rfl
theorem kX_De_26 : Cond.fieldLinkNest RX_De 26 "DecimalMachine$Instruction" "a2" "I" "DecimalMachine" ∈ nwX := List.mem_of_getElem? (i := 21) rfl
theorem kX_De_38 : Cond.fieldLinkNest RX_De 38 "DecimalMachine$Instruction" "code" "I" "DecimalMachine" ∈ nwX := List.mem_of_getElem? (i := 22) rfl
theorem kX_De_41 : Cond.fieldLinkNest RX_De 41 "DecimalMachine$Instruction" "r1" "I" "DecimalMachine" ∈ nwX := List.mem_of_getElem? (i := 23) rfl
theorem kX_De_74 : Cond.fieldLinkNest RX_De 74 "DecimalMachine$Instruction" "r2" "I" "DecimalMachine" ∈ nwX := List.mem_of_getElem? (i := 24) rfl
theorem kX_De_77 : Cond.fieldLinkNest RX_De 77 "DecimalMachine$Instruction" "a1" "I" "DecimalMachine" ∈ nwX := List.mem_of_getElem? (i := 25) rfl
theorem kX_In_15 : Cond.fieldLinkNest RX_In 15 "DecimalMachine$State" "memory" "LDecimalMachine$Memory;" "DecimalMachine" ∈ nwX := List.mem_of_getElem? (i := 26) rfl
theorem kX_In_9 : Cond.fieldLinkNest RX_In 9 "DecimalMachine$State" "next" "I" "DecimalMachine" ∈ nwX := List.mem_of_getElem? (i := 27) rfl
theorem kX_Oc_22 : Cond.fieldLinkNest RX_Oc 22 "DecimalMachine$Instruction" "a1" "I" "DecimalMachine" ∈ nwX := List.mem_of_getElem? (i := 28) rfl
theorem kX_Oc_38 : Cond.fieldLinkNest RX_Oc 38 "DecimalMachine$Instruction" "code" "I" "DecimalMachine" ∈ nwX := List.mem_of_getElem? (i := 29) rfl
theorem kX_Oc_41 : Cond.fieldLinkNest RX_Oc 41 "DecimalMachine$Instruction" "second" "I" "DecimalMachine" ∈ nwX := List.mem_of_getElem? (i := 30) rfl
theorem kX_Oc_63 : Cond.fieldLinkNest RX_Oc 63 "DecimalMachine$Instruction" "a2" "I" "DecimalMachine" ∈ nwX := List.mem_of_getElem? (i := 31) rfl
theorem kX_Oc_72 : Cond.fieldLinkNest RX_Oc 72 "DecimalMachine$State" "condition" "I" "DecimalMachine" ∈ nwX := List.mem_of_getElem? (i := 32) rfl
theorem kX_Pr_69 : Cond.fieldLinkNest RX_Pr 69 "DecimalMachine$State" "next" "I" "DecimalMachine" ∈ nwX := List.mem_of_getElem? (i := 33) rfl
theorem kX_Pr_78 : Cond.fieldLinkNest RX_Pr 78 "DecimalMachine$Instruction" "behind" "I" "DecimalMachine" ∈ nwX := List.mem_of_getElem? (i := 34) rfl
theorem kX_Pr_85 : Cond.fieldLinkNest RX_Pr 85 "DecimalMachine$Instruction" "code" "I" "DecimalMachine" ∈ nwX := List.mem_of_getElem? (i := 35) rfl
theorem kX_Pr_88 : Cond.fieldLinkNest RX_Pr 88 "DecimalMachine$Instruction" "second" "I" "DecimalMachine" ∈ nwX := List.mem_of_getElem? (i := 36) rfl
theorem kX_Pr_91 : Cond.fieldLinkNest RX_Pr 91 "DecimalMachine$State" "halt" "I" "DecimalMachine" ∈ nwX := List.mem_of_getElem? (i := 37) rfl
theorem kX_Tr_15 : Cond.fieldLinkNest RX_Tr 15 "DecimalMachine$Instruction" "code" "I" "DecimalMachine" ∈ nwX := List.mem_of_getElem? (i := 38) rfl
theorem kX_Tr_25 : Cond.fieldLinkNest RX_Tr 25 "DecimalMachine$Instruction" "r1" "I" "DecimalMachine" ∈ nwX := List.mem_of_getElem? (i := 39) rfl
theorem kX_Tr_28 : Cond.fieldLinkNest RX_Tr 28 "DecimalMachine$Instruction" "a2" "I" "DecimalMachine" ∈ nwX := List.mem_of_getElem? (i := 40) rfl
theorem kX_Tr_44 : Cond.fieldLinkNest RX_Tr 44 "DecimalMachine$State" "memory" "LDecimalMachine$Memory;" "DecimalMachine" ∈ nwX := List.mem_of_getElem? (i := 41) rfl
theorem kX_Tr_68 : Cond.fieldLinkNest RX_Tr 68 "DecimalMachine$Instruction" "r2" "I" "DecimalMachine" ∈ nwX := List.mem_of_getElem? (i := 42) rfl
theorem nwX_in : ∀ w ∈ nwX, w ∈ lw_tbl := zInL _ [131, 164, 172, 178, 120, 188, 162, 177, 186, 125, 176, 193, 128, 276, 278, 280, 118, 126, 133, 130, 136, 185, 165, 173, 180, 184, 117, 123, 182, 166, 169, 189, 129, 124, 191, 168, 171, 135, 163, 174, 187, 119, 181] (by decide +kernel)
theorem nwX_ok : ∀ w ∈ nwX, zNest w = true := by decide +kernel
set_option maxRecDepth 20000 in
theorem kwX_0 : Cond.methodLink RX_Ar 102 y_XSt_conditionByBits ∈ G0 := mG 622 rfl rfl
set_option maxRecDepth 20000 in
theorem kwX_1 : Cond.initialized RX_St ∈ G0 := mG 71 rfl rfl
set_option maxRecDepth 20000 in
theorem kwX_2 : Cond.instanceMethod y_XSt_conditionByBits ∈ G0 := mG 623 rfl rfl
set_option maxRecDepth 20000 in
theorem kwX_3 : Cond.selects RX_St y_XSt_conditionByBits y_XSt_conditionByBits ∈ G0 := mG 624 rfl rfl
theorem qX_Ar_102 {R : Room} {s : State} {args : Array Value} (hts : ∀ w ∈ G0, w.before args s = true) (hR : (rm_XSt_conditionByBits).frames + 1 ≤ R.frames ∧ 8 + (2 + 11) + (rm_XSt_conditionByBits).locals ≤ R.locals) : CallW R s args RX_Ar RX_St 102 y_XSt_conditionByBits b_XSt_conditionByBits 2 none w_XSt_conditionByBits rm_XSt_conditionByBits 0 0 1 := cwV 1 hts (zgV kwX_0 kwX_2 kwX_3 kwX_1 kc_XSt_conditionByBits) rfl rfl rfl (by decide +kernel) hR
set_option maxRecDepth 20000 in
theorem kwX_4 : Cond.methodLink RX_Ar 106 y_XSt_fixedOverflow ∈ G0 := mG 614 rfl rfl
set_option maxRecDepth 20000 in
theorem kwX_5 : Cond.instanceMethod y_XSt_fixedOverflow ∈ G0 := mG 615 rfl rfl
set_option maxRecDepth 20000 in
theorem kwX_6 : Cond.selects RX_St y_XSt_fixedOverflow y_XSt_fixedOverflow ∈ G0 := mG 616 rfl rfl
theorem qX_Ar_106 {R : Room} {s : State} {args : Array Value} (hts : ∀ w ∈ G0, w.before args s = true) (hR : (rm_XSt_fixedOverflow).frames + 1 ≤ R.frames ∧ 8 + (1 + 11) + (rm_XSt_fixedOverflow).locals ≤ R.locals) : CallW R s args RX_Ar RX_St 106 y_XSt_fixedOverflow b_XSt_fixedOverflow 1 (some .int) w_XSt_fixedOverflow rm_XSt_fixedOverflow 0 0 0 := cwV 0 hts (zgV kwX_4 kwX_5 kwX_6 kwX_1 kc_XSt_fixedOverflow) rfl rfl rfl (by decide +kernel) hR
set_option maxRecDepth 20000 in
theorem kwX_7 : Cond.methodLink RX_Ar 24 y_XAr_lacksPair ∈ G0 := mG 790 rfl rfl
set_option maxRecDepth 20000 in
theorem kwX_8 : Cond.initialized RX_Ar ∈ G0 := mG 75 rfl rfl
set_option maxRecDepth 20000 in
theorem kwX_9 : Cond.static y_XAr_lacksPair ∈ G0 := mG 791 rfl rfl
theorem qX_Ar_24 {R : Room} {s : State} {args : Array Value} (hts : ∀ w ∈ G0, w.before args s = true) (hR : (rm_XAr_lacksPair).frames + 1 ≤ R.frames ∧ 8 + (2 + 11) + (rm_XAr_lacksPair).locals ≤ R.locals) : CallB R s args RX_Ar 24 y_XAr_lacksPair b_XAr_lacksPair 2 (some .boolean) w_XAr_lacksPair rm_XAr_lacksPair 0 0 2 ∧ (Cond.static y_XAr_lacksPair).before args s = true := cwS 2 hts (zgS kwX_7 kwX_9 kwX_8 kc_XAr_lacksPair) rfl rfl rfl (by decide +kernel) hR
set_option maxRecDepth 20000 in
theorem kwX_10 : Cond.methodLink RX_Ar 31 y_XSt_value ∈ G0 := mG 597 rfl rfl
set_option maxRecDepth 20000 in
theorem kwX_11 : Cond.instanceMethod y_XSt_value ∈ G0 := mG 448 rfl rfl
set_option maxRecDepth 20000 in
theorem kwX_12 : Cond.selects RX_St y_XSt_value y_XSt_value ∈ G0 := mG 449 rfl rfl
theorem qX_Ar_31 {R : Room} {s : State} {args : Array Value} (hts : ∀ w ∈ G0, w.before args s = true) (hR : (rm_XSt_value).frames + 1 ≤ R.frames ∧ 8 + (2 + 11) + (rm_XSt_value).locals ≤ R.locals) : CallW R s args RX_Ar RX_St 31 y_XSt_value b_XSt_value 2 (some .int) w_XSt_value rm_XSt_value 0 0 1 := cwV 1 hts (zgV kwX_10 kwX_11 kwX_12 kwX_1 kc_XSt_value) rfl rfl rfl (by decide +kernel) hR
set_option maxRecDepth 20000 in
theorem kwX_13 : Cond.methodLink RX_Ar 37 y_XAr_apply ∈ G0 := mG 599 rfl rfl
set_option maxRecDepth 20000 in
theorem kwX_14 : Cond.instanceMethod y_XAr_apply ∈ G0 := mG 601 rfl rfl
set_option maxRecDepth 20000 in
theorem kwX_15 : Cond.selects RX_Ar y_XAr_apply y_XAr_apply ∈ G0 := mG 9 rfl rfl
theorem qX_Ar_37 {R : Room} {s : State} {args : Array Value} (hts : ∀ w ∈ G0, w.before args s = true) (hR : (rm_XAr_apply).frames + 1 ≤ R.frames ∧ 8 + (5 + 11) + (rm_XAr_apply).locals ≤ R.locals) : CallW R s args RX_Ar RX_Ar 37 y_XAr_apply b_XAr_apply 5 (some .int) w_XAr_apply rm_XAr_apply 0 0 3 := cwV 3 hts (zgV kwX_13 kwX_14 kwX_15 kwX_8 kc_XAr_apply) rfl rfl rfl (by decide +kernel) hR
set_option maxRecDepth 20000 in
theorem kwX_16 : Cond.methodLink RX_Ar 48 y_XMe_faultOf ∈ G0 := mG 592 rfl rfl
set_option maxRecDepth 20000 in
theorem kwX_17 : Cond.initialized RX_Me ∈ G0 := mG 72 rfl rfl
set_option maxRecDepth 20000 in
theorem kwX_18 : Cond.instanceMethod y_XMe_faultOf ∈ G0 := mG 566 rfl rfl
set_option maxRecDepth 20000 in
theorem kwX_19 : Cond.selects RX_Me y_XMe_faultOf y_XMe_faultOf ∈ G0 := mG 567 rfl rfl
theorem qX_Ar_48 {R : Room} {s : State} {args : Array Value} (hts : ∀ w ∈ G0, w.before args s = true) (hR : (rm_XMe_faultOf).frames + 1 ≤ R.frames ∧ 8 + (3 + 11) + (rm_XMe_faultOf).locals ≤ R.locals) : CallW R s args RX_Ar RX_Me 48 y_XMe_faultOf b_XMe_faultOf 3 (some .int) w_XMe_faultOf rm_XMe_faultOf 0 0 2 := cwV 2 hts (zgV kwX_16 kwX_18 kwX_19 kwX_17 kc_XMe_faultOf) rfl rfl rfl (by decide +kernel) hR
set_option maxRecDepth 20000 in
theorem kwX_20 : Cond.methodLink RX_Ar 54 y_XMe_word ∈ G0 := mG 797 rfl rfl
set_option maxRecDepth 20000 in
theorem kwX_21 : Cond.instanceMethod y_XMe_word ∈ G0 := mG 584 rfl rfl
set_option maxRecDepth 20000 in
theorem kwX_22 : Cond.selects RX_Me y_XMe_word y_XMe_word ∈ G0 := mG 585 rfl rfl
theorem qX_Ar_54 {R : Room} {s : State} {args : Array Value} (hts : ∀ w ∈ G0, w.before args s = true) (hR : (rm_XMe_word).frames + 1 ≤ R.frames ∧ 8 + (2 + 11) + (rm_XMe_word).locals ≤ R.locals) : CallW R s args RX_Ar RX_Me 54 y_XMe_word b_XMe_word 2 (some .int) w_XMe_word rm_XMe_word 0 0 1 := cwV 1 hts (zgV kwX_20 kwX_21 kwX_22 kwX_17 kc_XMe_word) rfl rfl rfl (by decide +kernel) hR
set_option maxRecDepth 20000 in
theorem kwX_23 : Cond.methodLink RX_Ar 57 y_XMe_half ∈ G0 := mG 593 rfl rfl
set_option maxRecDepth 20000 in
theorem kwX_24 : Cond.instanceMethod y_XMe_half ∈ G0 := mG 594 rfl rfl
set_option maxRecDepth 20000 in
theorem kwX_25 : Cond.selects RX_Me y_XMe_half y_XMe_half ∈ G0 := mG 595 rfl rfl
theorem qX_Ar_57 {R : Room} {s : State} {args : Array Value} (hts : ∀ w ∈ G0, w.before args s = true) (hR : (rm_XMe_half).frames + 1 ≤ R.frames ∧ 8 + (2 + 11) + (rm_XMe_half).locals ≤ R.locals) : CallW R s args RX_Ar RX_Me 57 y_XMe_half b_XMe_half 2 (some .int) w_XMe_half rm_XMe_half 0 0 1 := cwV 1 hts (zgV kwX_23 kwX_24 kwX_25 kwX_17 kc_XMe_half) rfl rfl rfl (by decide +kernel) hR
set_option maxRecDepth 20000 in
theorem kwX_26 : Cond.methodLink RX_Ar 60 y_XSt_put ∈ G0 := mG 598 rfl rfl
set_option maxRecDepth 20000 in
theorem kwX_27 : Cond.instanceMethod y_XSt_put ∈ G0 := mG 452 rfl rfl
set_option maxRecDepth 20000 in
theorem kwX_28 : Cond.selects RX_St y_XSt_put y_XSt_put ∈ G0 := mG 453 rfl rfl
theorem qX_Ar_60 {R : Room} {s : State} {args : Array Value} (hts : ∀ w ∈ G0, w.before args s = true) (hR : (rm_XSt_put).frames + 1 ≤ R.frames ∧ 8 + (3 + 11) + (rm_XSt_put).locals ≤ R.locals) : CallW R s args RX_Ar RX_St 60 y_XSt_put b_XSt_put 3 none w_XSt_put rm_XSt_put 0 0 2 := cwV 2 hts (zgV kwX_26 kwX_27 kwX_28 kwX_1 kc_XSt_put) rfl rfl rfl (by decide +kernel) hR
set_option maxRecDepth 20000 in
theorem kwX_29 : Cond.methodLink RX_Ar 66 y_XAr_load ∈ G0 := mG 631 rfl rfl
set_option maxRecDepth 20000 in
theorem kwX_30 : Cond.instanceMethod y_XAr_load ∈ G0 := mG 633 rfl rfl
set_option maxRecDepth 20000 in
theorem kwX_31 : Cond.selects RX_Ar y_XAr_load y_XAr_load ∈ G0 := mG 13 rfl rfl
theorem qX_Ar_66 {R : Room} {s : State} {args : Array Value} (hts : ∀ w ∈ G0, w.before args s = true) (hR : (rm_XAr_load).frames + 1 ≤ R.frames ∧ 8 + (3 + 11) + (rm_XAr_load).locals ≤ R.locals) : CallW R s args RX_Ar RX_Ar 66 y_XAr_load b_XAr_load 3 (some .int) w_XAr_load rm_XAr_load 0 0 2 := cwV 2 hts (zgV kwX_29 kwX_30 kwX_31 kwX_8 kc_XAr_load) rfl rfl rfl (by decide +kernel) hR
set_option maxRecDepth 20000 in
theorem kwX_32 : Cond.methodLink RX_Ar 69 y_XAr_putSigned ∈ G0 := mG 606 rfl rfl
set_option maxRecDepth 20000 in
theorem kwX_33 : Cond.instanceMethod y_XAr_putSigned ∈ G0 := mG 608 rfl rfl
set_option maxRecDepth 20000 in
theorem kwX_34 : Cond.selects RX_Ar y_XAr_putSigned y_XAr_putSigned ∈ G0 := mG 10 rfl rfl
theorem qX_Ar_69 {R : Room} {s : State} {args : Array Value} (hts : ∀ w ∈ G0, w.before args s = true) (hR : (rm_XAr_putSigned).frames + 1 ≤ R.frames ∧ 8 + (5 + 11) + (rm_XAr_putSigned).locals ≤ R.locals) : CallW R s args RX_Ar RX_Ar 69 y_XAr_putSigned b_XAr_putSigned 5 (some .int) w_XAr_putSigned rm_XAr_putSigned 0 0 2 := cwV 2 hts (zgV kwX_32 kwX_33 kwX_34 kwX_8 kc_XAr_putSigned) rfl rfl rfl (by decide +kernel) hR
set_option maxRecDepth 20000 in
theorem kwX_35 : Cond.methodLink RX_Ar 73 y_XAr_shiftLeftBelowSign ∈ G0 := mG 681 rfl rfl
set_option maxRecDepth 20000 in
theorem kwX_36 : Cond.instanceMethod y_XAr_shiftLeftBelowSign ∈ G0 := mG 683 rfl rfl
set_option maxRecDepth 20000 in
theorem kwX_37 : Cond.selects RX_Ar y_XAr_shiftLeftBelowSign y_XAr_shiftLeftBelowSign ∈ G0 := mG 18 rfl rfl
theorem qX_Ar_73 {R : Room} {s : State} {args : Array Value} (hts : ∀ w ∈ G0, w.before args s = true) (hR : (rm_XAr_shiftLeftBelowSign).frames + 1 ≤ R.frames ∧ 8 + (8 + 11) + (rm_XAr_shiftLeftBelowSign).locals ≤ R.locals) : CallW R s args RX_Ar RX_Ar 73 y_XAr_shiftLeftBelowSign b_XAr_shiftLeftBelowSign 8 (some .int) w_XAr_shiftLeftBelowSign rm_XAr_shiftLeftBelowSign 0 0 2 := cwV 2 hts (zgV kwX_35 kwX_36 kwX_37 kwX_8 kc_XAr_shiftLeftBelowSign) rfl rfl rfl (by decide +kernel) hR
set_option maxRecDepth 20000 in
theorem kwX_38 : Cond.methodLink RX_Ar 82 y_XAr_putBits ∈ G0 := mG 618 rfl rfl
set_option maxRecDepth 20000 in
theorem kwX_39 : Cond.instanceMethod y_XAr_putBits ∈ G0 := mG 620 rfl rfl
set_option maxRecDepth 20000 in
theorem kwX_40 : Cond.selects RX_Ar y_XAr_putBits y_XAr_putBits ∈ G0 := mG 11 rfl rfl
theorem qX_Ar_82 {R : Room} {s : State} {args : Array Value} (hts : ∀ w ∈ G0, w.before args s = true) (hR : (rm_XAr_putBits).frames + 1 ≤ R.frames ∧ 8 + (3 + 11) + (rm_XAr_putBits).locals ≤ R.locals) : CallW R s args RX_Ar RX_Ar 82 y_XAr_putBits b_XAr_putBits 3 (some .int) w_XAr_putBits rm_XAr_putBits 0 0 2 := cwV 2 hts (zgV kwX_38 kwX_39 kwX_40 kwX_8 kc_XAr_putBits) rfl rfl rfl (by decide +kernel) hR
set_option maxRecDepth 20000 in
theorem kwX_41 : Cond.methodLink RX_Ar 85 y_XAr_compare ∈ G0 := mG 627 rfl rfl
set_option maxRecDepth 20000 in
theorem kwX_42 : Cond.instanceMethod y_XAr_compare ∈ G0 := mG 629 rfl rfl
set_option maxRecDepth 20000 in
theorem kwX_43 : Cond.selects RX_Ar y_XAr_compare y_XAr_compare ∈ G0 := mG 12 rfl rfl
theorem qX_Ar_85 {R : Room} {s : State} {args : Array Value} (hts : ∀ w ∈ G0, w.before args s = true) (hR : (rm_XAr_compare).frames + 1 ≤ R.frames ∧ 8 + (5 + 11) + (rm_XAr_compare).locals ≤ R.locals) : CallW R s args RX_Ar RX_Ar 85 y_XAr_compare b_XAr_compare 5 (some .int) w_XAr_compare rm_XAr_compare 0 0 2 := cwV 2 hts (zgV kwX_41 kwX_42 kwX_43 kwX_8 kc_XAr_compare) rfl rfl rfl (by decide +kernel) hR
set_option maxRecDepth 20000 in
theorem kwX_44 : Cond.methodLink RX_Ar 89 y_XAr_multiply ∈ G0 := mG 635 rfl rfl
set_option maxRecDepth 20000 in
theorem kwX_45 : Cond.instanceMethod y_XAr_multiply ∈ G0 := mG 637 rfl rfl
set_option maxRecDepth 20000 in
theorem kwX_46 : Cond.selects RX_Ar y_XAr_multiply y_XAr_multiply ∈ G0 := mG 14 rfl rfl
theorem qX_Ar_89 {R : Room} {s : State} {args : Array Value} (hts : ∀ w ∈ G0, w.before args s = true) (hR : (rm_XAr_multiply).frames + 1 ≤ R.frames ∧ 8 + (5 + 11) + (rm_XAr_multiply).locals ≤ R.locals) : CallW R s args RX_Ar RX_Ar 89 y_XAr_multiply b_XAr_multiply 5 (some .int) w_XAr_multiply rm_XAr_multiply 0 0 2 := cwV 2 hts (zgV kwX_44 kwX_45 kwX_46 kwX_8 kc_XAr_multiply) rfl rfl rfl (by decide +kernel) hR
set_option maxRecDepth 20000 in
theorem kwX_47 : Cond.methodLink RX_Ar 92 y_XAr_divide ∈ G0 := mG 639 rfl rfl
set_option maxRecDepth 20000 in
theorem kwX_48 : Cond.instanceMethod y_XAr_divide ∈ G0 := mG 641 rfl rfl
set_option maxRecDepth 20000 in
theorem kwX_49 : Cond.selects RX_Ar y_XAr_divide y_XAr_divide ∈ G0 := mG 15 rfl rfl
theorem qX_Ar_92 {R : Room} {s : State} {args : Array Value} (hts : ∀ w ∈ G0, w.before args s = true) (hR : (rm_XAr_divide).frames + 1 ≤ R.frames ∧ 8 + (7 + 11) + (rm_XAr_divide).locals ≤ R.locals) : CallW R s args RX_Ar RX_Ar 92 y_XAr_divide b_XAr_divide 7 (some .int) w_XAr_divide rm_XAr_divide 0 0 2 := cwV 2 hts (zgV kwX_47 kwX_48 kwX_49 kwX_8 kc_XAr_divide) rfl rfl rfl (by decide +kernel) hR
set_option maxRecDepth 20000 in
theorem kwX_50 : Cond.methodLink RX_Ar 95 y_XAr_putUnsigned ∈ G0 := mG 643 rfl rfl
set_option maxRecDepth 20000 in
theorem kwX_51 : Cond.instanceMethod y_XAr_putUnsigned ∈ G0 := mG 645 rfl rfl
set_option maxRecDepth 20000 in
theorem kwX_52 : Cond.selects RX_Ar y_XAr_putUnsigned y_XAr_putUnsigned ∈ G0 := mG 16 rfl rfl
theorem qX_Ar_95 {R : Room} {s : State} {args : Array Value} (hts : ∀ w ∈ G0, w.before args s = true) (hR : (rm_XAr_putUnsigned).frames + 1 ≤ R.frames ∧ 8 + (5 + 11) + (rm_XAr_putUnsigned).locals ≤ R.locals) : CallW R s args RX_Ar RX_Ar 95 y_XAr_putUnsigned b_XAr_putUnsigned 5 (some .int) w_XAr_putUnsigned rm_XAr_putUnsigned 0 0 2 := cwV 2 hts (zgV kwX_50 kwX_51 kwX_52 kwX_8 kc_XAr_putUnsigned) rfl rfl rfl (by decide +kernel) hR
set_option maxRecDepth 20000 in
theorem kwX_53 : Cond.methodLink RX_Ar 98 y_XSt_conditionBySign ∈ G0 := mG 610 rfl rfl
set_option maxRecDepth 20000 in
theorem kwX_54 : Cond.instanceMethod y_XSt_conditionBySign ∈ G0 := mG 611 rfl rfl
set_option maxRecDepth 20000 in
theorem kwX_55 : Cond.selects RX_St y_XSt_conditionBySign y_XSt_conditionBySign ∈ G0 := mG 612 rfl rfl
theorem qX_Ar_98 {R : Room} {s : State} {args : Array Value} (hts : ∀ w ∈ G0, w.before args s = true) (hR : (rm_XSt_conditionBySign).frames + 1 ≤ R.frames ∧ 8 + (3 + 11) + (rm_XSt_conditionBySign).locals ≤ R.locals) : CallW R s args RX_Ar RX_St 98 y_XSt_conditionBySign b_XSt_conditionBySign 3 none w_XSt_conditionBySign rm_XSt_conditionBySign 0 0 1 := cwV 1 hts (zgV kwX_53 kwX_54 kwX_55 kwX_1 kc_XSt_conditionBySign) rfl rfl rfl (by decide +kernel) hR
set_option maxRecDepth 20000 in
theorem kwX_56 : Cond.methodLink RX_Br 24 y_XSt_value ∈ G0 := mG 546 rfl rfl
theorem qX_Br_24 {R : Room} {s : State} {args : Array Value} (hts : ∀ w ∈ G0, w.before args s = true) (hR : (rm_XSt_value).frames + 1 ≤ R.frames ∧ 8 + (2 + 11) + (rm_XSt_value).locals ≤ R.locals) : CallW R s args RX_Br RX_St 24 y_XSt_value b_XSt_value 2 (some .int) w_XSt_value rm_XSt_value 0 0 1 := cwV 1 hts (zgV kwX_56 kwX_11 kwX_12 kwX_1 kc_XSt_value) rfl rfl rfl (by decide +kernel) hR
set_option maxRecDepth 20000 in
theorem kwX_57 : Cond.methodLink RX_Br 34 y_XBr_decide ∈ G0 := mG 548 rfl rfl
set_option maxRecDepth 20000 in
theorem kwX_58 : Cond.initialized RX_Br ∈ G0 := mG 77 rfl rfl
set_option maxRecDepth 20000 in
theorem kwX_59 : Cond.instanceMethod y_XBr_decide ∈ G0 := mG 550 rfl rfl
set_option maxRecDepth 20000 in
theorem kwX_60 : Cond.selects RX_Br y_XBr_decide y_XBr_decide ∈ G0 := mG 4 rfl rfl
theorem qX_Br_34 {R : Room} {s : State} {args : Array Value} (hts : ∀ w ∈ G0, w.before args s = true) (hR : (rm_XBr_decide).frames + 1 ≤ R.frames ∧ 8 + (2 + 11) + (rm_XBr_decide).locals ≤ R.locals) : CallW R s args RX_Br RX_Br 34 y_XBr_decide b_XBr_decide 2 (some .boolean) w_XBr_decide rm_XBr_decide 0 0 1 := cwV 1 hts (zgV kwX_57 kwX_59 kwX_60 kwX_58 kc_XBr_decide) rfl rfl rfl (by decide +kernel) hR
set_option maxRecDepth 20000 in
theorem kwX_61 : Cond.methodLink RX_Br 47 y_XSt_put ∈ G0 := mG 552 rfl rfl
theorem qX_Br_47 {R : Room} {s : State} {args : Array Value} (hts : ∀ w ∈ G0, w.before args s = true) (hR : (rm_XSt_put).frames + 1 ≤ R.frames ∧ 8 + (3 + 11) + (rm_XSt_put).locals ≤ R.locals) : CallW R s args RX_Br RX_St 47 y_XSt_put b_XSt_put 3 none w_XSt_put rm_XSt_put 0 0 2 := cwV 2 hts (zgV kwX_61 kwX_27 kwX_28 kwX_1 kc_XSt_put) rfl rfl rfl (by decide +kernel) hR
set_option maxRecDepth 20000 in
theorem kwX_62 : Cond.methodLink RX_Br 54 y_XBr_isAboveAfterStep ∈ G0 := mG 553 rfl rfl
set_option maxRecDepth 20000 in
theorem kwX_63 : Cond.instanceMethod y_XBr_isAboveAfterStep ∈ G0 := mG 555 rfl rfl
set_option maxRecDepth 20000 in
theorem kwX_64 : Cond.selects RX_Br y_XBr_isAboveAfterStep y_XBr_isAboveAfterStep ∈ G0 := mG 5 rfl rfl
theorem qX_Br_54 {R : Room} {s : State} {args : Array Value} (hts : ∀ w ∈ G0, w.before args s = true) (hR : (rm_XBr_isAboveAfterStep).frames + 1 ≤ R.frames ∧ 8 + (4 + 11) + (rm_XBr_isAboveAfterStep).locals ≤ R.locals) : CallW R s args RX_Br RX_Br 54 y_XBr_isAboveAfterStep b_XBr_isAboveAfterStep 4 (some .boolean) w_XBr_isAboveAfterStep rm_XBr_isAboveAfterStep 0 0 1 := cwV 1 hts (zgV kwX_62 kwX_63 kwX_64 kwX_58 kc_XBr_isAboveAfterStep) rfl rfl rfl (by decide +kernel) hR
set_option maxRecDepth 20000 in
theorem kwX_65 : Cond.methodLink RX_DM 25 y_XDM_isWithin ∈ G0 := mG 318 rfl rfl
set_option maxRecDepth 20000 in
theorem kwX_66 : Cond.initialized RX_DM ∈ G0 := mG 70 rfl rfl
set_option maxRecDepth 20000 in
theorem kwX_67 : Cond.static y_XDM_isWithin ∈ G0 := mG 319 rfl rfl
theorem qX_DM_25 {R : Room} {s : State} {args : Array Value} (hts : ∀ w ∈ G0, w.before args s = true) (hR : (rm_XDM_isWithin).frames + 1 ≤ R.frames ∧ 8 + (3 + 11) + (rm_XDM_isWithin).locals ≤ R.locals) : CallB R s args RX_DM 25 y_XDM_isWithin b_XDM_isWithin 3 (some .boolean) w_XDM_isWithin rm_XDM_isWithin 0 0 3 ∧ (Cond.static y_XDM_isWithin).before args s = true := cwS 3 hts (zgS kwX_65 kwX_67 kwX_66 kc_XDM_isWithin) rfl rfl rfl (by decide +kernel) hR
set_option maxRecDepth 20000 in
theorem kwX_68 : Cond.methodLink RX_DM 51 y_XDM_isNibble ∈ G0 := mG 444 rfl rfl
set_option maxRecDepth 20000 in
theorem kwX_69 : Cond.static y_XDM_isNibble ∈ G0 := mG 445 rfl rfl
theorem qX_DM_51 {R : Room} {s : State} {args : Array Value} (hts : ∀ w ∈ G0, w.before args s = true) (hR : (rm_XDM_isNibble).frames + 1 ≤ R.frames ∧ 8 + (1 + 11) + (rm_XDM_isNibble).locals ≤ R.locals) : CallB R s args RX_DM 51 y_XDM_isNibble b_XDM_isNibble 1 (some .boolean) w_XDM_isNibble rm_XDM_isNibble 0 0 1 ∧ (Cond.static y_XDM_isNibble).before args s = true := cwS 1 hts (zgS kwX_68 kwX_69 kwX_66 kc_XDM_isNibble) rfl rfl rfl (by decide +kernel) hR
set_option maxRecDepth 20000 in
theorem kwX_70 : Cond.methodLink RX_De 101 y_XDe_putSum ∈ G0 := mG 759 rfl rfl
set_option maxRecDepth 20000 in
theorem kwX_71 : Cond.initialized RX_De ∈ G0 := mG 79 rfl rfl
set_option maxRecDepth 20000 in
theorem kwX_72 : Cond.instanceMethod y_XDe_putSum ∈ G0 := mG 761 rfl rfl
set_option maxRecDepth 20000 in
theorem kwX_73 : Cond.selects RX_De y_XDe_putSum y_XDe_putSum ∈ G0 := mG 30 rfl rfl
theorem qX_De_101 {R : Room} {s : State} {args : Array Value} (hts : ∀ w ∈ G0, w.before args s = true) (hR : (rm_XDe_putSum).frames + 1 ≤ R.frames ∧ 8 + (7 + 11) + (rm_XDe_putSum).locals ≤ R.locals) : CallW R s args RX_De RX_De 101 y_XDe_putSum b_XDe_putSum 7 (some .int) w_XDe_putSum rm_XDe_putSum 0 0 3 := cwV 3 hts (zgV kwX_70 kwX_72 kwX_73 kwX_71 kc_XDe_putSum) rfl rfl rfl (by decide +kernel) hR
set_option maxRecDepth 20000 in
theorem kwX_74 : Cond.methodLink RX_De 105 y_XSt_conditionBySign ∈ G0 := mG 763 rfl rfl
theorem qX_De_105 {R : Room} {s : State} {args : Array Value} (hts : ∀ w ∈ G0, w.before args s = true) (hR : (rm_XSt_conditionBySign).frames + 1 ≤ R.frames ∧ 8 + (3 + 11) + (rm_XSt_conditionBySign).locals ≤ R.locals) : CallW R s args RX_De RX_St 105 y_XSt_conditionBySign b_XSt_conditionBySign 3 none w_XSt_conditionBySign rm_XSt_conditionBySign 0 0 1 := cwV 1 hts (zgV kwX_74 kwX_54 kwX_55 kwX_1 kc_XSt_conditionBySign) rfl rfl rfl (by decide +kernel) hR
set_option maxRecDepth 20000 in
theorem kwX_75 : Cond.methodLink RX_De 109 y_XDe_multiply ∈ G0 := mG 773 rfl rfl
set_option maxRecDepth 20000 in
theorem kwX_76 : Cond.instanceMethod y_XDe_multiply ∈ G0 := mG 775 rfl rfl
set_option maxRecDepth 20000 in
theorem kwX_77 : Cond.selects RX_De y_XDe_multiply y_XDe_multiply ∈ G0 := mG 31 rfl rfl
theorem qX_De_109 {R : Room} {s : State} {args : Array Value} (hts : ∀ w ∈ G0, w.before args s = true) (hR : (rm_XDe_multiply).frames + 1 ≤ R.frames ∧ 8 + (7 + 11) + (rm_XDe_multiply).locals ≤ R.locals) : CallW R s args RX_De RX_De 109 y_XDe_multiply b_XDe_multiply 7 (some .int) w_XDe_multiply rm_XDe_multiply 0 0 3 := cwV 3 hts (zgV kwX_75 kwX_76 kwX_77 kwX_71 kc_XDe_multiply) rfl rfl rfl (by decide +kernel) hR
set_option maxRecDepth 20000 in
theorem kwX_78 : Cond.methodLink RX_De 112 y_XDe_divide ∈ G0 := mG 778 rfl rfl
set_option maxRecDepth 20000 in
theorem kwX_79 : Cond.instanceMethod y_XDe_divide ∈ G0 := mG 780 rfl rfl
set_option maxRecDepth 20000 in
theorem kwX_80 : Cond.selects RX_De y_XDe_divide y_XDe_divide ∈ G0 := mG 32 rfl rfl
theorem qX_De_112 {R : Room} {s : State} {args : Array Value} (hts : ∀ w ∈ G0, w.before args s = true) (hR : (rm_XDe_divide).frames + 1 ≤ R.frames ∧ 8 + (11 + 11) + (rm_XDe_divide).locals ≤ R.locals) : CallW R s args RX_De RX_De 112 y_XDe_divide b_XDe_divide 11 (some .int) w_XDe_divide rm_XDe_divide 0 0 3 := cwV 3 hts (zgV kwX_78 kwX_79 kwX_80 kwX_71 kc_XDe_divide) rfl rfl rfl (by decide +kernel) hR
set_option maxRecDepth 20000 in
theorem kwX_81 : Cond.methodLink RX_De 115 y_XDe_startsWithZeros ∈ G0 := mG 755 rfl rfl
set_option maxRecDepth 20000 in
theorem kwX_82 : Cond.instanceMethod y_XDe_startsWithZeros ∈ G0 := mG 757 rfl rfl
set_option maxRecDepth 20000 in
theorem kwX_83 : Cond.selects RX_De y_XDe_startsWithZeros y_XDe_startsWithZeros ∈ G0 := mG 29 rfl rfl
theorem qX_De_115 {R : Room} {s : State} {args : Array Value} (hts : ∀ w ∈ G0, w.before args s = true) (hR : (rm_XDe_startsWithZeros).frames + 1 ≤ R.frames ∧ 8 + (5 + 11) + (rm_XDe_startsWithZeros).locals ≤ R.locals) : CallW R s args RX_De RX_De 115 y_XDe_startsWithZeros b_XDe_startsWithZeros 5 (some .boolean) w_XDe_startsWithZeros rm_XDe_startsWithZeros 0 0 2 := cwV 2 hts (zgV kwX_81 kwX_82 kwX_83 kwX_71 kc_XDe_startsWithZeros) rfl rfl rfl (by decide +kernel) hR
set_option maxRecDepth 20000 in
theorem kwX_84 : Cond.methodLink RX_De 122 y_XDe_hasRoom ∈ G0 := mG 764 rfl rfl
set_option maxRecDepth 20000 in
theorem kwX_85 : Cond.static y_XDe_hasRoom ∈ G0 := mG 765 rfl rfl
theorem qX_De_122 {R : Room} {s : State} {args : Array Value} (hts : ∀ w ∈ G0, w.before args s = true) (hR : (rm_XDe_hasRoom).frames + 1 ≤ R.frames ∧ 8 + (6 + 11) + (rm_XDe_hasRoom).locals ≤ R.locals) : CallB R s args RX_De 122 y_XDe_hasRoom b_XDe_hasRoom 6 (some .boolean) w_XDe_hasRoom rm_XDe_hasRoom 0 0 2 ∧ (Cond.static y_XDe_hasRoom).before args s = true := cwS 2 hts (zgS kwX_84 kwX_85 kwX_71 kc_XDe_hasRoom) rfl rfl rfl (by decide +kernel) hR
set_option maxRecDepth 20000 in
theorem kwX_86 : Cond.methodLink RX_De 126 y_XSt_decimalOverflow ∈ G0 := mG 769 rfl rfl
set_option maxRecDepth 20000 in
theorem kwX_87 : Cond.instanceMethod y_XSt_decimalOverflow ∈ G0 := mG 770 rfl rfl
set_option maxRecDepth 20000 in
theorem kwX_88 : Cond.selects RX_St y_XSt_decimalOverflow y_XSt_decimalOverflow ∈ G0 := mG 771 rfl rfl
theorem qX_De_126 {R : Room} {s : State} {args : Array Value} (hts : ∀ w ∈ G0, w.before args s = true) (hR : (rm_XSt_decimalOverflow).frames + 1 ≤ R.frames ∧ 8 + (1 + 11) + (rm_XSt_decimalOverflow).locals ≤ R.locals) : CallW R s args RX_De RX_St 126 y_XSt_decimalOverflow b_XSt_decimalOverflow 1 (some .int) w_XSt_decimalOverflow rm_XSt_decimalOverflow 0 0 0 := cwV 0 hts (zgV kwX_86 kwX_87 kwX_88 kwX_1 kc_XSt_decimalOverflow) rfl rfl rfl (by decide +kernel) hR
set_option maxRecDepth 20000 in
theorem kwX_89 : Cond.methodLink RX_De 130 y_XMe_isMinus ∈ G0 := mG 777 rfl rfl
set_option maxRecDepth 20000 in
theorem kwX_90 : Cond.instanceMethod y_XMe_isMinus ∈ G0 := mG 673 rfl rfl
set_option maxRecDepth 20000 in
theorem kwX_91 : Cond.selects RX_Me y_XMe_isMinus y_XMe_isMinus ∈ G0 := mG 674 rfl rfl
theorem qX_De_130 {R : Room} {s : State} {args : Array Value} (hts : ∀ w ∈ G0, w.before args s = true) (hR : (rm_XMe_isMinus).frames + 1 ≤ R.frames ∧ 8 + (4 + 11) + (rm_XMe_isMinus).locals ≤ R.locals) : CallW R s args RX_De RX_Me 130 y_XMe_isMinus b_XMe_isMinus 4 (some .boolean) w_XMe_isMinus rm_XMe_isMinus 0 0 2 := cwV 2 hts (zgV kwX_89 kwX_90 kwX_91 kwX_17 kc_XMe_isMinus) rfl rfl rfl (by decide +kernel) hR
set_option maxRecDepth 20000 in
theorem kwX_92 : Cond.methodLink RX_De 32 y_XMe_faultOf ∈ G0 := mG 651 rfl rfl
theorem qX_De_32 {R : Room} {s : State} {args : Array Value} (hts : ∀ w ∈ G0, w.before args s = true) (hR : (rm_XMe_faultOf).frames + 1 ≤ R.frames ∧ 8 + (3 + 11) + (rm_XMe_faultOf).locals ≤ R.locals) : CallW R s args RX_De RX_Me 32 y_XMe_faultOf b_XMe_faultOf 3 (some .int) w_XMe_faultOf rm_XMe_faultOf 0 0 2 := cwV 2 hts (zgV kwX_92 kwX_18 kwX_19 kwX_17 kc_XMe_faultOf) rfl rfl rfl (by decide +kernel) hR
set_option maxRecDepth 20000 in
theorem kwX_93 : Cond.methodLink RX_De 44 y_XSt_value ∈ G0 := mG 652 rfl rfl
theorem qX_De_44 {R : Room} {s : State} {args : Array Value} (hts : ∀ w ∈ G0, w.before args s = true) (hR : (rm_XSt_value).frames + 1 ≤ R.frames ∧ 8 + (2 + 11) + (rm_XSt_value).locals ≤ R.locals) : CallW R s args RX_De RX_St 44 y_XSt_value b_XSt_value 2 (some .int) w_XSt_value rm_XSt_value 0 0 1 := cwV 1 hts (zgV kwX_93 kwX_11 kwX_12 kwX_1 kc_XSt_value) rfl rfl rfl (by decide +kernel) hR
set_option maxRecDepth 20000 in
theorem kwX_94 : Cond.methodLink RX_De 54 y_XMe_putDecimal ∈ G0 := mG 654 rfl rfl
set_option maxRecDepth 20000 in
theorem kwX_95 : Cond.instanceMethod y_XMe_putDecimal ∈ G0 := mG 655 rfl rfl
set_option maxRecDepth 20000 in
theorem kwX_96 : Cond.selects RX_Me y_XMe_putDecimal y_XMe_putDecimal ∈ G0 := mG 656 rfl rfl
theorem qX_De_54 {R : Room} {s : State} {args : Array Value} (hts : ∀ w ∈ G0, w.before args s = true) (hR : (rm_XMe_putDecimal).frames + 1 ≤ R.frames ∧ 8 + (10 + 11) + (rm_XMe_putDecimal).locals ≤ R.locals) : CallW R s args RX_De RX_Me 54 y_XMe_putDecimal b_XMe_putDecimal 10 none w_XMe_putDecimal rm_XMe_putDecimal 0 0 4 := cwV 4 hts (zgV kwX_94 kwX_95 kwX_96 kwX_17 kc_XMe_putDecimal) rfl rfl rfl (by decide +kernel) hR
set_option maxRecDepth 20000 in
theorem kwX_97 : Cond.methodLink RX_De 58 y_XDe_convertToBinary ∈ G0 := mG 660 rfl rfl
set_option maxRecDepth 20000 in
theorem kwX_98 : Cond.instanceMethod y_XDe_convertToBinary ∈ G0 := mG 662 rfl rfl
set_option maxRecDepth 20000 in
theorem kwX_99 : Cond.selects RX_De y_XDe_convertToBinary y_XDe_convertToBinary ∈ G0 := mG 17 rfl rfl
theorem qX_De_58 {R : Room} {s : State} {args : Array Value} (hts : ∀ w ∈ G0, w.before args s = true) (hR : (rm_XDe_convertToBinary).frames + 1 ≤ R.frames ∧ 8 + (4 + 11) + (rm_XDe_convertToBinary).locals ≤ R.locals) : CallW R s args RX_De RX_De 58 y_XDe_convertToBinary b_XDe_convertToBinary 4 (some .int) w_XDe_convertToBinary rm_XDe_convertToBinary 0 0 1 := cwV 1 hts (zgV kwX_97 kwX_98 kwX_99 kwX_71 kc_XDe_convertToBinary) rfl rfl rfl (by decide +kernel) hR
set_option maxRecDepth 20000 in
theorem kwX_100 : Cond.methodLink RX_De 62 y_XMe_isPacked ∈ G0 := mG 664 rfl rfl
set_option maxRecDepth 20000 in
theorem kwX_101 : Cond.instanceMethod y_XMe_isPacked ∈ G0 := mG 665 rfl rfl
set_option maxRecDepth 20000 in
theorem kwX_102 : Cond.selects RX_Me y_XMe_isPacked y_XMe_isPacked ∈ G0 := mG 666 rfl rfl
theorem qX_De_62 {R : Room} {s : State} {args : Array Value} (hts : ∀ w ∈ G0, w.before args s = true) (hR : (rm_XMe_isPacked).frames + 1 ≤ R.frames ∧ 8 + (7 + 11) + (rm_XMe_isPacked).locals ≤ R.locals) : CallW R s args RX_De RX_Me 62 y_XMe_isPacked b_XMe_isPacked 7 (some .boolean) w_XMe_isPacked rm_XMe_isPacked 0 0 2 := cwV 2 hts (zgV kwX_100 kwX_101 kwX_102 kwX_17 kc_XMe_isPacked) rfl rfl rfl (by decide +kernel) hR
set_option maxRecDepth 20000 in
theorem kwX_103 : Cond.methodLink RX_De 66 y_XMe_decimal ∈ G0 := mG 668 rfl rfl
set_option maxRecDepth 20000 in
theorem kwX_104 : Cond.instanceMethod y_XMe_decimal ∈ G0 := mG 669 rfl rfl
set_option maxRecDepth 20000 in
theorem kwX_105 : Cond.selects RX_Me y_XMe_decimal y_XMe_decimal ∈ G0 := mG 670 rfl rfl
theorem qX_De_66 {R : Room} {s : State} {args : Array Value} (hts : ∀ w ∈ G0, w.before args s = true) (hR : (rm_XMe_decimal).frames + 1 ≤ R.frames ∧ 8 + (7 + 11) + (rm_XMe_decimal).locals ≤ R.locals) : CallW R s args RX_De RX_Me 66 y_XMe_decimal b_XMe_decimal 7 (some .long) w_XMe_decimal rm_XMe_decimal 0 0 2 := cwV 2 hts (zgV kwX_103 kwX_104 kwX_105 kwX_17 kc_XMe_decimal) rfl rfl rfl (by decide +kernel) hR
set_option maxRecDepth 20000 in
theorem kwX_106 : Cond.methodLink RX_De 70 y_XSt_put ∈ G0 := mG 676 rfl rfl
theorem qX_De_70 {R : Room} {s : State} {args : Array Value} (hts : ∀ w ∈ G0, w.before args s = true) (hR : (rm_XSt_put).frames + 1 ≤ R.frames ∧ 8 + (3 + 11) + (rm_XSt_put).locals ≤ R.locals) : CallW R s args RX_De RX_St 70 y_XSt_put b_XSt_put 3 none w_XSt_put rm_XSt_put 0 0 2 := cwV 2 hts (zgV kwX_106 kwX_27 kwX_28 kwX_1 kc_XSt_put) rfl rfl rfl (by decide +kernel) hR
set_option maxRecDepth 20000 in
theorem kwX_107 : Cond.methodLink RX_De 80 y_XMe_holds ∈ G0 := mG 732 rfl rfl
set_option maxRecDepth 20000 in
theorem kwX_108 : Cond.instanceMethod y_XMe_holds ∈ G0 := mG 398 rfl rfl
set_option maxRecDepth 20000 in
theorem kwX_109 : Cond.selects RX_Me y_XMe_holds y_XMe_holds ∈ G0 := mG 399 rfl rfl
theorem qX_De_80 {R : Room} {s : State} {args : Array Value} (hts : ∀ w ∈ G0, w.before args s = true) (hR : (rm_XMe_holds).frames + 1 ≤ R.frames ∧ 8 + (3 + 11) + (rm_XMe_holds).locals ≤ R.locals) : CallW R s args RX_De RX_Me 80 y_XMe_holds b_XMe_holds 3 (some .boolean) w_XMe_holds rm_XMe_holds 0 0 2 := cwV 2 hts (zgV kwX_107 kwX_108 kwX_109 kwX_17 kc_XMe_holds) rfl rfl rfl (by decide +kernel) hR
set_option maxRecDepth 20000 in
theorem kwX_110 : Cond.methodLink RX_De 83 y_XMe_get ∈ G0 := mG 733 rfl rfl
set_option maxRecDepth 20000 in
theorem kwX_111 : Cond.instanceMethod y_XMe_get ∈ G0 := mG 434 rfl rfl
set_option maxRecDepth 20000 in
theorem kwX_112 : Cond.selects RX_Me y_XMe_get y_XMe_get ∈ G0 := mG 435 rfl rfl
theorem qX_De_83 {R : Room} {s : State} {args : Array Value} (hts : ∀ w ∈ G0, w.before args s = true) (hR : (rm_XMe_get).frames + 1 ≤ R.frames ∧ 8 + (2 + 11) + (rm_XMe_get).locals ≤ R.locals) : CallW R s args RX_De RX_Me 83 y_XMe_get b_XMe_get 2 (some .int) w_XMe_get rm_XMe_get 0 0 1 := cwV 1 hts (zgV kwX_110 kwX_111 kwX_112 kwX_17 kc_XMe_get) rfl rfl rfl (by decide +kernel) hR
set_option maxRecDepth 20000 in
theorem kwX_113 : Cond.methodLink RX_De 86 y_XDe_sourceOctet ∈ G0 := mG 734 rfl rfl
set_option maxRecDepth 20000 in
theorem kwX_114 : Cond.instanceMethod y_XDe_sourceOctet ∈ G0 := mG 736 rfl rfl
set_option maxRecDepth 20000 in
theorem kwX_115 : Cond.selects RX_De y_XDe_sourceOctet y_XDe_sourceOctet ∈ G0 := mG 25 rfl rfl
theorem qX_De_86 {R : Room} {s : State} {args : Array Value} (hts : ∀ w ∈ G0, w.before args s = true) (hR : (rm_XDe_sourceOctet).frames + 1 ≤ R.frames ∧ 8 + (2 + 11) + (rm_XDe_sourceOctet).locals ≤ R.locals) : CallW R s args RX_De RX_De 86 y_XDe_sourceOctet b_XDe_sourceOctet 2 (some .int) w_XDe_sourceOctet rm_XDe_sourceOctet 0 0 1 := cwV 1 hts (zgV kwX_113 kwX_114 kwX_115 kwX_71 kc_XDe_sourceOctet) rfl rfl rfl (by decide +kernel) hR
set_option maxRecDepth 20000 in
theorem kwX_116 : Cond.methodLink RX_De 89 y_XMe_put ∈ G0 := mG 738 rfl rfl
set_option maxRecDepth 20000 in
theorem kwX_117 : Cond.instanceMethod y_XMe_put ∈ G0 := mG 423 rfl rfl
set_option maxRecDepth 20000 in
theorem kwX_118 : Cond.selects RX_Me y_XMe_put y_XMe_put ∈ G0 := mG 424 rfl rfl
theorem qX_De_89 {R : Room} {s : State} {args : Array Value} (hts : ∀ w ∈ G0, w.before args s = true) (hR : (rm_XMe_put).frames + 1 ≤ R.frames ∧ 8 + (3 + 11) + (rm_XMe_put).locals ≤ R.locals) : CallW R s args RX_De RX_Me 89 y_XMe_put b_XMe_put 3 none w_XMe_put rm_XMe_put 0 0 2 := cwV 2 hts (zgV kwX_116 kwX_117 kwX_118 kwX_17 kc_XMe_put) rfl rfl rfl (by decide +kernel) hR
set_option maxRecDepth 20000 in
theorem kwX_119 : Cond.methodLink RX_De 90 y_XDe_packRest ∈ G0 := mG 739 rfl rfl
set_option maxRecDepth 20000 in
theorem kwX_120 : Cond.instanceMethod y_XDe_packRest ∈ G0 := mG 741 rfl rfl
set_option maxRecDepth 20000 in
theorem kwX_121 : Cond.selects RX_De y_XDe_packRest y_XDe_packRest ∈ G0 := mG 26 rfl rfl
theorem qX_De_90 {R : Room} {s : State} {args : Array Value} (hts : ∀ w ∈ G0, w.before args s = true) (hR : (rm_XDe_packRest).frames + 1 ≤ R.frames ∧ 8 + (8 + 11) + (rm_XDe_packRest).locals ≤ R.locals) : CallW R s args RX_De RX_De 90 y_XDe_packRest b_XDe_packRest 8 none w_XDe_packRest rm_XDe_packRest 0 0 3 := cwV 3 hts (zgV kwX_119 kwX_120 kwX_121 kwX_71 kc_XDe_packRest) rfl rfl rfl (by decide +kernel) hR
set_option maxRecDepth 20000 in
theorem kwX_122 : Cond.methodLink RX_De 94 y_XDe_unpackRest ∈ G0 := mG 743 rfl rfl
set_option maxRecDepth 20000 in
theorem kwX_123 : Cond.instanceMethod y_XDe_unpackRest ∈ G0 := mG 745 rfl rfl
set_option maxRecDepth 20000 in
theorem kwX_124 : Cond.selects RX_De y_XDe_unpackRest y_XDe_unpackRest ∈ G0 := mG 27 rfl rfl
theorem qX_De_94 {R : Room} {s : State} {args : Array Value} (hts : ∀ w ∈ G0, w.before args s = true) (hR : (rm_XDe_unpackRest).frames + 1 ≤ R.frames ∧ 8 + (7 + 11) + (rm_XDe_unpackRest).locals ≤ R.locals) : CallW R s args RX_De RX_De 94 y_XDe_unpackRest b_XDe_unpackRest 7 none w_XDe_unpackRest rm_XDe_unpackRest 0 0 3 := cwV 3 hts (zgV kwX_122 kwX_123 kwX_124 kwX_71 kc_XDe_unpackRest) rfl rfl rfl (by decide +kernel) hR
set_option maxRecDepth 20000 in
theorem kwX_125 : Cond.methodLink RX_De 97 y_XDe_faultOfFields ∈ G0 := mG 751 rfl rfl
set_option maxRecDepth 20000 in
theorem kwX_126 : Cond.instanceMethod y_XDe_faultOfFields ∈ G0 := mG 753 rfl rfl
set_option maxRecDepth 20000 in
theorem kwX_127 : Cond.selects RX_De y_XDe_faultOfFields y_XDe_faultOfFields ∈ G0 := mG 28 rfl rfl
theorem qX_De_97 {R : Room} {s : State} {args : Array Value} (hts : ∀ w ∈ G0, w.before args s = true) (hR : (rm_XDe_faultOfFields).frames + 1 ≤ R.frames ∧ 8 + (6 + 11) + (rm_XDe_faultOfFields).locals ≤ R.locals) : CallW R s args RX_De RX_De 97 y_XDe_faultOfFields b_XDe_faultOfFields 6 (some .int) w_XDe_faultOfFields rm_XDe_faultOfFields 0 0 3 := cwV 3 hts (zgV kwX_125 kwX_126 kwX_127 kwX_71 kc_XDe_faultOfFields) rfl rfl rfl (by decide +kernel) hR
set_option maxRecDepth 20000 in
theorem kwX_128 : Cond.methodLink RX_In 19 y_XMe_holds ∈ G0 := mG 527 rfl rfl
theorem qX_In_19 {R : Room} {s : State} {args : Array Value} (hts : ∀ w ∈ G0, w.before args s = true) (hR : (rm_XMe_holds).frames + 1 ≤ R.frames ∧ 8 + (3 + 11) + (rm_XMe_holds).locals ≤ R.locals) : CallW R s args RX_In RX_Me 19 y_XMe_holds b_XMe_holds 3 (some .boolean) w_XMe_holds rm_XMe_holds 0 0 2 := cwV 2 hts (zgV kwX_128 kwX_108 kwX_109 kwX_17 kc_XMe_holds) rfl rfl rfl (by decide +kernel) hR
set_option maxRecDepth 20000 in
theorem kwX_129 : Cond.methodLink RX_In 25 y_XMe_get ∈ G0 := mG 528 rfl rfl
theorem qX_In_25 {R : Room} {s : State} {args : Array Value} (hts : ∀ w ∈ G0, w.before args s = true) (hR : (rm_XMe_get).frames + 1 ≤ R.frames ∧ 8 + (2 + 11) + (rm_XMe_get).locals ≤ R.locals) : CallW R s args RX_In RX_Me 25 y_XMe_get b_XMe_get 2 (some .int) w_XMe_get rm_XMe_get 0 0 1 := cwV 1 hts (zgV kwX_129 kwX_111 kwX_112 kwX_17 kc_XMe_get) rfl rfl rfl (by decide +kernel) hR
set_option maxRecDepth 20000 in
theorem kwX_130 : Cond.methodLink RX_In 46 y_XIn_findAddresses ∈ G0 := mG 529 rfl rfl
set_option maxRecDepth 20000 in
theorem kwX_131 : Cond.initialized RX_In ∈ G0 := mG 74 rfl rfl
set_option maxRecDepth 20000 in
theorem kwX_132 : Cond.instanceMethod y_XIn_findAddresses ∈ G0 := mG 531 rfl rfl
set_option maxRecDepth 20000 in
theorem kwX_133 : Cond.selects RX_In y_XIn_findAddresses y_XIn_findAddresses ∈ G0 := mG 2 rfl rfl
theorem qX_In_46 {R : Room} {s : State} {args : Array Value} (hts : ∀ w ∈ G0, w.before args s = true) (hR : (rm_XIn_findAddresses).frames + 1 ≤ R.frames ∧ 8 + (4 + 11) + (rm_XIn_findAddresses).locals ≤ R.locals) : CallW R s args RX_In RX_In 46 y_XIn_findAddresses b_XIn_findAddresses 4 none w_XIn_findAddresses rm_XIn_findAddresses 0 0 2 := cwV 2 hts (zgV kwX_130 kwX_132 kwX_133 kwX_131 kc_XIn_findAddresses) rfl rfl rfl (by decide +kernel) hR
set_option maxRecDepth 20000 in
theorem kwX_134 : Cond.methodLink RX_In 50 y_XSt_value ∈ G0 := mG 533 rfl rfl
theorem qX_In_50 {R : Room} {s : State} {args : Array Value} (hts : ∀ w ∈ G0, w.before args s = true) (hR : (rm_XSt_value).frames + 1 ≤ R.frames ∧ 8 + (2 + 11) + (rm_XSt_value).locals ≤ R.locals) : CallW R s args RX_In RX_St 50 y_XSt_value b_XSt_value 2 (some .int) w_XSt_value rm_XSt_value 0 0 1 := cwV 1 hts (zgV kwX_134 kwX_11 kwX_12 kwX_1 kc_XSt_value) rfl rfl rfl (by decide +kernel) hR
set_option maxRecDepth 20000 in
theorem kwX_135 : Cond.methodLink RX_In 53 y_XIn_place ∈ G0 := mG 534 rfl rfl
set_option maxRecDepth 20000 in
theorem kwX_136 : Cond.static y_XIn_place ∈ G0 := mG 535 rfl rfl
theorem qX_In_53 {R : Room} {s : State} {args : Array Value} (hts : ∀ w ∈ G0, w.before args s = true) (hR : (rm_XIn_place).frames + 1 ≤ R.frames ∧ 8 + (4 + 11) + (rm_XIn_place).locals ≤ R.locals) : CallB R s args RX_In 53 y_XIn_place b_XIn_place 4 (some .int) w_XIn_place rm_XIn_place 0 0 2 ∧ (Cond.static y_XIn_place).before args s = true := cwS 2 hts (zgS kwX_135 kwX_136 kwX_131 kc_XIn_place) rfl rfl rfl (by decide +kernel) hR
set_option maxRecDepth 20000 in
theorem kwX_137 : Cond.methodLink RX_Me 15 y_XMe_holds ∈ G0 := mG 569 rfl rfl
theorem qX_Me_15 {R : Room} {s : State} {args : Array Value} (hts : ∀ w ∈ G0, w.before args s = true) (hR : (rm_XMe_holds).frames + 1 ≤ R.frames ∧ 8 + (3 + 11) + (rm_XMe_holds).locals ≤ R.locals) : CallW R s args RX_Me RX_Me 15 y_XMe_holds b_XMe_holds 3 (some .boolean) w_XMe_holds rm_XMe_holds 0 0 2 := cwV 2 hts (zgV kwX_137 kwX_108 kwX_109 kwX_17 kc_XMe_holds) rfl rfl rfl (by decide +kernel) hR
set_option maxRecDepth 20000 in
theorem kwX_138 : Cond.methodLink RX_Me 19 y_XMe_get ∈ G0 := mG 587 rfl rfl
theorem qX_Me_19 {R : Room} {s : State} {args : Array Value} (hts : ∀ w ∈ G0, w.before args s = true) (hR : (rm_XMe_get).frames + 1 ≤ R.frames ∧ 8 + (2 + 11) + (rm_XMe_get).locals ≤ R.locals) : CallW R s args RX_Me RX_Me 19 y_XMe_get b_XMe_get 2 (some .int) w_XMe_get rm_XMe_get 0 0 1 := cwV 1 hts (zgV kwX_138 kwX_111 kwX_112 kwX_17 kc_XMe_get) rfl rfl rfl (by decide +kernel) hR
set_option maxRecDepth 20000 in
theorem kwX_139 : Cond.methodLink RX_Me 25 y_XMe_put ∈ G0 := mG 422 rfl rfl
theorem qX_Me_25 {R : Room} {s : State} {args : Array Value} (hts : ∀ w ∈ G0, w.before args s = true) (hR : (rm_XMe_put).frames + 1 ≤ R.frames ∧ 8 + (3 + 11) + (rm_XMe_put).locals ≤ R.locals) : CallW R s args RX_Me RX_Me 25 y_XMe_put b_XMe_put 3 none w_XMe_put rm_XMe_put 0 0 2 := cwV 2 hts (zgV kwX_139 kwX_117 kwX_118 kwX_17 kc_XMe_put) rfl rfl rfl (by decide +kernel) hR
set_option maxRecDepth 20000 in
theorem kwX_140 : Cond.methodLink RX_Me 33 y_XMe_isMinus ∈ G0 := mG 672 rfl rfl
theorem qX_Me_33 {R : Room} {s : State} {args : Array Value} (hts : ∀ w ∈ G0, w.before args s = true) (hR : (rm_XMe_isMinus).frames + 1 ≤ R.frames ∧ 8 + (4 + 11) + (rm_XMe_isMinus).locals ≤ R.locals) : CallW R s args RX_Me RX_Me 33 y_XMe_isMinus b_XMe_isMinus 4 (some .boolean) w_XMe_isMinus rm_XMe_isMinus 0 0 2 := cwV 2 hts (zgV kwX_140 kwX_90 kwX_91 kwX_17 kc_XMe_isMinus) rfl rfl rfl (by decide +kernel) hR
set_option maxRecDepth 20000 in
theorem kwX_141 : Cond.methodLink RX_Oc 28 y_XMe_holds ∈ G0 := mG 691 rfl rfl
theorem qX_Oc_28 {R : Room} {s : State} {args : Array Value} (hts : ∀ w ∈ G0, w.before args s = true) (hR : (rm_XMe_holds).frames + 1 ≤ R.frames ∧ 8 + (3 + 11) + (rm_XMe_holds).locals ≤ R.locals) : CallW R s args RX_Oc RX_Me 28 y_XMe_holds b_XMe_holds 3 (some .boolean) w_XMe_holds rm_XMe_holds 0 0 2 := cwV 2 hts (zgV kwX_141 kwX_108 kwX_109 kwX_17 kc_XMe_holds) rfl rfl rfl (by decide +kernel) hR
set_option maxRecDepth 20000 in
theorem kwX_142 : Cond.methodLink RX_Oc 34 y_XMe_get ∈ G0 := mG 692 rfl rfl
theorem qX_Oc_34 {R : Room} {s : State} {args : Array Value} (hts : ∀ w ∈ G0, w.before args s = true) (hR : (rm_XMe_get).frames + 1 ≤ R.frames ∧ 8 + (2 + 11) + (rm_XMe_get).locals ≤ R.locals) : CallW R s args RX_Oc RX_Me 34 y_XMe_get b_XMe_get 2 (some .int) w_XMe_get rm_XMe_get 0 0 1 := cwV 1 hts (zgV kwX_142 kwX_111 kwX_112 kwX_17 kc_XMe_get) rfl rfl rfl (by decide +kernel) hR
set_option maxRecDepth 20000 in
theorem kwX_143 : Cond.methodLink RX_Oc 44 y_XOc_testBits ∈ G0 := mG 693 rfl rfl
set_option maxRecDepth 20000 in
theorem kwX_144 : Cond.initialized RX_Oc ∈ G0 := mG 78 rfl rfl
set_option maxRecDepth 20000 in
theorem kwX_145 : Cond.instanceMethod y_XOc_testBits ∈ G0 := mG 695 rfl rfl
set_option maxRecDepth 20000 in
theorem kwX_146 : Cond.selects RX_Oc y_XOc_testBits y_XOc_testBits ∈ G0 := mG 19 rfl rfl
theorem qX_Oc_44 {R : Room} {s : State} {args : Array Value} (hts : ∀ w ∈ G0, w.before args s = true) (hR : (rm_XOc_testBits).frames + 1 ≤ R.frames ∧ 8 + (4 + 11) + (rm_XOc_testBits).locals ≤ R.locals) : CallW R s args RX_Oc RX_Oc 44 y_XOc_testBits b_XOc_testBits 4 none w_XOc_testBits rm_XOc_testBits 0 0 2 := cwV 2 hts (zgV kwX_143 kwX_145 kwX_146 kwX_144 kc_XOc_testBits) rfl rfl rfl (by decide +kernel) hR
set_option maxRecDepth 20000 in
theorem kwX_147 : Cond.methodLink RX_Oc 48 y_XMe_put ∈ G0 := mG 697 rfl rfl
theorem qX_Oc_48 {R : Room} {s : State} {args : Array Value} (hts : ∀ w ∈ G0, w.before args s = true) (hR : (rm_XMe_put).frames + 1 ≤ R.frames ∧ 8 + (3 + 11) + (rm_XMe_put).locals ≤ R.locals) : CallW R s args RX_Oc RX_Me 48 y_XMe_put b_XMe_put 3 none w_XMe_put rm_XMe_put 0 0 2 := cwV 2 hts (zgV kwX_147 kwX_117 kwX_118 kwX_17 kc_XMe_put) rfl rfl rfl (by decide +kernel) hR
set_option maxRecDepth 20000 in
theorem kwX_148 : Cond.methodLink RX_Oc 51 y_XOc_putBits ∈ G0 := mG 698 rfl rfl
set_option maxRecDepth 20000 in
theorem kwX_149 : Cond.instanceMethod y_XOc_putBits ∈ G0 := mG 700 rfl rfl
set_option maxRecDepth 20000 in
theorem kwX_150 : Cond.selects RX_Oc y_XOc_putBits y_XOc_putBits ∈ G0 := mG 20 rfl rfl
theorem qX_Oc_51 {R : Room} {s : State} {args : Array Value} (hts : ∀ w ∈ G0, w.before args s = true) (hR : (rm_XOc_putBits).frames + 1 ≤ R.frames ∧ 8 + (3 + 11) + (rm_XOc_putBits).locals ≤ R.locals) : CallW R s args RX_Oc RX_Oc 51 y_XOc_putBits b_XOc_putBits 3 (some .int) w_XOc_putBits rm_XOc_putBits 0 0 2 := cwV 2 hts (zgV kwX_148 kwX_149 kwX_150 kwX_144 kc_XOc_putBits) rfl rfl rfl (by decide +kernel) hR
set_option maxRecDepth 20000 in
theorem kwX_151 : Cond.methodLink RX_Oc 55 y_XSt_conditionBySign ∈ G0 := mG 703 rfl rfl
theorem qX_Oc_55 {R : Room} {s : State} {args : Array Value} (hts : ∀ w ∈ G0, w.before args s = true) (hR : (rm_XSt_conditionBySign).frames + 1 ≤ R.frames ∧ 8 + (3 + 11) + (rm_XSt_conditionBySign).locals ≤ R.locals) : CallW R s args RX_Oc RX_St 55 y_XSt_conditionBySign b_XSt_conditionBySign 3 none w_XSt_conditionBySign rm_XSt_conditionBySign 0 0 1 := cwV 1 hts (zgV kwX_151 kwX_54 kwX_55 kwX_1 kc_XSt_conditionBySign) rfl rfl rfl (by decide +kernel) hR
set_option maxRecDepth 20000 in
theorem kwX_152 : Cond.methodLink RX_Oc 59 y_XOc_translate ∈ G0 := mG 708 rfl rfl
set_option maxRecDepth 20000 in
theorem kwX_153 : Cond.instanceMethod y_XOc_translate ∈ G0 := mG 710 rfl rfl
set_option maxRecDepth 20000 in
theorem kwX_154 : Cond.selects RX_Oc y_XOc_translate y_XOc_translate ∈ G0 := mG 21 rfl rfl
theorem qX_Oc_59 {R : Room} {s : State} {args : Array Value} (hts : ∀ w ∈ G0, w.before args s = true) (hR : (rm_XOc_translate).frames + 1 ≤ R.frames ∧ 8 + (4 + 11) + (rm_XOc_translate).locals ≤ R.locals) : CallW R s args RX_Oc RX_Oc 59 y_XOc_translate b_XOc_translate 4 (some .int) w_XOc_translate rm_XOc_translate 0 0 2 := cwV 2 hts (zgV kwX_152 kwX_153 kwX_154 kwX_144 kc_XOc_translate) rfl rfl rfl (by decide +kernel) hR
set_option maxRecDepth 20000 in
theorem kwX_155 : Cond.methodLink RX_Oc 66 y_XOc_compare ∈ G0 := mG 717 rfl rfl
set_option maxRecDepth 20000 in
theorem kwX_156 : Cond.instanceMethod y_XOc_compare ∈ G0 := mG 719 rfl rfl
set_option maxRecDepth 20000 in
theorem kwX_157 : Cond.selects RX_Oc y_XOc_compare y_XOc_compare ∈ G0 := mG 23 rfl rfl
theorem qX_Oc_66 {R : Room} {s : State} {args : Array Value} (hts : ∀ w ∈ G0, w.before args s = true) (hR : (rm_XOc_compare).frames + 1 ≤ R.frames ∧ 8 + (5 + 11) + (rm_XOc_compare).locals ≤ R.locals) : CallW R s args RX_Oc RX_Oc 66 y_XOc_compare b_XOc_compare 5 (some .int) w_XOc_compare rm_XOc_compare 0 0 2 := cwV 2 hts (zgV kwX_155 kwX_156 kwX_157 kwX_144 kc_XOc_compare) rfl rfl rfl (by decide +kernel) hR
set_option maxRecDepth 20000 in
theorem kwX_158 : Cond.methodLink RX_Oc 69 y_XOc_rewrite ∈ G0 := mG 721 rfl rfl
set_option maxRecDepth 20000 in
theorem kwX_159 : Cond.instanceMethod y_XOc_rewrite ∈ G0 := mG 723 rfl rfl
set_option maxRecDepth 20000 in
theorem kwX_160 : Cond.selects RX_Oc y_XOc_rewrite y_XOc_rewrite ∈ G0 := mG 24 rfl rfl
theorem qX_Oc_69 {R : Room} {s : State} {args : Array Value} (hts : ∀ w ∈ G0, w.before args s = true) (hR : (rm_XOc_rewrite).frames + 1 ≤ R.frames ∧ 8 + (6 + 11) + (rm_XOc_rewrite).locals ≤ R.locals) : CallW R s args RX_Oc RX_Oc 69 y_XOc_rewrite b_XOc_rewrite 6 (some .int) w_XOc_rewrite rm_XOc_rewrite 0 0 2 := cwV 2 hts (zgV kwX_158 kwX_159 kwX_160 kwX_144 kc_XOc_rewrite) rfl rfl rfl (by decide +kernel) hR
set_option maxRecDepth 20000 in
theorem kwX_161 : Cond.methodLink RX_Oc 75 y_XSt_conditionByBits ∈ G0 := mG 702 rfl rfl
theorem qX_Oc_75 {R : Room} {s : State} {args : Array Value} (hts : ∀ w ∈ G0, w.before args s = true) (hR : (rm_XSt_conditionByBits).frames + 1 ≤ R.frames ∧ 8 + (2 + 11) + (rm_XSt_conditionByBits).locals ≤ R.locals) : CallW R s args RX_Oc RX_St 75 y_XSt_conditionByBits b_XSt_conditionByBits 2 none w_XSt_conditionByBits rm_XSt_conditionByBits 0 0 1 := cwV 1 hts (zgV kwX_161 kwX_2 kwX_3 kwX_1 kc_XSt_conditionByBits) rfl rfl rfl (by decide +kernel) hR
set_option maxRecDepth 20000 in
theorem kwX_162 : Cond.methodLink RX_Oc 79 y_XOc_join ∈ G0 := mG 725 rfl rfl
set_option maxRecDepth 20000 in
theorem kwX_163 : Cond.static y_XOc_join ∈ G0 := mG 726 rfl rfl
theorem qX_Oc_79 {R : Room} {s : State} {args : Array Value} (hts : ∀ w ∈ G0, w.before args s = true) (hR : (rm_XOc_join).frames + 1 ≤ R.frames ∧ 8 + (3 + 11) + (rm_XOc_join).locals ≤ R.locals) : CallB R s args RX_Oc 79 y_XOc_join b_XOc_join 3 (some .int) w_XOc_join rm_XOc_join 0 0 3 ∧ (Cond.static y_XOc_join).before args s = true := cwS 3 hts (zgS kwX_162 kwX_163 kwX_144 kc_XOc_join) rfl rfl rfl (by decide +kernel) hR
set_option maxRecDepth 20000 in
theorem kwX_164 : Cond.methodLink RX_Oc 83 y_XOc_entry ∈ G0 := mG 712 rfl rfl
set_option maxRecDepth 20000 in
theorem kwX_165 : Cond.instanceMethod y_XOc_entry ∈ G0 := mG 714 rfl rfl
set_option maxRecDepth 20000 in
theorem kwX_166 : Cond.selects RX_Oc y_XOc_entry y_XOc_entry ∈ G0 := mG 22 rfl rfl
theorem qX_Oc_83 {R : Room} {s : State} {args : Array Value} (hts : ∀ w ∈ G0, w.before args s = true) (hR : (rm_XOc_entry).frames + 1 ≤ R.frames ∧ 8 + (3 + 11) + (rm_XOc_entry).locals ≤ R.locals) : CallW R s args RX_Oc RX_Oc 83 y_XOc_entry b_XOc_entry 3 (some .int) w_XOc_entry rm_XOc_entry 0 0 2 := cwV 2 hts (zgV kwX_164 kwX_165 kwX_166 kwX_144 kc_XOc_entry) rfl rfl rfl (by decide +kernel) hR
set_option maxRecDepth 20000 in
theorem kwX_167 : Cond.methodLink RX_Pr 102 y_XAr_shift ∈ G0 := mG 677 rfl rfl
set_option maxRecDepth 20000 in
theorem kwX_168 : Cond.instanceMethod y_XAr_shift ∈ G0 := mG 678 rfl rfl
set_option maxRecDepth 20000 in
theorem kwX_169 : Cond.selects RX_Ar y_XAr_shift y_XAr_shift ∈ G0 := mG 679 rfl rfl
theorem qX_Pr_102 {R : Room} {s : State} {args : Array Value} (hts : ∀ w ∈ G0, w.before args s = true) (hR : (rm_XAr_shift).frames + 1 ≤ R.frames ∧ 8 + (4 + 11) + (rm_XAr_shift).locals ≤ R.locals) : CallW R s args RX_Pr RX_Ar 102 y_XAr_shift b_XAr_shift 4 (some .int) w_XAr_shift rm_XAr_shift 0 0 1 := cwV 1 hts (zgV kwX_167 kwX_168 kwX_169 kwX_8 kc_XAr_shift) rfl rfl rfl (by decide +kernel) hR
set_option maxRecDepth 20000 in
theorem kwX_170 : Cond.methodLink RX_Pr 105 y_XOc_withImmediate ∈ G0 := mG 687 rfl rfl
set_option maxRecDepth 20000 in
theorem kwX_171 : Cond.instanceMethod y_XOc_withImmediate ∈ G0 := mG 688 rfl rfl
set_option maxRecDepth 20000 in
theorem kwX_172 : Cond.selects RX_Oc y_XOc_withImmediate y_XOc_withImmediate ∈ G0 := mG 689 rfl rfl
theorem qX_Pr_105 {R : Room} {s : State} {args : Array Value} (hts : ∀ w ∈ G0, w.before args s = true) (hR : (rm_XOc_withImmediate).frames + 1 ≤ R.frames ∧ 8 + (3 + 11) + (rm_XOc_withImmediate).locals ≤ R.locals) : CallW R s args RX_Pr RX_Oc 105 y_XOc_withImmediate b_XOc_withImmediate 3 (some .int) w_XOc_withImmediate rm_XOc_withImmediate 0 0 1 := cwV 1 hts (zgV kwX_170 kwX_171 kwX_172 kwX_144 kc_XOc_withImmediate) rfl rfl rfl (by decide +kernel) hR
set_option maxRecDepth 20000 in
theorem kwX_173 : Cond.methodLink RX_Pr 108 y_XOc_withField ∈ G0 := mG 704 rfl rfl
set_option maxRecDepth 20000 in
theorem kwX_174 : Cond.instanceMethod y_XOc_withField ∈ G0 := mG 705 rfl rfl
set_option maxRecDepth 20000 in
theorem kwX_175 : Cond.selects RX_Oc y_XOc_withField y_XOc_withField ∈ G0 := mG 706 rfl rfl
theorem qX_Pr_108 {R : Room} {s : State} {args : Array Value} (hts : ∀ w ∈ G0, w.before args s = true) (hR : (rm_XOc_withField).frames + 1 ≤ R.frames ∧ 8 + (3 + 11) + (rm_XOc_withField).locals ≤ R.locals) : CallW R s args RX_Pr RX_Oc 108 y_XOc_withField b_XOc_withField 3 (some .int) w_XOc_withField rm_XOc_withField 0 0 1 := cwV 1 hts (zgV kwX_173 kwX_174 kwX_175 kwX_144 kc_XOc_withField) rfl rfl rfl (by decide +kernel) hR
set_option maxRecDepth 20000 in
theorem kwX_176 : Cond.methodLink RX_Pr 111 y_XDe_changeForm ∈ G0 := mG 728 rfl rfl
set_option maxRecDepth 20000 in
theorem kwX_177 : Cond.instanceMethod y_XDe_changeForm ∈ G0 := mG 729 rfl rfl
set_option maxRecDepth 20000 in
theorem kwX_178 : Cond.selects RX_De y_XDe_changeForm y_XDe_changeForm ∈ G0 := mG 730 rfl rfl
theorem qX_Pr_111 {R : Room} {s : State} {args : Array Value} (hts : ∀ w ∈ G0, w.before args s = true) (hR : (rm_XDe_changeForm).frames + 1 ≤ R.frames ∧ 8 + (5 + 11) + (rm_XDe_changeForm).locals ≤ R.locals) : CallW R s args RX_Pr RX_De 111 y_XDe_changeForm b_XDe_changeForm 5 (some .int) w_XDe_changeForm rm_XDe_changeForm 0 0 1 := cwV 1 hts (zgV kwX_176 kwX_177 kwX_178 kwX_71 kc_XDe_changeForm) rfl rfl rfl (by decide +kernel) hR
set_option maxRecDepth 20000 in
theorem kwX_179 : Cond.methodLink RX_Pr 114 y_XDe_calculate ∈ G0 := mG 747 rfl rfl
set_option maxRecDepth 20000 in
theorem kwX_180 : Cond.instanceMethod y_XDe_calculate ∈ G0 := mG 748 rfl rfl
set_option maxRecDepth 20000 in
theorem kwX_181 : Cond.selects RX_De y_XDe_calculate y_XDe_calculate ∈ G0 := mG 749 rfl rfl
theorem qX_Pr_114 {R : Room} {s : State} {args : Array Value} (hts : ∀ w ∈ G0, w.before args s = true) (hR : (rm_XDe_calculate).frames + 1 ≤ R.frames ∧ 8 + (9 + 11) + (rm_XDe_calculate).locals ≤ R.locals) : CallW R s args RX_Pr RX_De 114 y_XDe_calculate b_XDe_calculate 9 (some .int) w_XDe_calculate rm_XDe_calculate 0 0 1 := cwV 1 hts (zgV kwX_179 kwX_180 kwX_181 kwX_71 kc_XDe_calculate) rfl rfl rfl (by decide +kernel) hR
set_option maxRecDepth 20000 in
theorem kwX_182 : Cond.methodLink RX_Pr 117 y_XPr_performRegular ∈ G0 := mG 782 rfl rfl
set_option maxRecDepth 20000 in
theorem kwX_183 : Cond.initialized RX_Pr ∈ G0 := mG 73 rfl rfl
set_option maxRecDepth 20000 in
theorem kwX_184 : Cond.instanceMethod y_XPr_performRegular ∈ G0 := mG 784 rfl rfl
set_option maxRecDepth 20000 in
theorem kwX_185 : Cond.selects RX_Pr y_XPr_performRegular y_XPr_performRegular ∈ G0 := mG 33 rfl rfl
theorem qX_Pr_117 {R : Room} {s : State} {args : Array Value} (hts : ∀ w ∈ G0, w.before args s = true) (hR : (rm_XPr_performRegular).frames + 1 ≤ R.frames ∧ 8 + (2 + 11) + (rm_XPr_performRegular).locals ≤ R.locals) : CallW R s args RX_Pr RX_Pr 117 y_XPr_performRegular b_XPr_performRegular 2 (some .int) w_XPr_performRegular rm_XPr_performRegular 0 0 1 := cwV 1 hts (zgV kwX_182 kwX_184 kwX_185 kwX_183 kc_XPr_performRegular) rfl rfl rfl (by decide +kernel) hR
set_option maxRecDepth 20000 in
theorem kwX_186 : Cond.methodLink RX_Pr 120 y_XAr_withRegister ∈ G0 := mG 786 rfl rfl
set_option maxRecDepth 20000 in
theorem kwX_187 : Cond.instanceMethod y_XAr_withRegister ∈ G0 := mG 787 rfl rfl
set_option maxRecDepth 20000 in
theorem kwX_188 : Cond.selects RX_Ar y_XAr_withRegister y_XAr_withRegister ∈ G0 := mG 788 rfl rfl
theorem qX_Pr_120 {R : Room} {s : State} {args : Array Value} (hts : ∀ w ∈ G0, w.before args s = true) (hR : (rm_XAr_withRegister).frames + 1 ≤ R.frames ∧ 8 + (2 + 11) + (rm_XAr_withRegister).locals ≤ R.locals) : CallW R s args RX_Pr RX_Ar 120 y_XAr_withRegister b_XAr_withRegister 2 (some .int) w_XAr_withRegister rm_XAr_withRegister 0 0 1 := cwV 1 hts (zgV kwX_186 kwX_187 kwX_188 kwX_8 kc_XAr_withRegister) rfl rfl rfl (by decide +kernel) hR
set_option maxRecDepth 20000 in
theorem kwX_189 : Cond.methodLink RX_Pr 123 y_XAr_withWord ∈ G0 := mG 793 rfl rfl
set_option maxRecDepth 20000 in
theorem kwX_190 : Cond.instanceMethod y_XAr_withWord ∈ G0 := mG 794 rfl rfl
set_option maxRecDepth 20000 in
theorem kwX_191 : Cond.selects RX_Ar y_XAr_withWord y_XAr_withWord ∈ G0 := mG 795 rfl rfl
theorem qX_Pr_123 {R : Room} {s : State} {args : Array Value} (hts : ∀ w ∈ G0, w.before args s = true) (hR : (rm_XAr_withWord).frames + 1 ≤ R.frames ∧ 8 + (4 + 11) + (rm_XAr_withWord).locals ≤ R.locals) : CallW R s args RX_Pr RX_Ar 123 y_XAr_withWord b_XAr_withWord 4 (some .int) w_XAr_withWord rm_XAr_withWord 0 0 1 := cwV 1 hts (zgV kwX_189 kwX_190 kwX_191 kwX_8 kc_XAr_withWord) rfl rfl rfl (by decide +kernel) hR
set_option maxRecDepth 20000 in
theorem kwX_192 : Cond.methodLink RX_Pr 74 y_XIn_fetch ∈ G0 := mG 523 rfl rfl
set_option maxRecDepth 20000 in
theorem kwX_193 : Cond.instanceMethod y_XIn_fetch ∈ G0 := mG 524 rfl rfl
set_option maxRecDepth 20000 in
theorem kwX_194 : Cond.selects RX_In y_XIn_fetch y_XIn_fetch ∈ G0 := mG 525 rfl rfl
theorem qX_Pr_74 {R : Room} {s : State} {args : Array Value} (hts : ∀ w ∈ G0, w.before args s = true) (hR : (rm_XIn_fetch).frames + 1 ≤ R.frames ∧ 8 + (4 + 11) + (rm_XIn_fetch).locals ≤ R.locals) : CallW R s args RX_Pr RX_In 74 y_XIn_fetch b_XIn_fetch 4 (some .int) w_XIn_fetch rm_XIn_fetch 0 0 1 := cwV 1 hts (zgV kwX_192 kwX_193 kwX_194 kwX_131 kc_XIn_fetch) rfl rfl rfl (by decide +kernel) hR
set_option maxRecDepth 20000 in
theorem kwX_195 : Cond.methodLink RX_Pr 81 y_XPr_perform ∈ G0 := mG 538 rfl rfl
set_option maxRecDepth 20000 in
theorem kwX_196 : Cond.instanceMethod y_XPr_perform ∈ G0 := mG 540 rfl rfl
set_option maxRecDepth 20000 in
theorem kwX_197 : Cond.selects RX_Pr y_XPr_perform y_XPr_perform ∈ G0 := mG 3 rfl rfl
theorem qX_Pr_81 {R : Room} {s : State} {args : Array Value} (hts : ∀ w ∈ G0, w.before args s = true) (hR : (rm_XPr_perform).frames + 1 ≤ R.frames ∧ 8 + (2 + 11) + (rm_XPr_perform).locals ≤ R.locals) : CallW R s args RX_Pr RX_Pr 81 y_XPr_perform b_XPr_perform 2 (some .int) w_XPr_perform rm_XPr_perform 0 0 1 := cwV 1 hts (zgV kwX_195 kwX_196 kwX_197 kwX_183 kc_XPr_perform) rfl rfl rfl (by decide +kernel) hR
set_option maxRecDepth 20000 in
theorem kwX_198 : Cond.methodLink RX_Pr 94 y_XBr_perform ∈ G0 := mG 542 rfl rfl
set_option maxRecDepth 20000 in
theorem kwX_199 : Cond.instanceMethod y_XBr_perform ∈ G0 := mG 543 rfl rfl
set_option maxRecDepth 20000 in
theorem kwX_200 : Cond.selects RX_Br y_XBr_perform y_XBr_perform ∈ G0 := mG 544 rfl rfl
theorem qX_Pr_94 {R : Room} {s : State} {args : Array Value} (hts : ∀ w ∈ G0, w.before args s = true) (hR : (rm_XBr_perform).frames + 1 ≤ R.frames ∧ 8 + (5 + 11) + (rm_XBr_perform).locals ≤ R.locals) : CallW R s args RX_Pr RX_Br 94 y_XBr_perform b_XBr_perform 5 (some .int) w_XBr_perform rm_XBr_perform 0 0 1 := cwV 1 hts (zgV kwX_198 kwX_199 kwX_200 kwX_58 kc_XBr_perform) rfl rfl rfl (by decide +kernel) hR
set_option maxRecDepth 20000 in
theorem kwX_201 : Cond.methodLink RX_Pr 95 y_XTr_perform ∈ G0 := mG 557 rfl rfl
set_option maxRecDepth 20000 in
theorem kwX_202 : Cond.initialized RX_Tr ∈ G0 := mG 76 rfl rfl
set_option maxRecDepth 20000 in
theorem kwX_203 : Cond.instanceMethod y_XTr_perform ∈ G0 := mG 558 rfl rfl
set_option maxRecDepth 20000 in
theorem kwX_204 : Cond.selects RX_Tr y_XTr_perform y_XTr_perform ∈ G0 := mG 559 rfl rfl
theorem qX_Pr_95 {R : Room} {s : State} {args : Array Value} (hts : ∀ w ∈ G0, w.before args s = true) (hR : (rm_XTr_perform).frames + 1 ≤ R.frames ∧ 8 + (2 + 11) + (rm_XTr_perform).locals ≤ R.locals) : CallW R s args RX_Pr RX_Tr 95 y_XTr_perform b_XTr_perform 2 (some .int) w_XTr_perform rm_XTr_perform 0 0 1 := cwV 1 hts (zgV kwX_201 kwX_203 kwX_204 kwX_202 kc_XTr_perform) rfl rfl rfl (by decide +kernel) hR
set_option maxRecDepth 20000 in
theorem kwX_205 : Cond.methodLink RX_Pr 96 y_XAr_withHalf ∈ G0 := mG 588 rfl rfl
set_option maxRecDepth 20000 in
theorem kwX_206 : Cond.instanceMethod y_XAr_withHalf ∈ G0 := mG 589 rfl rfl
set_option maxRecDepth 20000 in
theorem kwX_207 : Cond.selects RX_Ar y_XAr_withHalf y_XAr_withHalf ∈ G0 := mG 590 rfl rfl
theorem qX_Pr_96 {R : Room} {s : State} {args : Array Value} (hts : ∀ w ∈ G0, w.before args s = true) (hR : (rm_XAr_withHalf).frames + 1 ≤ R.frames ∧ 8 + (4 + 11) + (rm_XAr_withHalf).locals ≤ R.locals) : CallW R s args RX_Pr RX_Ar 96 y_XAr_withHalf b_XAr_withHalf 4 (some .int) w_XAr_withHalf rm_XAr_withHalf 0 0 1 := cwV 1 hts (zgV kwX_205 kwX_206 kwX_207 kwX_8 kc_XAr_withHalf) rfl rfl rfl (by decide +kernel) hR
set_option maxRecDepth 20000 in
theorem kwX_208 : Cond.methodLink RX_Pr 99 y_XDe_convert ∈ G0 := mG 647 rfl rfl
set_option maxRecDepth 20000 in
theorem kwX_209 : Cond.instanceMethod y_XDe_convert ∈ G0 := mG 648 rfl rfl
set_option maxRecDepth 20000 in
theorem kwX_210 : Cond.selects RX_De y_XDe_convert y_XDe_convert ∈ G0 := mG 649 rfl rfl
theorem qX_Pr_99 {R : Room} {s : State} {args : Array Value} (hts : ∀ w ∈ G0, w.before args s = true) (hR : (rm_XDe_convert).frames + 1 ≤ R.frames ∧ 8 + (5 + 11) + (rm_XDe_convert).locals ≤ R.locals) : CallW R s args RX_Pr RX_De 99 y_XDe_convert b_XDe_convert 5 (some .int) w_XDe_convert rm_XDe_convert 0 0 1 := cwV 1 hts (zgV kwX_208 kwX_209 kwX_210 kwX_71 kc_XDe_convert) rfl rfl rfl (by decide +kernel) hR
set_option maxRecDepth 20000 in
theorem kwX_211 : Cond.methodLink RX_Tr 21 y_XTr_store ∈ G0 := mG 561 rfl rfl
set_option maxRecDepth 20000 in
theorem kwX_212 : Cond.instanceMethod y_XTr_store ∈ G0 := mG 563 rfl rfl
set_option maxRecDepth 20000 in
theorem kwX_213 : Cond.selects RX_Tr y_XTr_store y_XTr_store ∈ G0 := mG 6 rfl rfl
theorem qX_Tr_21 {R : Room} {s : State} {args : Array Value} (hts : ∀ w ∈ G0, w.before args s = true) (hR : (rm_XTr_store).frames + 1 ≤ R.frames ∧ 8 + (4 + 11) + (rm_XTr_store).locals ≤ R.locals) : CallW R s args RX_Tr RX_Tr 21 y_XTr_store b_XTr_store 4 (some .int) w_XTr_store rm_XTr_store 0 0 2 := cwV 2 hts (zgV kwX_211 kwX_212 kwX_213 kwX_202 kc_XTr_store) rfl rfl rfl (by decide +kernel) hR
set_option maxRecDepth 20000 in
theorem kwX_214 : Cond.methodLink RX_Tr 31 y_XSt_put ∈ G0 := mG 572 rfl rfl
theorem qX_Tr_31 {R : Room} {s : State} {args : Array Value} (hts : ∀ w ∈ G0, w.before args s = true) (hR : (rm_XSt_put).frames + 1 ≤ R.frames ∧ 8 + (3 + 11) + (rm_XSt_put).locals ≤ R.locals) : CallW R s args RX_Tr RX_St 31 y_XSt_put b_XSt_put 3 none w_XSt_put rm_XSt_put 0 0 2 := cwV 2 hts (zgV kwX_214 kwX_27 kwX_28 kwX_1 kc_XSt_put) rfl rfl rfl (by decide +kernel) hR
set_option maxRecDepth 20000 in
theorem kwX_215 : Cond.methodLink RX_Tr 37 y_XTr_insert ∈ G0 := mG 573 rfl rfl
set_option maxRecDepth 20000 in
theorem kwX_216 : Cond.instanceMethod y_XTr_insert ∈ G0 := mG 575 rfl rfl
set_option maxRecDepth 20000 in
theorem kwX_217 : Cond.selects RX_Tr y_XTr_insert y_XTr_insert ∈ G0 := mG 7 rfl rfl
theorem qX_Tr_37 {R : Room} {s : State} {args : Array Value} (hts : ∀ w ∈ G0, w.before args s = true) (hR : (rm_XTr_insert).frames + 1 ≤ R.frames ∧ 8 + (2 + 11) + (rm_XTr_insert).locals ≤ R.locals) : CallW R s args RX_Tr RX_Tr 37 y_XTr_insert b_XTr_insert 2 (some .int) w_XTr_insert rm_XTr_insert 0 0 1 := cwV 1 hts (zgV kwX_215 kwX_216 kwX_217 kwX_202 kc_XTr_insert) rfl rfl rfl (by decide +kernel) hR
set_option maxRecDepth 20000 in
theorem kwX_218 : Cond.methodLink RX_Tr 41 y_XTr_several ∈ G0 := mG 579 rfl rfl
set_option maxRecDepth 20000 in
theorem kwX_219 : Cond.instanceMethod y_XTr_several ∈ G0 := mG 581 rfl rfl
set_option maxRecDepth 20000 in
theorem kwX_220 : Cond.selects RX_Tr y_XTr_several y_XTr_several ∈ G0 := mG 8 rfl rfl
theorem qX_Tr_41 {R : Room} {s : State} {args : Array Value} (hts : ∀ w ∈ G0, w.before args s = true) (hR : (rm_XTr_several).frames + 1 ≤ R.frames ∧ 8 + (5 + 11) + (rm_XTr_several).locals ≤ R.locals) : CallW R s args RX_Tr RX_Tr 41 y_XTr_several b_XTr_several 5 (some .int) w_XTr_several rm_XTr_several 0 0 1 := cwV 1 hts (zgV kwX_218 kwX_219 kwX_220 kwX_202 kc_XTr_several) rfl rfl rfl (by decide +kernel) hR
set_option maxRecDepth 20000 in
theorem kwX_221 : Cond.methodLink RX_Tr 48 y_XMe_faultOf ∈ G0 := mG 565 rfl rfl
theorem qX_Tr_48 {R : Room} {s : State} {args : Array Value} (hts : ∀ w ∈ G0, w.before args s = true) (hR : (rm_XMe_faultOf).frames + 1 ≤ R.frames ∧ 8 + (3 + 11) + (rm_XMe_faultOf).locals ≤ R.locals) : CallW R s args RX_Tr RX_Me 48 y_XMe_faultOf b_XMe_faultOf 3 (some .int) w_XMe_faultOf rm_XMe_faultOf 0 0 2 := cwV 2 hts (zgV kwX_221 kwX_18 kwX_19 kwX_17 kc_XMe_faultOf) rfl rfl rfl (by decide +kernel) hR
set_option maxRecDepth 20000 in
theorem kwX_222 : Cond.methodLink RX_Tr 54 y_XSt_value ∈ G0 := mG 570 rfl rfl
theorem qX_Tr_54 {R : Room} {s : State} {args : Array Value} (hts : ∀ w ∈ G0, w.before args s = true) (hR : (rm_XSt_value).frames + 1 ≤ R.frames ∧ 8 + (2 + 11) + (rm_XSt_value).locals ≤ R.locals) : CallW R s args RX_Tr RX_St 54 y_XSt_value b_XSt_value 2 (some .int) w_XSt_value rm_XSt_value 0 0 1 := cwV 1 hts (zgV kwX_222 kwX_11 kwX_12 kwX_1 kc_XSt_value) rfl rfl rfl (by decide +kernel) hR
set_option maxRecDepth 20000 in
theorem kwX_223 : Cond.methodLink RX_Tr 58 y_XMe_store ∈ G0 := mG 571 rfl rfl
set_option maxRecDepth 20000 in
theorem kwX_224 : Cond.instanceMethod y_XMe_store ∈ G0 := mG 418 rfl rfl
set_option maxRecDepth 20000 in
theorem kwX_225 : Cond.selects RX_Me y_XMe_store y_XMe_store ∈ G0 := mG 419 rfl rfl
theorem qX_Tr_58 {R : Room} {s : State} {args : Array Value} (hts : ∀ w ∈ G0, w.before args s = true) (hR : (rm_XMe_store).frames + 1 ≤ R.frames ∧ 8 + (8 + 11) + (rm_XMe_store).locals ≤ R.locals) : CallW R s args RX_Tr RX_Me 58 y_XMe_store b_XMe_store 8 none w_XMe_store rm_XMe_store 0 0 3 := cwV 3 hts (zgV kwX_223 kwX_224 kwX_225 kwX_17 kc_XMe_store) rfl rfl rfl (by decide +kernel) hR
set_option maxRecDepth 20000 in
theorem kwX_226 : Cond.methodLink RX_Tr 61 y_XMe_holds ∈ G0 := mG 577 rfl rfl
theorem qX_Tr_61 {R : Room} {s : State} {args : Array Value} (hts : ∀ w ∈ G0, w.before args s = true) (hR : (rm_XMe_holds).frames + 1 ≤ R.frames ∧ 8 + (3 + 11) + (rm_XMe_holds).locals ≤ R.locals) : CallW R s args RX_Tr RX_Me 61 y_XMe_holds b_XMe_holds 3 (some .boolean) w_XMe_holds rm_XMe_holds 0 0 2 := cwV 2 hts (zgV kwX_226 kwX_108 kwX_109 kwX_17 kc_XMe_holds) rfl rfl rfl (by decide +kernel) hR
set_option maxRecDepth 20000 in
theorem kwX_227 : Cond.methodLink RX_Tr 65 y_XMe_get ∈ G0 := mG 578 rfl rfl
theorem qX_Tr_65 {R : Room} {s : State} {args : Array Value} (hts : ∀ w ∈ G0, w.before args s = true) (hR : (rm_XMe_get).frames + 1 ≤ R.frames ∧ 8 + (2 + 11) + (rm_XMe_get).locals ≤ R.locals) : CallW R s args RX_Tr RX_Me 65 y_XMe_get b_XMe_get 2 (some .int) w_XMe_get rm_XMe_get 0 0 1 := cwV 1 hts (zgV kwX_227 kwX_111 kwX_112 kwX_17 kc_XMe_get) rfl rfl rfl (by decide +kernel) hR
set_option maxRecDepth 20000 in
theorem kwX_228 : Cond.methodLink RX_Tr 71 y_XMe_word ∈ G0 := mG 583 rfl rfl
theorem qX_Tr_71 {R : Room} {s : State} {args : Array Value} (hts : ∀ w ∈ G0, w.before args s = true) (hR : (rm_XMe_word).frames + 1 ≤ R.frames ∧ 8 + (2 + 11) + (rm_XMe_word).locals ≤ R.locals) : CallW R s args RX_Tr RX_Me 71 y_XMe_word b_XMe_word 2 (some .int) w_XMe_word rm_XMe_word 0 0 1 := cwV 1 hts (zgV kwX_228 kwX_21 kwX_22 kwX_17 kc_XMe_word) rfl rfl rfl (by decide +kernel) hR
set_option maxRecDepth 20000 in
theorem kX_abs_static : Cond.static Lib.MathLoose.abs_long.x ∈ G0 := mG 604 rfl rfl
set_option maxRecDepth 20000 in
theorem kX_abs_ini : Cond.initialized "java/lang/Math" ∈ G0 := mG 87 rfl rfl
set_option maxRecDepth 20000 in
theorem kX_abs_code : Cond.code Lib.MathLoose.abs_long.x Lib.MathLoose.abs_long.code 2 (some .long) ∈ G0 := mG 605 rfl rfl
