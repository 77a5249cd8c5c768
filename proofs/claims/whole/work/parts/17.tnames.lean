def bx {α β σ : Type} (o : Sum (String × σ) α) (k : α → Sum (String × σ) β) : Sum (String × σ) β := match o with
  | .inl q => .inl q
  | .inr r => k r
theorem bx_inv {α β σ : Type} {F : β} {o : Sum (String × σ) α} {k : α → Sum (String × σ) β} (h : Sum.inr F = bx o k) : ∃ r, o = .inr r ∧ Sum.inr F = k r := by
  cases o with
  | inl q => cases h
  | inr r => exact ⟨r, rfl, h⟩
theorem bx_invX {α β σ : Type} {q : String × σ} {o : Sum (String × σ) α} {k : α → Sum (String × σ) β} (h : Sum.inl q = bx o k) : o = .inl q ∨ ∃ r, o = .inr r ∧ Sum.inl q = k r := by
  cases o with
  | inl q' => exact Or.inl (by have h1 : (Sum.inl q : Sum (String × σ) β) = .inl q' := h; cases h1; rfl)
  | inr r => exact Or.inr ⟨r, rfl, h⟩
abbrev b_XDM_demand : ByteArray := prog_1_method_16_code
def y_XDM_demand : MethodName := ⟨RX_DM, "demand", "(Z)V"⟩
set_option maxRecDepth 20000 in
theorem kc_XDM_demand : Cond.code y_XDM_demand b_XDM_demand 1 none ∈ G0 := mG 323 rfl rfl
def w_XDM_demand : List Cond := .code y_XDM_demand b_XDM_demand 1 none :: G0
def rm_XDM_demand : Room := { frames := 0, cells := 0, slots := 0, locals := 0 }
def rx_XDM_demand : Room := { frames := 6, cells := 1, slots := 6, locals := 82 }
abbrev b_XDM_demandMemory : ByteArray := prog_1_method_17_code
def y_XDM_demandMemory : MethodName := ⟨RX_DM, "demandMemory", "(II)V"⟩
set_option maxRecDepth 20000 in
theorem kc_XDM_demandMemory : Cond.code y_XDM_demandMemory b_XDM_demandMemory 3 none ∈ G0 := mG 396 rfl rfl
def w_XDM_demandMemory : List Cond := .code y_XDM_demandMemory b_XDM_demandMemory 3 none :: G0
def rm_XDM_demandMemory : Room := { frames := 1, cells := 0, slots := 0, locals := 22 }
def rx_XDM_demandMemory : Room := { frames := 6, cells := 1, slots := 6, locals := 82 }
abbrev b_XDM_poke : ByteArray := prog_1_method_2_code
def y_XDM_poke : MethodName := ⟨RX_DM, "poke", "(IIJ)V"⟩
set_option maxRecDepth 20000 in
theorem kc_XDM_poke : Cond.code y_XDM_poke b_XDM_poke 5 none ∈ G0 := mG 317 rfl rfl
def w_XDM_poke : List Cond := .code y_XDM_poke b_XDM_poke 5 none :: G0
def rm_XDM_poke : Room := { frames := 2, cells := 0, slots := 0, locals := 49 }
def rx_XDM_poke : Room := { frames := 7, cells := 1, slots := 6, locals := 104 }
abbrev b_XDM_octet : ByteArray := prog_1_method_3_code
def y_XDM_octet : MethodName := ⟨RX_DM, "octet", "(I)I"⟩
set_option maxRecDepth 20000 in
theorem kc_XDM_octet : Cond.code y_XDM_octet b_XDM_octet 2 (some .int) ∈ G0 := mG 432 rfl rfl
def w_XDM_octet : List Cond := .code y_XDM_octet b_XDM_octet 2 (some .int) :: G0
def rm_XDM_octet : Room := { frames := 2, cells := 0, slots := 0, locals := 44 }
def rx_XDM_octet : Room := { frames := 7, cells := 1, slots := 6, locals := 104 }
abbrev b_XDM_set : ByteArray := prog_1_method_4_code
def y_XDM_set : MethodName := ⟨RX_DM, "set", "(II)I"⟩
set_option maxRecDepth 20000 in
theorem kc_XDM_set : Cond.code y_XDM_set b_XDM_set 4 (some .int) ∈ G0 := mG 443 rfl rfl
def w_XDM_set : List Cond := .code y_XDM_set b_XDM_set 4 (some .int) :: G0
def rm_XDM_set : Room := { frames := 2, cells := 0, slots := 0, locals := 42 }
def rx_XDM_set : Room := { frames := 7, cells := 1, slots := 6, locals := 102 }
abbrev b_XDM_register : ByteArray := prog_1_method_5_code
def y_XDM_register : MethodName := ⟨RX_DM, "register", "(I)I"⟩
set_option maxRecDepth 20000 in
theorem kc_XDM_register : Cond.code y_XDM_register b_XDM_register 2 (some .int) ∈ G0 := mG 461 rfl rfl
def w_XDM_register : List Cond := .code y_XDM_register b_XDM_register 2 (some .int) :: G0
def rm_XDM_register : Room := { frames := 2, cells := 0, slots := 0, locals := 42 }
def rx_XDM_register : Room := { frames := 7, cells := 1, slots := 6, locals := 102 }
abbrev b_XDM_start : ByteArray := prog_1_method_6_code
def y_XDM_start : MethodName := ⟨RX_DM, "start", "(II)V"⟩
set_option maxRecDepth 20000 in
theorem kc_XDM_start : Cond.code y_XDM_start b_XDM_start 3 none ∈ G0 := mG 468 rfl rfl
def w_XDM_start : List Cond := .code y_XDM_start b_XDM_start 3 none :: G0
def rm_XDM_start : Room := { frames := 1, cells := 0, slots := 0, locals := 22 }
def rx_XDM_start : Room := { frames := 7, cells := 1, slots := 6, locals := 102 }
abbrev b_XDM_rr : ByteArray := prog_1_method_7_code
def y_XDM_rr : MethodName := ⟨RX_DM, "rr", "(IIII)I"⟩
set_option maxRecDepth 20000 in
theorem kc_XDM_rr : Cond.code y_XDM_rr b_XDM_rr 5 (some .int) ∈ G0 := mG 476 rfl rfl
def w_XDM_rr : List Cond := .code y_XDM_rr b_XDM_rr 5 (some .int) :: G0
def rm_XDM_rr : Room := { frames := 2, cells := 0, slots := 0, locals := 49 }
def rx_XDM_rr : Room := { frames := 7, cells := 1, slots := 6, locals := 104 }
abbrev b_XDM_rx : ByteArray := prog_1_method_8_code
def y_XDM_rx : MethodName := ⟨RX_DM, "rx", "(IIIIII)I"⟩
set_option maxRecDepth 20000 in
theorem kc_XDM_rx : Cond.code y_XDM_rx b_XDM_rx 7 (some .int) ∈ G0 := mG 483 rfl rfl
def w_XDM_rx : List Cond := .code y_XDM_rx b_XDM_rx 7 (some .int) :: G0
def rm_XDM_rx : Room := { frames := 3, cells := 0, slots := 0, locals := 63 }
def rx_XDM_rx : Room := { frames := 7, cells := 1, slots := 6, locals := 104 }
abbrev b_XDM_ss : ByteArray := prog_1_method_9_code
def y_XDM_ss : MethodName := ⟨RX_DM, "ss", "(IIIIIII)I"⟩
set_option maxRecDepth 20000 in
theorem kc_XDM_ss : Cond.code y_XDM_ss b_XDM_ss 8 (some .int) ∈ G0 := mG 493 rfl rfl
def w_XDM_ss : List Cond := .code y_XDM_ss b_XDM_ss 8 (some .int) :: G0
def rm_XDM_ss : Room := { frames := 3, cells := 0, slots := 0, locals := 63 }
def rx_XDM_ss : Room := { frames := 7, cells := 1, slots := 6, locals := 104 }
abbrev b_XDM_tell : ByteArray := prog_1_method_18_code
def y_XDM_tell : MethodName := ⟨RX_DM, "tell", "(I)V"⟩
set_option maxRecDepth 20000 in
theorem kc_XDM_tell : Cond.code y_XDM_tell b_XDM_tell 1 none ∈ G0 := mG 800 rfl rfl
def w_XDM_tell : List Cond := .code y_XDM_tell b_XDM_tell 1 none :: G0
def rm_XDM_tell : Room := { frames := 0, cells := 0, slots := 0, locals := 0 }
def rx_XDM_tell : Room := { frames := 6, cells := 1, slots := 6, locals := 82 }
abbrev b_XDM_run : ByteArray := prog_1_method_10_code
def y_XDM_run : MethodName := ⟨RX_DM, "run", "(I)I"⟩
set_option maxRecDepth 20000 in
theorem kc_XDM_run : Cond.code y_XDM_run b_XDM_run 4 (some .int) ∈ G0 := mG 502 rfl rfl
def w_XDM_run : List Cond := .code y_XDM_run b_XDM_run 4 (some .int) :: G0
def rm_XDM_run : Room := { frames := 7, cells := 0, slots := 0, locals := 171 }
def rx_XDM_run : Room := { frames := 7, cells := 1, slots := 6, locals := 171 }
abbrev b_XDM_packed : ByteArray := prog_1_method_11_code
def y_XDM_packed : MethodName := ⟨RX_DM, "packed", "(II)J"⟩
set_option maxRecDepth 20000 in
theorem kc_XDM_packed : Cond.code y_XDM_packed b_XDM_packed 3 (some .long) ∈ G0 := mG 825 rfl rfl
def w_XDM_packed : List Cond := .code y_XDM_packed b_XDM_packed 3 (some .long) :: G0
def rm_XDM_packed : Room := { frames := 3, cells := 0, slots := 0, locals := 70 }
def rx_XDM_packed : Room := { frames := 7, cells := 1, slots := 6, locals := 104 }
abbrev b_XDM_count : ByteArray := prog_1_method_12_code
def y_XDM_count : MethodName := ⟨RX_DM, "count", "(I)I"⟩
set_option maxRecDepth 20000 in
theorem kc_XDM_count : Cond.code y_XDM_count b_XDM_count 2 (some .int) ∈ G0 := mG 834 rfl rfl
def w_XDM_count : List Cond := .code y_XDM_count b_XDM_count 2 (some .int) :: G0
def rm_XDM_count : Room := { frames := 1, cells := 0, slots := 0, locals := 22 }
def rx_XDM_count : Room := { frames := 7, cells := 1, slots := 6, locals := 102 }
set_option maxRecDepth 20000 in
theorem kX_DM_10 : Cond.fieldLink RX_DM 10 "DecimalMachine" "state" "LDecimalMachine$State;" ∈ G0 := mG 302 rfl rfl
set_option maxRecDepth 20000 in
theorem kX_DM_21 : Cond.fieldLink RX_DM 21 "DecimalMachine" "processor" "LDecimalMachine$Processor;" ∈ G0 := mG 303 rfl rfl
set_option maxRecDepth 20000 in
theorem kX_DM_61 : Cond.constant RX_DM 61 (16777215) ∈ G0 := mG 469 rfl rfl
set_option maxRecDepth 20000 in
theorem kwXT_0 : Cond.methodLink RX_DM 115 y_XMe_holds ∈ G0 := mG 397 rfl rfl
set_option maxRecDepth 20000 in
theorem kwXT_1 : Cond.initialized RX_Me ∈ G0 := mG 72 rfl rfl
set_option maxRecDepth 20000 in
theorem kwXT_2 : Cond.instanceMethod y_XMe_holds ∈ G0 := mG 398 rfl rfl
set_option maxRecDepth 20000 in
theorem kwXT_3 : Cond.selects RX_Me y_XMe_holds y_XMe_holds ∈ G0 := mG 399 rfl rfl
theorem qX_DM_115 {R : Room} {s : State} {args : Array Value} (hts : ∀ w ∈ G0, w.before args s = true) (hR : (rm_XMe_holds).frames + 1 ≤ R.frames ∧ 8 + (3 + 11) + (rm_XMe_holds).locals ≤ R.locals) : CallW R s args RX_DM RX_Me 115 y_XMe_holds b_XMe_holds 3 (some .boolean) w_XMe_holds rm_XMe_holds 0 0 2 := cwV 2 hts (zgV kwXT_0 kwXT_2 kwXT_3 kwXT_1 kc_XMe_holds) rfl rfl rfl (by decide +kernel) hR
set_option maxRecDepth 20000 in
theorem kwXT_4 : Cond.methodLink RX_DM 29 y_XDM_demand ∈ G0 := mG 321 rfl rfl
set_option maxRecDepth 20000 in
theorem kwXT_5 : Cond.initialized RX_DM ∈ G0 := mG 70 rfl rfl
set_option maxRecDepth 20000 in
theorem kwXT_6 : Cond.static y_XDM_demand ∈ G0 := mG 322 rfl rfl
theorem qX_DM_29 {R : Room} {s : State} {args : Array Value} (hts : ∀ w ∈ G0, w.before args s = true) (hR : (rm_XDM_demand).frames + 1 ≤ R.frames ∧ 8 + (1 + 11) + (rm_XDM_demand).locals ≤ R.locals) : CallB R s args RX_DM 29 y_XDM_demand b_XDM_demand 1 none w_XDM_demand rm_XDM_demand 0 0 1 ∧ (Cond.static y_XDM_demand).before args s = true := cwS 1 hts (zgS kwXT_4 kwXT_6 kwXT_5 kc_XDM_demand) rfl rfl rfl (by decide +kernel) hR
set_option maxRecDepth 20000 in
theorem kwXT_7 : Cond.methodLink RX_DM 33 y_XDM_demandMemory ∈ G0 := mG 393 rfl rfl
set_option maxRecDepth 20000 in
theorem kwXT_8 : Cond.instanceMethod y_XDM_demandMemory ∈ G0 := mG 395 rfl rfl
set_option maxRecDepth 20000 in
theorem kwXT_9 : Cond.selects RX_DM y_XDM_demandMemory y_XDM_demandMemory ∈ G0 := mG 1 rfl rfl
theorem qX_DM_33 {R : Room} {s : State} {args : Array Value} (hts : ∀ w ∈ G0, w.before args s = true) (hR : (rm_XDM_demandMemory).frames + 1 ≤ R.frames ∧ 8 + (3 + 11) + (rm_XDM_demandMemory).locals ≤ R.locals) : CallW R s args RX_DM RX_DM 33 y_XDM_demandMemory b_XDM_demandMemory 3 none w_XDM_demandMemory rm_XDM_demandMemory 0 0 2 := cwV 2 hts (zgV kwXT_7 kwXT_8 kwXT_9 kwXT_5 kc_XDM_demandMemory) rfl rfl rfl (by decide +kernel) hR
set_option maxRecDepth 20000 in
theorem kwXT_10 : Cond.methodLink RX_DM 41 y_XMe_store ∈ G0 := mG 417 rfl rfl
set_option maxRecDepth 20000 in
theorem kwXT_11 : Cond.instanceMethod y_XMe_store ∈ G0 := mG 418 rfl rfl
set_option maxRecDepth 20000 in
theorem kwXT_12 : Cond.selects RX_Me y_XMe_store y_XMe_store ∈ G0 := mG 419 rfl rfl
theorem qX_DM_41 {R : Room} {s : State} {args : Array Value} (hts : ∀ w ∈ G0, w.before args s = true) (hR : (rm_XMe_store).frames + 1 ≤ R.frames ∧ 8 + (8 + 11) + (rm_XMe_store).locals ≤ R.locals) : CallW R s args RX_DM RX_Me 41 y_XMe_store b_XMe_store 8 none w_XMe_store rm_XMe_store 0 0 3 := cwV 3 hts (zgV kwXT_10 kwXT_11 kwXT_12 kwXT_1 kc_XMe_store) rfl rfl rfl (by decide +kernel) hR
set_option maxRecDepth 20000 in
theorem kwXT_13 : Cond.methodLink RX_DM 47 y_XMe_get ∈ G0 := mG 433 rfl rfl
set_option maxRecDepth 20000 in
theorem kwXT_14 : Cond.instanceMethod y_XMe_get ∈ G0 := mG 434 rfl rfl
set_option maxRecDepth 20000 in
theorem kwXT_15 : Cond.selects RX_Me y_XMe_get y_XMe_get ∈ G0 := mG 435 rfl rfl
theorem qX_DM_47 {R : Room} {s : State} {args : Array Value} (hts : ∀ w ∈ G0, w.before args s = true) (hR : (rm_XMe_get).frames + 1 ≤ R.frames ∧ 8 + (2 + 11) + (rm_XMe_get).locals ≤ R.locals) : CallW R s args RX_DM RX_Me 47 y_XMe_get b_XMe_get 2 (some .int) w_XMe_get rm_XMe_get 0 0 1 := cwV 1 hts (zgV kwXT_13 kwXT_14 kwXT_15 kwXT_1 kc_XMe_get) rfl rfl rfl (by decide +kernel) hR
set_option maxRecDepth 20000 in
theorem kwXT_16 : Cond.methodLink RX_DM 55 y_XSt_value ∈ G0 := mG 447 rfl rfl
set_option maxRecDepth 20000 in
theorem kwXT_17 : Cond.initialized RX_St ∈ G0 := mG 71 rfl rfl
set_option maxRecDepth 20000 in
theorem kwXT_18 : Cond.instanceMethod y_XSt_value ∈ G0 := mG 448 rfl rfl
set_option maxRecDepth 20000 in
theorem kwXT_19 : Cond.selects RX_St y_XSt_value y_XSt_value ∈ G0 := mG 449 rfl rfl
theorem qX_DM_55 {R : Room} {s : State} {args : Array Value} (hts : ∀ w ∈ G0, w.before args s = true) (hR : (rm_XSt_value).frames + 1 ≤ R.frames ∧ 8 + (2 + 11) + (rm_XSt_value).locals ≤ R.locals) : CallW R s args RX_DM RX_St 55 y_XSt_value b_XSt_value 2 (some .int) w_XSt_value rm_XSt_value 0 0 1 := cwV 1 hts (zgV kwXT_16 kwXT_18 kwXT_19 kwXT_17 kc_XSt_value) rfl rfl rfl (by decide +kernel) hR
set_option maxRecDepth 20000 in
theorem kwXT_20 : Cond.methodLink RX_DM 58 y_XSt_put ∈ G0 := mG 451 rfl rfl
set_option maxRecDepth 20000 in
theorem kwXT_21 : Cond.instanceMethod y_XSt_put ∈ G0 := mG 452 rfl rfl
set_option maxRecDepth 20000 in
theorem kwXT_22 : Cond.selects RX_St y_XSt_put y_XSt_put ∈ G0 := mG 453 rfl rfl
theorem qX_DM_58 {R : Room} {s : State} {args : Array Value} (hts : ∀ w ∈ G0, w.before args s = true) (hR : (rm_XSt_put).frames + 1 ≤ R.frames ∧ 8 + (3 + 11) + (rm_XSt_put).locals ≤ R.locals) : CallW R s args RX_DM RX_St 58 y_XSt_put b_XSt_put 3 none w_XSt_put rm_XSt_put 0 0 2 := cwV 2 hts (zgV kwXT_20 kwXT_21 kwXT_22 kwXT_17 kc_XSt_put) rfl rfl rfl (by decide +kernel) hR
set_option maxRecDepth 20000 in
theorem kwXT_23 : Cond.methodLink RX_DM 75 y_XDM_isPlace ∈ G0 := mG 484 rfl rfl
set_option maxRecDepth 20000 in
theorem kwXT_24 : Cond.static y_XDM_isPlace ∈ G0 := mG 485 rfl rfl
theorem qX_DM_75 {R : Room} {s : State} {args : Array Value} (hts : ∀ w ∈ G0, w.before args s = true) (hR : (rm_XDM_isPlace).frames + 1 ≤ R.frames ∧ 8 + (2 + 11) + (rm_XDM_isPlace).locals ≤ R.locals) : CallB R s args RX_DM 75 y_XDM_isPlace b_XDM_isPlace 2 (some .boolean) w_XDM_isPlace rm_XDM_isPlace 0 0 2 ∧ (Cond.static y_XDM_isPlace).before args s = true := cwS 2 hts (zgS kwXT_23 kwXT_24 kwXT_5 kc_XDM_isPlace) rfl rfl rfl (by decide +kernel) hR
set_option maxRecDepth 20000 in
theorem kwXT_25 : Cond.methodLink RX_DM 86 y_XPr_step ∈ G0 := mG 519 rfl rfl
set_option maxRecDepth 20000 in
theorem kwXT_26 : Cond.initialized RX_Pr ∈ G0 := mG 73 rfl rfl
set_option maxRecDepth 20000 in
theorem kwXT_27 : Cond.instanceMethod y_XPr_step ∈ G0 := mG 520 rfl rfl
set_option maxRecDepth 20000 in
theorem kwXT_28 : Cond.selects RX_Pr y_XPr_step y_XPr_step ∈ G0 := mG 521 rfl rfl
theorem qX_DM_86 {R : Room} {s : State} {args : Array Value} (hts : ∀ w ∈ G0, w.before args s = true) (hR : (rm_XPr_step).frames + 1 ≤ R.frames ∧ 8 + (3 + 11) + (rm_XPr_step).locals ≤ R.locals) : CallW R s args RX_DM RX_Pr 86 y_XPr_step b_XPr_step 3 (some .int) w_XPr_step rm_XPr_step 0 0 0 := cwV 0 hts (zgV kwXT_25 kwXT_27 kwXT_28 kwXT_26 kc_XPr_step) rfl rfl rfl (by decide +kernel) hR
set_option maxRecDepth 20000 in
theorem kwXT_29 : Cond.methodLink RX_DM 90 y_XDM_tell ∈ G0 := mG 798 rfl rfl
set_option maxRecDepth 20000 in
theorem kwXT_30 : Cond.static y_XDM_tell ∈ G0 := mG 799 rfl rfl
theorem qX_DM_90 {R : Room} {s : State} {args : Array Value} (hts : ∀ w ∈ G0, w.before args s = true) (hR : (rm_XDM_tell).frames + 1 ≤ R.frames ∧ 8 + (1 + 11) + (rm_XDM_tell).locals ≤ R.locals) : CallB R s args RX_DM 90 y_XDM_tell b_XDM_tell 1 none w_XDM_tell rm_XDM_tell 0 0 1 ∧ (Cond.static y_XDM_tell).before args s = true := cwS 1 hts (zgS kwXT_29 kwXT_30 kwXT_5 kc_XDM_tell) rfl rfl rfl (by decide +kernel) hR
set_option maxRecDepth 20000 in
theorem kwXT_31 : Cond.methodLink RX_DM 94 y_XMe_isPacked ∈ G0 := mG 826 rfl rfl
set_option maxRecDepth 20000 in
theorem kwXT_32 : Cond.instanceMethod y_XMe_isPacked ∈ G0 := mG 665 rfl rfl
set_option maxRecDepth 20000 in
theorem kwXT_33 : Cond.selects RX_Me y_XMe_isPacked y_XMe_isPacked ∈ G0 := mG 666 rfl rfl
theorem qX_DM_94 {R : Room} {s : State} {args : Array Value} (hts : ∀ w ∈ G0, w.before args s = true) (hR : (rm_XMe_isPacked).frames + 1 ≤ R.frames ∧ 8 + (7 + 11) + (rm_XMe_isPacked).locals ≤ R.locals) : CallW R s args RX_DM RX_Me 94 y_XMe_isPacked b_XMe_isPacked 7 (some .boolean) w_XMe_isPacked rm_XMe_isPacked 0 0 2 := cwV 2 hts (zgV kwXT_31 kwXT_32 kwXT_33 kwXT_1 kc_XMe_isPacked) rfl rfl rfl (by decide +kernel) hR
set_option maxRecDepth 20000 in
theorem kwXT_34 : Cond.methodLink RX_DM 97 y_XMe_decimal ∈ G0 := mG 827 rfl rfl
set_option maxRecDepth 20000 in
theorem kwXT_35 : Cond.instanceMethod y_XMe_decimal ∈ G0 := mG 669 rfl rfl
set_option maxRecDepth 20000 in
theorem kwXT_36 : Cond.selects RX_Me y_XMe_decimal y_XMe_decimal ∈ G0 := mG 670 rfl rfl
theorem qX_DM_97 {R : Room} {s : State} {args : Array Value} (hts : ∀ w ∈ G0, w.before args s = true) (hR : (rm_XMe_decimal).frames + 1 ≤ R.frames ∧ 8 + (7 + 11) + (rm_XMe_decimal).locals ≤ R.locals) : CallW R s args RX_DM RX_Me 97 y_XMe_decimal b_XMe_decimal 7 (some .long) w_XMe_decimal rm_XMe_decimal 0 0 2 := cwV 2 hts (zgV kwXT_34 kwXT_35 kwXT_36 kwXT_1 kc_XMe_decimal) rfl rfl rfl (by decide +kernel) hR
theorem qxX_DM_29 {R : Room} {s : State} {args : Array Value} (hts : ∀ w ∈ G0, w.before args s = true) (hR : (rx_XDM_demand).frames + 1 ≤ R.frames ∧ 8 + (1 + 11) + (rx_XDM_demand).locals ≤ R.locals) : CallB R s args RX_DM 29 y_XDM_demand b_XDM_demand 1 none w_XDM_demand rx_XDM_demand 1 6 1 ∧ (Cond.static y_XDM_demand).before args s = true := cwS 1 hts (zgS kwXT_4 kwXT_6 kwXT_5 kc_XDM_demand) rfl rfl rfl (by decide +kernel) hR
theorem qxX_DM_33 {R : Room} {s : State} {args : Array Value} (hts : ∀ w ∈ G0, w.before args s = true) (hR : (rx_XDM_demandMemory).frames + 1 ≤ R.frames ∧ 8 + (3 + 11) + (rx_XDM_demandMemory).locals ≤ R.locals) : CallW R s args RX_DM RX_DM 33 y_XDM_demandMemory b_XDM_demandMemory 3 none w_XDM_demandMemory rx_XDM_demandMemory 1 6 2 := cwV 2 hts (zgV kwXT_7 kwXT_8 kwXT_9 kwXT_5 kc_XDM_demandMemory) rfl rfl rfl (by decide +kernel) hR
theorem qxX_DM_90 {R : Room} {s : State} {args : Array Value} (hts : ∀ w ∈ G0, w.before args s = true) (hR : (rx_XDM_tell).frames + 1 ≤ R.frames ∧ 8 + (1 + 11) + (rx_XDM_tell).locals ≤ R.locals) : CallB R s args RX_DM 90 y_XDM_tell b_XDM_tell 1 none w_XDM_tell rx_XDM_tell 1 6 1 ∧ (Cond.static y_XDM_tell).before args s = true := cwS 1 hts (zgS kwXT_29 kwXT_30 kwXT_5 kc_XDM_tell) rfl rfl rfl (by decide +kernel) hR
set_option maxRecDepth 20000 in
theorem ki_ArithmeticException : Cond.initialized "java/lang/ArithmeticException" ∈ G0 := mG 88 rfl rfl
set_option maxRecDepth 20000 in
theorem ki_IllegalArgumentException : Cond.initialized "java/lang/IllegalArgumentException" ∈ G0 := mG 84 rfl rfl
set_option maxRecDepth 20000 in
theorem ki_IllegalStateException : Cond.initialized "java/lang/IllegalStateException" ∈ G0 := mG 86 rfl rfl
set_option maxRecDepth 20000 in
theorem ki_IndexOutOfBoundsException : Cond.initialized "java/lang/IndexOutOfBoundsException" ∈ G0 := mG 85 rfl rfl
set_option maxRecDepth 20000 in
theorem kt_79 : Cond.classLink RX_DM 79 "java/lang/IllegalStateException" ∈ G0 := mG 503 rfl rfl
set_option maxRecDepth 20000 in
theorem kt_110 : Cond.classLink RX_DM 110 "java/lang/IllegalArgumentException" ∈ G0 := mG 324 rfl rfl
set_option maxRecDepth 20000 in
theorem kt_118 : Cond.classLink RX_DM 118 "java/lang/IndexOutOfBoundsException" ∈ G0 := mG 401 rfl rfl
set_option maxRecDepth 20000 in
theorem kt_127 : Cond.classLink RX_DM 127 "java/lang/ArithmeticException" ∈ G0 := mG 803 rfl rfl
def ps_79_83 : List Nat := [81, 346, 355, 360, 363, 365, 347, 348, 95, 96, 349, 354, 361, 381, 336, 382, 338, 383, 340, 350, 352, 342, 377, 378, 380, 342, 514, 515, 516, 371, 371, 372, 373, 374, 374, 375, 376, 377, 513, 504, 506, 358, 507, 508, 509, 510, 345, 344, 511]
theorem pg_79_83 : (Bundle.ownAtoms RX_DM 83 "java/lang/IllegalStateException" ["java/lang/RuntimeException", "java/lang/Exception"]).filter goodWord = ps_79_83.filterMap (fun i => lw_tbl[i]?) := by decide +kernel
theorem pn_79_83 : ∀ w ∈ (Bundle.ownAtoms RX_DM 83 "java/lang/IllegalStateException" ["java/lang/RuntimeException", "java/lang/Exception"]).filter (fun w => !goodWord w), w ∈ exW ++ exT := by decide +kernel
def ps_110_114 : List Nat := [81, 346, 355, 360, 363, 365, 347, 348, 95, 96, 349, 354, 361, 381, 336, 382, 338, 383, 340, 350, 352, 342, 377, 378, 380, 342, 368, 369, 370, 371, 371, 372, 373, 374, 374, 375, 376, 377, 367, 325, 333, 334, 335, 337, 339, 341, 345, 344, 343]
theorem pg_110_114 : (Bundle.ownAtoms RX_DM 114 "java/lang/IllegalArgumentException" ["java/lang/RuntimeException", "java/lang/Exception"]).filter goodWord = ps_110_114.filterMap (fun i => lw_tbl[i]?) := by decide +kernel
theorem pn_110_114 : ∀ w ∈ (Bundle.ownAtoms RX_DM 114 "java/lang/IllegalArgumentException" ["java/lang/RuntimeException", "java/lang/Exception"]).filter (fun w => !goodWord w), w ∈ exW ++ exT := by decide +kernel
def ps_118_122 : List Nat := [81, 346, 355, 360, 363, 365, 347, 348, 95, 96, 349, 354, 361, 381, 336, 382, 338, 383, 340, 350, 352, 342, 377, 378, 380, 342, 412, 413, 414, 371, 371, 372, 373, 374, 374, 375, 376, 377, 411, 402, 404, 359, 405, 406, 407, 408, 345, 344, 409]
theorem pg_118_122 : (Bundle.ownAtoms RX_DM 122 "java/lang/IndexOutOfBoundsException" ["java/lang/RuntimeException", "java/lang/Exception"]).filter goodWord = ps_118_122.filterMap (fun i => lw_tbl[i]?) := by decide +kernel
theorem pn_118_122 : ∀ w ∈ (Bundle.ownAtoms RX_DM 122 "java/lang/IndexOutOfBoundsException" ["java/lang/RuntimeException", "java/lang/Exception"]).filter (fun w => !goodWord w), w ∈ exW ++ exT := by decide +kernel
def ps_127_131 : List Nat := [81, 346, 355, 360, 363, 365, 347, 348, 95, 96, 349, 354, 361, 381, 336, 382, 338, 383, 340, 350, 352, 342, 377, 378, 380, 342, 814, 815, 816, 371, 371, 372, 373, 374, 374, 375, 376, 377, 813, 804, 806, 357, 807, 808, 809, 810, 345, 344, 811]
theorem pg_127_131 : (Bundle.ownAtoms RX_DM 131 "java/lang/ArithmeticException" ["java/lang/RuntimeException", "java/lang/Exception"]).filter goodWord = ps_127_131.filterMap (fun i => lw_tbl[i]?) := by decide +kernel
theorem pn_127_131 : ∀ w ∈ (Bundle.ownAtoms RX_DM 131 "java/lang/ArithmeticException" ["java/lang/RuntimeException", "java/lang/Exception"]).filter (fun w => !goodWord w), w ∈ exW ++ exT := by decide +kernel
def skX (sa : Nat → Nat) : List (String × Nat × String × Nat) := [(RX_DM, 112, "an argument or a packed field is not as it must be", sa 0), (RX_DM, 120, "an octet is not in memory", sa 1), (RX_DM, 125, "fault 1, 6 or 7", sa 2), (RX_DM, 129, "fault 8, 9, 10 or 11", sa 3), (RX_DM, 123, "fault 5", sa 4), (RX_DM, 81, "the machine halts already", sa 5)]
theorem d_XDM_demand_0 : decode b_XDM_demand 0 = .ok (.iload_n 0, 1) := by decide +kernel
theorem d_XDM_demand_1 : decode b_XDM_demand 1 = .ok (.ifCond .ne 13, 3) := by decide +kernel
theorem d_XDM_demand_4 : decode b_XDM_demand 4 = .ok (.new 110, 3) := by decide +kernel
theorem d_XDM_demand_7 : decode b_XDM_demand 7 = .ok (.dup, 1) := by decide +kernel
theorem d_XDM_demand_8 : decode b_XDM_demand 8 = .ok (.ldc 112, 2) := by decide +kernel
theorem d_XDM_demand_10 : decode b_XDM_demand 10 = .ok (.invokespecial 114, 3) := by decide +kernel
theorem d_XDM_demand_13 : decode b_XDM_demand 13 = .ok (.athrow, 1) := by decide +kernel
theorem d_XDM_demand_14 : decode b_XDM_demand 14 = .ok (.return_, 1) := by decide +kernel
theorem d_XDM_demandMemory_0 : decode b_XDM_demandMemory 0 = .ok (.aload_n 0, 1) := by decide +kernel
theorem d_XDM_demandMemory_1 : decode b_XDM_demandMemory 1 = .ok (.getfield 10, 3) := by decide +kernel
theorem d_XDM_demandMemory_4 : decode b_XDM_demandMemory 4 = .ok (.getfield 37, 3) := by decide +kernel
theorem d_XDM_demandMemory_7 : decode b_XDM_demandMemory 7 = .ok (.iload_n 1, 1) := by decide +kernel
theorem d_XDM_demandMemory_8 : decode b_XDM_demandMemory 8 = .ok (.iload_n 2, 1) := by decide +kernel
theorem d_XDM_demandMemory_9 : decode b_XDM_demandMemory 9 = .ok (.invokevirtual 115, 3) := by decide +kernel
theorem d_XDM_demandMemory_12 : decode b_XDM_demandMemory 12 = .ok (.ifCond .ne 13, 3) := by decide +kernel
theorem d_XDM_demandMemory_15 : decode b_XDM_demandMemory 15 = .ok (.new 118, 3) := by decide +kernel
theorem d_XDM_demandMemory_18 : decode b_XDM_demandMemory 18 = .ok (.dup, 1) := by decide +kernel
theorem d_XDM_demandMemory_19 : decode b_XDM_demandMemory 19 = .ok (.ldc 120, 2) := by decide +kernel
theorem d_XDM_demandMemory_21 : decode b_XDM_demandMemory 21 = .ok (.invokespecial 122, 3) := by decide +kernel
theorem d_XDM_demandMemory_24 : decode b_XDM_demandMemory 24 = .ok (.athrow, 1) := by decide +kernel
theorem d_XDM_demandMemory_25 : decode b_XDM_demandMemory 25 = .ok (.return_, 1) := by decide +kernel
theorem d_XDM_poke_0 : decode b_XDM_poke 0 = .ok (.iload_n 2, 1) := by decide +kernel
theorem d_XDM_poke_1 : decode b_XDM_poke 1 = .ok (.iconst 1, 1) := by decide +kernel
theorem d_XDM_poke_2 : decode b_XDM_poke 2 = .ok (.bipush 8, 2) := by decide +kernel
theorem d_XDM_poke_4 : decode b_XDM_poke 4 = .ok (.invokestatic 25, 3) := by decide +kernel
theorem d_XDM_poke_7 : decode b_XDM_poke 7 = .ok (.invokestatic 29, 3) := by decide +kernel
theorem d_XDM_poke_10 : decode b_XDM_poke 10 = .ok (.aload_n 0, 1) := by decide +kernel
theorem d_XDM_poke_11 : decode b_XDM_poke 11 = .ok (.iload_n 1, 1) := by decide +kernel
theorem d_XDM_poke_12 : decode b_XDM_poke 12 = .ok (.iload_n 2, 1) := by decide +kernel
theorem d_XDM_poke_13 : decode b_XDM_poke 13 = .ok (.invokevirtual 33, 3) := by decide +kernel
theorem d_XDM_poke_16 : decode b_XDM_poke 16 = .ok (.aload_n 0, 1) := by decide +kernel
theorem d_XDM_poke_17 : decode b_XDM_poke 17 = .ok (.getfield 10, 3) := by decide +kernel
theorem d_XDM_poke_20 : decode b_XDM_poke 20 = .ok (.getfield 37, 3) := by decide +kernel
theorem d_XDM_poke_23 : decode b_XDM_poke 23 = .ok (.iload_n 1, 1) := by decide +kernel
theorem d_XDM_poke_24 : decode b_XDM_poke 24 = .ok (.iload_n 2, 1) := by decide +kernel
theorem d_XDM_poke_25 : decode b_XDM_poke 25 = .ok (.lload_n 3, 1) := by decide +kernel
theorem d_XDM_poke_26 : decode b_XDM_poke 26 = .ok (.invokevirtual 41, 3) := by decide +kernel
theorem d_XDM_poke_29 : decode b_XDM_poke 29 = .ok (.return_, 1) := by decide +kernel
theorem d_XDM_octet_0 : decode b_XDM_octet 0 = .ok (.aload_n 0, 1) := by decide +kernel
theorem d_XDM_octet_1 : decode b_XDM_octet 1 = .ok (.iload_n 1, 1) := by decide +kernel
theorem d_XDM_octet_2 : decode b_XDM_octet 2 = .ok (.iconst 1, 1) := by decide +kernel
theorem d_XDM_octet_3 : decode b_XDM_octet 3 = .ok (.invokevirtual 33, 3) := by decide +kernel
theorem d_XDM_octet_6 : decode b_XDM_octet 6 = .ok (.aload_n 0, 1) := by decide +kernel
theorem d_XDM_octet_7 : decode b_XDM_octet 7 = .ok (.getfield 10, 3) := by decide +kernel
theorem d_XDM_octet_10 : decode b_XDM_octet 10 = .ok (.getfield 37, 3) := by decide +kernel
theorem d_XDM_octet_13 : decode b_XDM_octet 13 = .ok (.iload_n 1, 1) := by decide +kernel
theorem d_XDM_octet_14 : decode b_XDM_octet 14 = .ok (.invokevirtual 47, 3) := by decide +kernel
theorem d_XDM_octet_17 : decode b_XDM_octet 17 = .ok (.ireturn, 1) := by decide +kernel
theorem d_XDM_set_0 : decode b_XDM_set 0 = .ok (.iload_n 1, 1) := by decide +kernel
theorem d_XDM_set_1 : decode b_XDM_set 1 = .ok (.invokestatic 51, 3) := by decide +kernel
theorem d_XDM_set_4 : decode b_XDM_set 4 = .ok (.invokestatic 29, 3) := by decide +kernel
theorem d_XDM_set_7 : decode b_XDM_set 7 = .ok (.aload_n 0, 1) := by decide +kernel
theorem d_XDM_set_8 : decode b_XDM_set 8 = .ok (.getfield 10, 3) := by decide +kernel
theorem d_XDM_set_11 : decode b_XDM_set 11 = .ok (.iload_n 1, 1) := by decide +kernel
theorem d_XDM_set_12 : decode b_XDM_set 12 = .ok (.invokevirtual 55, 3) := by decide +kernel
theorem d_XDM_set_15 : decode b_XDM_set 15 = .ok (.istore_n 3, 1) := by decide +kernel
theorem d_XDM_set_16 : decode b_XDM_set 16 = .ok (.aload_n 0, 1) := by decide +kernel
theorem d_XDM_set_17 : decode b_XDM_set 17 = .ok (.getfield 10, 3) := by decide +kernel
theorem d_XDM_set_20 : decode b_XDM_set 20 = .ok (.iload_n 1, 1) := by decide +kernel
theorem d_XDM_set_21 : decode b_XDM_set 21 = .ok (.iload_n 2, 1) := by decide +kernel
theorem d_XDM_set_22 : decode b_XDM_set 22 = .ok (.invokevirtual 58, 3) := by decide +kernel
theorem d_XDM_set_25 : decode b_XDM_set 25 = .ok (.iload_n 3, 1) := by decide +kernel
theorem d_XDM_set_26 : decode b_XDM_set 26 = .ok (.ireturn, 1) := by decide +kernel
theorem d_XDM_register_0 : decode b_XDM_register 0 = .ok (.iload_n 1, 1) := by decide +kernel
theorem d_XDM_register_1 : decode b_XDM_register 1 = .ok (.invokestatic 51, 3) := by decide +kernel
theorem d_XDM_register_4 : decode b_XDM_register 4 = .ok (.invokestatic 29, 3) := by decide +kernel
theorem d_XDM_register_7 : decode b_XDM_register 7 = .ok (.aload_n 0, 1) := by decide +kernel
theorem d_XDM_register_8 : decode b_XDM_register 8 = .ok (.getfield 10, 3) := by decide +kernel
theorem d_XDM_register_11 : decode b_XDM_register 11 = .ok (.iload_n 1, 1) := by decide +kernel
theorem d_XDM_register_12 : decode b_XDM_register 12 = .ok (.invokevirtual 55, 3) := by decide +kernel
theorem d_XDM_register_15 : decode b_XDM_register 15 = .ok (.ireturn, 1) := by decide +kernel
theorem d_XDM_start_0 : decode b_XDM_start 0 = .ok (.iload_n 1, 1) := by decide +kernel
theorem d_XDM_start_1 : decode b_XDM_start 1 = .ok (.iconst 0, 1) := by decide +kernel
theorem d_XDM_start_2 : decode b_XDM_start 2 = .ok (.ldc 61, 2) := by decide +kernel
theorem d_XDM_start_4 : decode b_XDM_start 4 = .ok (.invokestatic 25, 3) := by decide +kernel
theorem d_XDM_start_7 : decode b_XDM_start 7 = .ok (.ifCond .eq 16, 3) := by decide +kernel
theorem d_XDM_start_10 : decode b_XDM_start 10 = .ok (.iload_n 2, 1) := by decide +kernel
theorem d_XDM_start_11 : decode b_XDM_start 11 = .ok (.iconst 0, 1) := by decide +kernel
theorem d_XDM_start_12 : decode b_XDM_start 12 = .ok (.iconst 3, 1) := by decide +kernel
theorem d_XDM_start_13 : decode b_XDM_start 13 = .ok (.invokestatic 25, 3) := by decide +kernel
theorem d_XDM_start_16 : decode b_XDM_start 16 = .ok (.ifCond .eq 7, 3) := by decide +kernel
theorem d_XDM_start_19 : decode b_XDM_start 19 = .ok (.iconst 1, 1) := by decide +kernel
theorem d_XDM_start_20 : decode b_XDM_start 20 = .ok (.goto 4, 3) := by decide +kernel
theorem d_XDM_start_23 : decode b_XDM_start 23 = .ok (.iconst 0, 1) := by decide +kernel
theorem d_XDM_start_24 : decode b_XDM_start 24 = .ok (.invokestatic 29, 3) := by decide +kernel
theorem d_XDM_start_27 : decode b_XDM_start 27 = .ok (.aload_n 0, 1) := by decide +kernel
theorem d_XDM_start_28 : decode b_XDM_start 28 = .ok (.getfield 10, 3) := by decide +kernel
theorem d_XDM_start_31 : decode b_XDM_start 31 = .ok (.iload_n 1, 1) := by decide +kernel
theorem d_XDM_start_32 : decode b_XDM_start 32 = .ok (.putfield 62, 3) := by decide +kernel
theorem d_XDM_start_35 : decode b_XDM_start 35 = .ok (.aload_n 0, 1) := by decide +kernel
theorem d_XDM_start_36 : decode b_XDM_start 36 = .ok (.getfield 10, 3) := by decide +kernel
theorem d_XDM_start_39 : decode b_XDM_start 39 = .ok (.iload_n 2, 1) := by decide +kernel
theorem d_XDM_start_40 : decode b_XDM_start 40 = .ok (.putfield 66, 3) := by decide +kernel
theorem d_XDM_start_43 : decode b_XDM_start 43 = .ok (.aload_n 0, 1) := by decide +kernel
theorem d_XDM_start_44 : decode b_XDM_start 44 = .ok (.getfield 10, 3) := by decide +kernel
theorem d_XDM_start_47 : decode b_XDM_start 47 = .ok (.iconst 0, 1) := by decide +kernel
theorem d_XDM_start_48 : decode b_XDM_start 48 = .ok (.putfield 69, 3) := by decide +kernel
theorem d_XDM_start_51 : decode b_XDM_start 51 = .ok (.aload_n 0, 1) := by decide +kernel
theorem d_XDM_start_52 : decode b_XDM_start 52 = .ok (.getfield 10, 3) := by decide +kernel
theorem d_XDM_start_55 : decode b_XDM_start 55 = .ok (.iconst (-1), 1) := by decide +kernel
theorem d_XDM_start_56 : decode b_XDM_start 56 = .ok (.putfield 72, 3) := by decide +kernel
theorem d_XDM_start_59 : decode b_XDM_start 59 = .ok (.return_, 1) := by decide +kernel
theorem d_XDM_rr_0 : decode b_XDM_rr 0 = .ok (.iload_n 2, 1) := by decide +kernel
theorem d_XDM_rr_1 : decode b_XDM_rr 1 = .ok (.iconst 0, 1) := by decide +kernel
theorem d_XDM_rr_2 : decode b_XDM_rr 2 = .ok (.bipush 63, 2) := by decide +kernel
theorem d_XDM_rr_4 : decode b_XDM_rr 4 = .ok (.invokestatic 25, 3) := by decide +kernel
theorem d_XDM_rr_7 : decode b_XDM_rr 7 = .ok (.ifCond .eq 22, 3) := by decide +kernel
theorem d_XDM_rr_10 : decode b_XDM_rr 10 = .ok (.iload_n 3, 1) := by decide +kernel
theorem d_XDM_rr_11 : decode b_XDM_rr 11 = .ok (.invokestatic 51, 3) := by decide +kernel
theorem d_XDM_rr_14 : decode b_XDM_rr 14 = .ok (.ifCond .eq 15, 3) := by decide +kernel
theorem d_XDM_rr_17 : decode b_XDM_rr 17 = .ok (.iload 4, 2) := by decide +kernel
theorem d_XDM_rr_19 : decode b_XDM_rr 19 = .ok (.invokestatic 51, 3) := by decide +kernel
theorem d_XDM_rr_22 : decode b_XDM_rr 22 = .ok (.ifCond .eq 7, 3) := by decide +kernel
theorem d_XDM_rr_25 : decode b_XDM_rr 25 = .ok (.iconst 1, 1) := by decide +kernel
theorem d_XDM_rr_26 : decode b_XDM_rr 26 = .ok (.goto 4, 3) := by decide +kernel
theorem d_XDM_rr_29 : decode b_XDM_rr 29 = .ok (.iconst 0, 1) := by decide +kernel
theorem d_XDM_rr_30 : decode b_XDM_rr 30 = .ok (.invokestatic 29, 3) := by decide +kernel
theorem d_XDM_rr_33 : decode b_XDM_rr 33 = .ok (.aload_n 0, 1) := by decide +kernel
theorem d_XDM_rr_34 : decode b_XDM_rr 34 = .ok (.iload_n 1, 1) := by decide +kernel
theorem d_XDM_rr_35 : decode b_XDM_rr 35 = .ok (.iconst 2, 1) := by decide +kernel
theorem d_XDM_rr_36 : decode b_XDM_rr 36 = .ok (.invokevirtual 33, 3) := by decide +kernel
theorem d_XDM_rr_39 : decode b_XDM_rr 39 = .ok (.aload_n 0, 1) := by decide +kernel
theorem d_XDM_rr_40 : decode b_XDM_rr 40 = .ok (.getfield 10, 3) := by decide +kernel
theorem d_XDM_rr_43 : decode b_XDM_rr 43 = .ok (.getfield 37, 3) := by decide +kernel
theorem d_XDM_rr_46 : decode b_XDM_rr 46 = .ok (.iload_n 1, 1) := by decide +kernel
theorem d_XDM_rr_47 : decode b_XDM_rr 47 = .ok (.iconst 1, 1) := by decide +kernel
theorem d_XDM_rr_48 : decode b_XDM_rr 48 = .ok (.iload_n 2, 1) := by decide +kernel
theorem d_XDM_rr_49 : decode b_XDM_rr 49 = .ok (.i2l, 1) := by decide +kernel
theorem d_XDM_rr_50 : decode b_XDM_rr 50 = .ok (.invokevirtual 41, 3) := by decide +kernel
theorem d_XDM_rr_53 : decode b_XDM_rr 53 = .ok (.aload_n 0, 1) := by decide +kernel
theorem d_XDM_rr_54 : decode b_XDM_rr 54 = .ok (.getfield 10, 3) := by decide +kernel
theorem d_XDM_rr_57 : decode b_XDM_rr 57 = .ok (.getfield 37, 3) := by decide +kernel
theorem d_XDM_rr_60 : decode b_XDM_rr 60 = .ok (.iload_n 1, 1) := by decide +kernel
theorem d_XDM_rr_61 : decode b_XDM_rr 61 = .ok (.iconst 1, 1) := by decide +kernel
theorem d_XDM_rr_62 : decode b_XDM_rr 62 = .ok (.iadd, 1) := by decide +kernel
theorem d_XDM_rr_63 : decode b_XDM_rr 63 = .ok (.iconst 1, 1) := by decide +kernel
theorem d_XDM_rr_64 : decode b_XDM_rr 64 = .ok (.iload_n 3, 1) := by decide +kernel
theorem d_XDM_rr_65 : decode b_XDM_rr 65 = .ok (.bipush 16, 2) := by decide +kernel
theorem d_XDM_rr_67 : decode b_XDM_rr 67 = .ok (.imul, 1) := by decide +kernel
theorem d_XDM_rr_68 : decode b_XDM_rr 68 = .ok (.iload 4, 2) := by decide +kernel
theorem d_XDM_rr_70 : decode b_XDM_rr 70 = .ok (.iadd, 1) := by decide +kernel
theorem d_XDM_rr_71 : decode b_XDM_rr 71 = .ok (.i2l, 1) := by decide +kernel
theorem d_XDM_rr_72 : decode b_XDM_rr 72 = .ok (.invokevirtual 41, 3) := by decide +kernel
theorem d_XDM_rr_75 : decode b_XDM_rr 75 = .ok (.iload_n 1, 1) := by decide +kernel
theorem d_XDM_rr_76 : decode b_XDM_rr 76 = .ok (.iconst 2, 1) := by decide +kernel
theorem d_XDM_rr_77 : decode b_XDM_rr 77 = .ok (.iadd, 1) := by decide +kernel
theorem d_XDM_rr_78 : decode b_XDM_rr 78 = .ok (.ireturn, 1) := by decide +kernel
theorem d_XDM_rx_0 : decode b_XDM_rx 0 = .ok (.iload_n 2, 1) := by decide +kernel
theorem d_XDM_rx_1 : decode b_XDM_rx 1 = .ok (.bipush 64, 2) := by decide +kernel
theorem d_XDM_rx_3 : decode b_XDM_rx 3 = .ok (.sipush 191, 3) := by decide +kernel
theorem d_XDM_rx_6 : decode b_XDM_rx 6 = .ok (.invokestatic 25, 3) := by decide +kernel
theorem d_XDM_rx_9 : decode b_XDM_rx 9 = .ok (.ifCond .eq 32, 3) := by decide +kernel
theorem d_XDM_rx_12 : decode b_XDM_rx 12 = .ok (.iload_n 3, 1) := by decide +kernel
theorem d_XDM_rx_13 : decode b_XDM_rx 13 = .ok (.invokestatic 51, 3) := by decide +kernel
theorem d_XDM_rx_16 : decode b_XDM_rx 16 = .ok (.ifCond .eq 25, 3) := by decide +kernel
theorem d_XDM_rx_19 : decode b_XDM_rx 19 = .ok (.iload 4, 2) := by decide +kernel
theorem d_XDM_rx_21 : decode b_XDM_rx 21 = .ok (.invokestatic 51, 3) := by decide +kernel
theorem d_XDM_rx_24 : decode b_XDM_rx 24 = .ok (.ifCond .eq 17, 3) := by decide +kernel
theorem d_XDM_rx_27 : decode b_XDM_rx 27 = .ok (.iload 5, 2) := by decide +kernel
theorem d_XDM_rx_29 : decode b_XDM_rx 29 = .ok (.iload 6, 2) := by decide +kernel
theorem d_XDM_rx_31 : decode b_XDM_rx 31 = .ok (.invokestatic 75, 3) := by decide +kernel
theorem d_XDM_rx_34 : decode b_XDM_rx 34 = .ok (.ifCond .eq 7, 3) := by decide +kernel
theorem d_XDM_rx_37 : decode b_XDM_rx 37 = .ok (.iconst 1, 1) := by decide +kernel
theorem d_XDM_rx_38 : decode b_XDM_rx 38 = .ok (.goto 4, 3) := by decide +kernel
theorem d_XDM_rx_41 : decode b_XDM_rx 41 = .ok (.iconst 0, 1) := by decide +kernel
theorem d_XDM_rx_42 : decode b_XDM_rx 42 = .ok (.invokestatic 29, 3) := by decide +kernel
theorem d_XDM_rx_45 : decode b_XDM_rx 45 = .ok (.aload_n 0, 1) := by decide +kernel
theorem d_XDM_rx_46 : decode b_XDM_rx 46 = .ok (.iload_n 1, 1) := by decide +kernel
theorem d_XDM_rx_47 : decode b_XDM_rx 47 = .ok (.iconst 4, 1) := by decide +kernel
theorem d_XDM_rx_48 : decode b_XDM_rx 48 = .ok (.invokevirtual 33, 3) := by decide +kernel
theorem d_XDM_rx_51 : decode b_XDM_rx 51 = .ok (.aload_n 0, 1) := by decide +kernel
theorem d_XDM_rx_52 : decode b_XDM_rx 52 = .ok (.getfield 10, 3) := by decide +kernel
theorem d_XDM_rx_55 : decode b_XDM_rx 55 = .ok (.getfield 37, 3) := by decide +kernel
theorem d_XDM_rx_58 : decode b_XDM_rx 58 = .ok (.iload_n 1, 1) := by decide +kernel
theorem d_XDM_rx_59 : decode b_XDM_rx 59 = .ok (.iconst 1, 1) := by decide +kernel
theorem d_XDM_rx_60 : decode b_XDM_rx 60 = .ok (.iload_n 2, 1) := by decide +kernel
theorem d_XDM_rx_61 : decode b_XDM_rx 61 = .ok (.i2l, 1) := by decide +kernel
theorem d_XDM_rx_62 : decode b_XDM_rx 62 = .ok (.invokevirtual 41, 3) := by decide +kernel
theorem d_XDM_rx_65 : decode b_XDM_rx 65 = .ok (.aload_n 0, 1) := by decide +kernel
theorem d_XDM_rx_66 : decode b_XDM_rx 66 = .ok (.getfield 10, 3) := by decide +kernel
theorem d_XDM_rx_69 : decode b_XDM_rx 69 = .ok (.getfield 37, 3) := by decide +kernel
theorem d_XDM_rx_72 : decode b_XDM_rx 72 = .ok (.iload_n 1, 1) := by decide +kernel
theorem d_XDM_rx_73 : decode b_XDM_rx 73 = .ok (.iconst 1, 1) := by decide +kernel
theorem d_XDM_rx_74 : decode b_XDM_rx 74 = .ok (.iadd, 1) := by decide +kernel
theorem d_XDM_rx_75 : decode b_XDM_rx 75 = .ok (.iconst 1, 1) := by decide +kernel
theorem d_XDM_rx_76 : decode b_XDM_rx 76 = .ok (.iload_n 3, 1) := by decide +kernel
theorem d_XDM_rx_77 : decode b_XDM_rx 77 = .ok (.bipush 16, 2) := by decide +kernel
theorem d_XDM_rx_79 : decode b_XDM_rx 79 = .ok (.imul, 1) := by decide +kernel
theorem d_XDM_rx_80 : decode b_XDM_rx 80 = .ok (.iload 4, 2) := by decide +kernel
theorem d_XDM_rx_82 : decode b_XDM_rx 82 = .ok (.iadd, 1) := by decide +kernel
theorem d_XDM_rx_83 : decode b_XDM_rx 83 = .ok (.i2l, 1) := by decide +kernel
theorem d_XDM_rx_84 : decode b_XDM_rx 84 = .ok (.invokevirtual 41, 3) := by decide +kernel
theorem d_XDM_rx_87 : decode b_XDM_rx 87 = .ok (.aload_n 0, 1) := by decide +kernel
theorem d_XDM_rx_88 : decode b_XDM_rx 88 = .ok (.getfield 10, 3) := by decide +kernel
theorem d_XDM_rx_91 : decode b_XDM_rx 91 = .ok (.getfield 37, 3) := by decide +kernel
theorem d_XDM_rx_94 : decode b_XDM_rx 94 = .ok (.iload_n 1, 1) := by decide +kernel
theorem d_XDM_rx_95 : decode b_XDM_rx 95 = .ok (.iconst 2, 1) := by decide +kernel
theorem d_XDM_rx_96 : decode b_XDM_rx 96 = .ok (.iadd, 1) := by decide +kernel
theorem d_XDM_rx_97 : decode b_XDM_rx 97 = .ok (.iconst 2, 1) := by decide +kernel
theorem d_XDM_rx_98 : decode b_XDM_rx 98 = .ok (.iload 5, 2) := by decide +kernel
theorem d_XDM_rx_100 : decode b_XDM_rx 100 = .ok (.sipush 4096, 3) := by decide +kernel
theorem d_XDM_rx_103 : decode b_XDM_rx 103 = .ok (.imul, 1) := by decide +kernel
theorem d_XDM_rx_104 : decode b_XDM_rx 104 = .ok (.iload 6, 2) := by decide +kernel
theorem d_XDM_rx_106 : decode b_XDM_rx 106 = .ok (.iadd, 1) := by decide +kernel
theorem d_XDM_rx_107 : decode b_XDM_rx 107 = .ok (.i2l, 1) := by decide +kernel
theorem d_XDM_rx_108 : decode b_XDM_rx 108 = .ok (.invokevirtual 41, 3) := by decide +kernel
theorem d_XDM_rx_111 : decode b_XDM_rx 111 = .ok (.iload_n 1, 1) := by decide +kernel
theorem d_XDM_rx_112 : decode b_XDM_rx 112 = .ok (.iconst 4, 1) := by decide +kernel
theorem d_XDM_rx_113 : decode b_XDM_rx 113 = .ok (.iadd, 1) := by decide +kernel
theorem d_XDM_rx_114 : decode b_XDM_rx 114 = .ok (.ireturn, 1) := by decide +kernel
theorem d_XDM_ss_0 : decode b_XDM_ss 0 = .ok (.iload_n 2, 1) := by decide +kernel
theorem d_XDM_ss_1 : decode b_XDM_ss 1 = .ok (.sipush 192, 3) := by decide +kernel
theorem d_XDM_ss_4 : decode b_XDM_ss 4 = .ok (.sipush 255, 3) := by decide +kernel
theorem d_XDM_ss_7 : decode b_XDM_ss 7 = .ok (.invokestatic 25, 3) := by decide +kernel
theorem d_XDM_ss_10 : decode b_XDM_ss 10 = .ok (.ifCond .eq 38, 3) := by decide +kernel
theorem d_XDM_ss_13 : decode b_XDM_ss 13 = .ok (.iload_n 3, 1) := by decide +kernel
theorem d_XDM_ss_14 : decode b_XDM_ss 14 = .ok (.iconst 0, 1) := by decide +kernel
theorem d_XDM_ss_15 : decode b_XDM_ss 15 = .ok (.sipush 255, 3) := by decide +kernel
theorem d_XDM_ss_18 : decode b_XDM_ss 18 = .ok (.invokestatic 25, 3) := by decide +kernel
theorem d_XDM_ss_21 : decode b_XDM_ss 21 = .ok (.ifCond .eq 27, 3) := by decide +kernel
theorem d_XDM_ss_24 : decode b_XDM_ss 24 = .ok (.iload 4, 2) := by decide +kernel
theorem d_XDM_ss_26 : decode b_XDM_ss 26 = .ok (.iload 5, 2) := by decide +kernel
theorem d_XDM_ss_28 : decode b_XDM_ss 28 = .ok (.invokestatic 75, 3) := by decide +kernel
theorem d_XDM_ss_31 : decode b_XDM_ss 31 = .ok (.ifCond .eq 17, 3) := by decide +kernel
theorem d_XDM_ss_34 : decode b_XDM_ss 34 = .ok (.iload 6, 2) := by decide +kernel
theorem d_XDM_ss_36 : decode b_XDM_ss 36 = .ok (.iload 7, 2) := by decide +kernel
theorem d_XDM_ss_38 : decode b_XDM_ss 38 = .ok (.invokestatic 75, 3) := by decide +kernel
theorem d_XDM_ss_41 : decode b_XDM_ss 41 = .ok (.ifCond .eq 7, 3) := by decide +kernel
theorem d_XDM_ss_44 : decode b_XDM_ss 44 = .ok (.iconst 1, 1) := by decide +kernel
theorem d_XDM_ss_45 : decode b_XDM_ss 45 = .ok (.goto 4, 3) := by decide +kernel
theorem d_XDM_ss_48 : decode b_XDM_ss 48 = .ok (.iconst 0, 1) := by decide +kernel
theorem d_XDM_ss_49 : decode b_XDM_ss 49 = .ok (.invokestatic 29, 3) := by decide +kernel
theorem d_XDM_ss_52 : decode b_XDM_ss 52 = .ok (.aload_n 0, 1) := by decide +kernel
theorem d_XDM_ss_53 : decode b_XDM_ss 53 = .ok (.iload_n 1, 1) := by decide +kernel
theorem d_XDM_ss_54 : decode b_XDM_ss 54 = .ok (.bipush 6, 2) := by decide +kernel
theorem d_XDM_ss_56 : decode b_XDM_ss 56 = .ok (.invokevirtual 33, 3) := by decide +kernel
theorem d_XDM_ss_59 : decode b_XDM_ss 59 = .ok (.aload_n 0, 1) := by decide +kernel
theorem d_XDM_ss_60 : decode b_XDM_ss 60 = .ok (.getfield 10, 3) := by decide +kernel
theorem d_XDM_ss_63 : decode b_XDM_ss 63 = .ok (.getfield 37, 3) := by decide +kernel
theorem d_XDM_ss_66 : decode b_XDM_ss 66 = .ok (.iload_n 1, 1) := by decide +kernel
theorem d_XDM_ss_67 : decode b_XDM_ss 67 = .ok (.iconst 1, 1) := by decide +kernel
theorem d_XDM_ss_68 : decode b_XDM_ss 68 = .ok (.iload_n 2, 1) := by decide +kernel
theorem d_XDM_ss_69 : decode b_XDM_ss 69 = .ok (.i2l, 1) := by decide +kernel
theorem d_XDM_ss_70 : decode b_XDM_ss 70 = .ok (.invokevirtual 41, 3) := by decide +kernel
theorem d_XDM_ss_73 : decode b_XDM_ss 73 = .ok (.aload_n 0, 1) := by decide +kernel
theorem d_XDM_ss_74 : decode b_XDM_ss 74 = .ok (.getfield 10, 3) := by decide +kernel
theorem d_XDM_ss_77 : decode b_XDM_ss 77 = .ok (.getfield 37, 3) := by decide +kernel
theorem d_XDM_ss_80 : decode b_XDM_ss 80 = .ok (.iload_n 1, 1) := by decide +kernel
theorem d_XDM_ss_81 : decode b_XDM_ss 81 = .ok (.iconst 1, 1) := by decide +kernel
theorem d_XDM_ss_82 : decode b_XDM_ss 82 = .ok (.iadd, 1) := by decide +kernel
theorem d_XDM_ss_83 : decode b_XDM_ss 83 = .ok (.iconst 1, 1) := by decide +kernel
theorem d_XDM_ss_84 : decode b_XDM_ss 84 = .ok (.iload_n 3, 1) := by decide +kernel
theorem d_XDM_ss_85 : decode b_XDM_ss 85 = .ok (.i2l, 1) := by decide +kernel
theorem d_XDM_ss_86 : decode b_XDM_ss 86 = .ok (.invokevirtual 41, 3) := by decide +kernel
theorem d_XDM_ss_89 : decode b_XDM_ss 89 = .ok (.aload_n 0, 1) := by decide +kernel
theorem d_XDM_ss_90 : decode b_XDM_ss 90 = .ok (.getfield 10, 3) := by decide +kernel
theorem d_XDM_ss_93 : decode b_XDM_ss 93 = .ok (.getfield 37, 3) := by decide +kernel
theorem d_XDM_ss_96 : decode b_XDM_ss 96 = .ok (.iload_n 1, 1) := by decide +kernel
theorem d_XDM_ss_97 : decode b_XDM_ss 97 = .ok (.iconst 2, 1) := by decide +kernel
theorem d_XDM_ss_98 : decode b_XDM_ss 98 = .ok (.iadd, 1) := by decide +kernel
theorem d_XDM_ss_99 : decode b_XDM_ss 99 = .ok (.iconst 2, 1) := by decide +kernel
theorem d_XDM_ss_100 : decode b_XDM_ss 100 = .ok (.iload 4, 2) := by decide +kernel
theorem d_XDM_ss_102 : decode b_XDM_ss 102 = .ok (.sipush 4096, 3) := by decide +kernel
theorem d_XDM_ss_105 : decode b_XDM_ss 105 = .ok (.imul, 1) := by decide +kernel
theorem d_XDM_ss_106 : decode b_XDM_ss 106 = .ok (.iload 5, 2) := by decide +kernel
theorem d_XDM_ss_108 : decode b_XDM_ss 108 = .ok (.iadd, 1) := by decide +kernel
theorem d_XDM_ss_109 : decode b_XDM_ss 109 = .ok (.i2l, 1) := by decide +kernel
theorem d_XDM_ss_110 : decode b_XDM_ss 110 = .ok (.invokevirtual 41, 3) := by decide +kernel
theorem d_XDM_ss_113 : decode b_XDM_ss 113 = .ok (.aload_n 0, 1) := by decide +kernel
theorem d_XDM_ss_114 : decode b_XDM_ss 114 = .ok (.getfield 10, 3) := by decide +kernel
theorem d_XDM_ss_117 : decode b_XDM_ss 117 = .ok (.getfield 37, 3) := by decide +kernel
theorem d_XDM_ss_120 : decode b_XDM_ss 120 = .ok (.iload_n 1, 1) := by decide +kernel
theorem d_XDM_ss_121 : decode b_XDM_ss 121 = .ok (.iconst 4, 1) := by decide +kernel
theorem d_XDM_ss_122 : decode b_XDM_ss 122 = .ok (.iadd, 1) := by decide +kernel
theorem d_XDM_ss_123 : decode b_XDM_ss 123 = .ok (.iconst 2, 1) := by decide +kernel
theorem d_XDM_ss_124 : decode b_XDM_ss 124 = .ok (.iload 6, 2) := by decide +kernel
theorem d_XDM_ss_126 : decode b_XDM_ss 126 = .ok (.sipush 4096, 3) := by decide +kernel
theorem d_XDM_ss_129 : decode b_XDM_ss 129 = .ok (.imul, 1) := by decide +kernel
theorem d_XDM_ss_130 : decode b_XDM_ss 130 = .ok (.iload 7, 2) := by decide +kernel
theorem d_XDM_ss_132 : decode b_XDM_ss 132 = .ok (.iadd, 1) := by decide +kernel
theorem d_XDM_ss_133 : decode b_XDM_ss 133 = .ok (.i2l, 1) := by decide +kernel
theorem d_XDM_ss_134 : decode b_XDM_ss 134 = .ok (.invokevirtual 41, 3) := by decide +kernel
theorem d_XDM_ss_137 : decode b_XDM_ss 137 = .ok (.iload_n 1, 1) := by decide +kernel
theorem d_XDM_ss_138 : decode b_XDM_ss 138 = .ok (.bipush 6, 2) := by decide +kernel
theorem d_XDM_ss_140 : decode b_XDM_ss 140 = .ok (.iadd, 1) := by decide +kernel
theorem d_XDM_ss_141 : decode b_XDM_ss 141 = .ok (.ireturn, 1) := by decide +kernel
theorem d_XDM_tell_0 : decode b_XDM_tell 0 = .ok (.iload_n 0, 1) := by decide +kernel
theorem d_XDM_tell_1 : decode b_XDM_tell 1 = .ok (.tableswitch 68 0 7 #[47, 58, 68, 68, 68, 48, 58, 58], 47) := by decide +kernel
theorem d_XDM_tell_48 : decode b_XDM_tell 48 = .ok (.return_, 1) := by decide +kernel
theorem d_XDM_tell_49 : decode b_XDM_tell 49 = .ok (.new 118, 3) := by decide +kernel
theorem d_XDM_tell_52 : decode b_XDM_tell 52 = .ok (.dup, 1) := by decide +kernel
theorem d_XDM_tell_53 : decode b_XDM_tell 53 = .ok (.ldc 123, 2) := by decide +kernel
theorem d_XDM_tell_55 : decode b_XDM_tell 55 = .ok (.invokespecial 122, 3) := by decide +kernel
theorem d_XDM_tell_58 : decode b_XDM_tell 58 = .ok (.athrow, 1) := by decide +kernel
theorem d_XDM_tell_59 : decode b_XDM_tell 59 = .ok (.new 110, 3) := by decide +kernel
theorem d_XDM_tell_62 : decode b_XDM_tell 62 = .ok (.dup, 1) := by decide +kernel
theorem d_XDM_tell_63 : decode b_XDM_tell 63 = .ok (.ldc 125, 2) := by decide +kernel
theorem d_XDM_tell_65 : decode b_XDM_tell 65 = .ok (.invokespecial 114, 3) := by decide +kernel
theorem d_XDM_tell_68 : decode b_XDM_tell 68 = .ok (.athrow, 1) := by decide +kernel
theorem d_XDM_tell_69 : decode b_XDM_tell 69 = .ok (.new 127, 3) := by decide +kernel
theorem d_XDM_tell_72 : decode b_XDM_tell 72 = .ok (.dup, 1) := by decide +kernel
theorem d_XDM_tell_73 : decode b_XDM_tell 73 = .ok (.ldc 129, 2) := by decide +kernel
theorem d_XDM_tell_75 : decode b_XDM_tell 75 = .ok (.invokespecial 131, 3) := by decide +kernel
theorem d_XDM_tell_78 : decode b_XDM_tell 78 = .ok (.athrow, 1) := by decide +kernel
theorem d_XDM_run_0 : decode b_XDM_run 0 = .ok (.aload_n 0, 1) := by decide +kernel
theorem d_XDM_run_1 : decode b_XDM_run 1 = .ok (.getfield 10, 3) := by decide +kernel
theorem d_XDM_run_4 : decode b_XDM_run 4 = .ok (.getfield 72, 3) := by decide +kernel
theorem d_XDM_run_7 : decode b_XDM_run 7 = .ok (.iconst (-1), 1) := by decide +kernel
theorem d_XDM_run_8 : decode b_XDM_run 8 = .ok (.if_icmp .eq 13, 3) := by decide +kernel
theorem d_XDM_run_11 : decode b_XDM_run 11 = .ok (.new 79, 3) := by decide +kernel
theorem d_XDM_run_14 : decode b_XDM_run 14 = .ok (.dup, 1) := by decide +kernel
theorem d_XDM_run_15 : decode b_XDM_run 15 = .ok (.ldc 81, 2) := by decide +kernel
theorem d_XDM_run_17 : decode b_XDM_run 17 = .ok (.invokespecial 83, 3) := by decide +kernel
theorem d_XDM_run_20 : decode b_XDM_run 20 = .ok (.athrow, 1) := by decide +kernel
theorem d_XDM_run_21 : decode b_XDM_run 21 = .ok (.iload_n 1, 1) := by decide +kernel
theorem d_XDM_run_22 : decode b_XDM_run 22 = .ok (.iconst 1, 1) := by decide +kernel
theorem d_XDM_run_23 : decode b_XDM_run 23 = .ok (.sipush 200, 3) := by decide +kernel
theorem d_XDM_run_26 : decode b_XDM_run 26 = .ok (.invokestatic 25, 3) := by decide +kernel
theorem d_XDM_run_29 : decode b_XDM_run 29 = .ok (.invokestatic 29, 3) := by decide +kernel
theorem d_XDM_run_32 : decode b_XDM_run 32 = .ok (.iconst 0, 1) := by decide +kernel
theorem d_XDM_run_33 : decode b_XDM_run 33 = .ok (.istore_n 2, 1) := by decide +kernel
theorem d_XDM_run_34 : decode b_XDM_run 34 = .ok (.iconst 0, 1) := by decide +kernel
theorem d_XDM_run_35 : decode b_XDM_run 35 = .ok (.istore_n 3, 1) := by decide +kernel
theorem d_XDM_run_36 : decode b_XDM_run 36 = .ok (.iload_n 2, 1) := by decide +kernel
theorem d_XDM_run_37 : decode b_XDM_run 37 = .ok (.iload_n 1, 1) := by decide +kernel
theorem d_XDM_run_38 : decode b_XDM_run 38 = .ok (.if_icmp .ge 32, 3) := by decide +kernel
theorem d_XDM_run_41 : decode b_XDM_run 41 = .ok (.iload_n 3, 1) := by decide +kernel
theorem d_XDM_run_42 : decode b_XDM_run 42 = .ok (.ifCond .ne 28, 3) := by decide +kernel
theorem d_XDM_run_45 : decode b_XDM_run 45 = .ok (.aload_n 0, 1) := by decide +kernel
theorem d_XDM_run_46 : decode b_XDM_run 46 = .ok (.getfield 10, 3) := by decide +kernel
theorem d_XDM_run_49 : decode b_XDM_run 49 = .ok (.getfield 72, 3) := by decide +kernel
theorem d_XDM_run_52 : decode b_XDM_run 52 = .ok (.iconst (-1), 1) := by decide +kernel
theorem d_XDM_run_53 : decode b_XDM_run 53 = .ok (.if_icmp .ne 17, 3) := by decide +kernel
theorem d_XDM_run_56 : decode b_XDM_run 56 = .ok (.aload_n 0, 1) := by decide +kernel
theorem d_XDM_run_57 : decode b_XDM_run 57 = .ok (.getfield 21, 3) := by decide +kernel
theorem d_XDM_run_60 : decode b_XDM_run 60 = .ok (.invokevirtual 86, 3) := by decide +kernel
theorem d_XDM_run_63 : decode b_XDM_run 63 = .ok (.istore_n 3, 1) := by decide +kernel
theorem d_XDM_run_64 : decode b_XDM_run 64 = .ok (.iinc 2 1, 3) := by decide +kernel
theorem d_XDM_run_67 : decode b_XDM_run 67 = .ok (.goto (-31), 3) := by decide +kernel
theorem d_XDM_run_70 : decode b_XDM_run 70 = .ok (.iload_n 3, 1) := by decide +kernel
theorem d_XDM_run_71 : decode b_XDM_run 71 = .ok (.invokestatic 90, 3) := by decide +kernel
theorem d_XDM_run_74 : decode b_XDM_run 74 = .ok (.iload_n 2, 1) := by decide +kernel
theorem d_XDM_run_75 : decode b_XDM_run 75 = .ok (.ireturn, 1) := by decide +kernel
theorem d_XDM_packed_0 : decode b_XDM_packed 0 = .ok (.iload_n 2, 1) := by decide +kernel
theorem d_XDM_packed_1 : decode b_XDM_packed 1 = .ok (.iconst 1, 1) := by decide +kernel
theorem d_XDM_packed_2 : decode b_XDM_packed 2 = .ok (.bipush 8, 2) := by decide +kernel
theorem d_XDM_packed_4 : decode b_XDM_packed 4 = .ok (.invokestatic 25, 3) := by decide +kernel
theorem d_XDM_packed_7 : decode b_XDM_packed 7 = .ok (.invokestatic 29, 3) := by decide +kernel
theorem d_XDM_packed_10 : decode b_XDM_packed 10 = .ok (.aload_n 0, 1) := by decide +kernel
theorem d_XDM_packed_11 : decode b_XDM_packed 11 = .ok (.iload_n 1, 1) := by decide +kernel
theorem d_XDM_packed_12 : decode b_XDM_packed 12 = .ok (.iload_n 2, 1) := by decide +kernel
theorem d_XDM_packed_13 : decode b_XDM_packed 13 = .ok (.invokevirtual 33, 3) := by decide +kernel
theorem d_XDM_packed_16 : decode b_XDM_packed 16 = .ok (.aload_n 0, 1) := by decide +kernel
theorem d_XDM_packed_17 : decode b_XDM_packed 17 = .ok (.getfield 10, 3) := by decide +kernel
theorem d_XDM_packed_20 : decode b_XDM_packed 20 = .ok (.getfield 37, 3) := by decide +kernel
theorem d_XDM_packed_23 : decode b_XDM_packed 23 = .ok (.iload_n 1, 1) := by decide +kernel
theorem d_XDM_packed_24 : decode b_XDM_packed 24 = .ok (.iload_n 2, 1) := by decide +kernel
theorem d_XDM_packed_25 : decode b_XDM_packed 25 = .ok (.invokevirtual 94, 3) := by decide +kernel
theorem d_XDM_packed_28 : decode b_XDM_packed 28 = .ok (.invokestatic 29, 3) := by decide +kernel
theorem d_XDM_packed_31 : decode b_XDM_packed 31 = .ok (.aload_n 0, 1) := by decide +kernel
theorem d_XDM_packed_32 : decode b_XDM_packed 32 = .ok (.getfield 10, 3) := by decide +kernel
theorem d_XDM_packed_35 : decode b_XDM_packed 35 = .ok (.getfield 37, 3) := by decide +kernel
theorem d_XDM_packed_38 : decode b_XDM_packed 38 = .ok (.iload_n 1, 1) := by decide +kernel
theorem d_XDM_packed_39 : decode b_XDM_packed 39 = .ok (.iload_n 2, 1) := by decide +kernel
theorem d_XDM_packed_40 : decode b_XDM_packed 40 = .ok (.invokevirtual 97, 3) := by decide +kernel
theorem d_XDM_packed_43 : decode b_XDM_packed 43 = .ok (.lreturn, 1) := by decide +kernel
theorem d_XDM_count_0 : decode b_XDM_count 0 = .ok (.iload_n 1, 1) := by decide +kernel
theorem d_XDM_count_1 : decode b_XDM_count 1 = .ok (.iconst 0, 1) := by decide +kernel
theorem d_XDM_count_2 : decode b_XDM_count 2 = .ok (.bipush 6, 2) := by decide +kernel
theorem d_XDM_count_4 : decode b_XDM_count 4 = .ok (.invokestatic 25, 3) := by decide +kernel
theorem d_XDM_count_7 : decode b_XDM_count 7 = .ok (.invokestatic 29, 3) := by decide +kernel
theorem d_XDM_count_10 : decode b_XDM_count 10 = .ok (.iload_n 1, 1) := by decide +kernel
theorem d_XDM_count_11 : decode b_XDM_count 11 = .ok (.tableswitch 85 0 5 #[37, 45, 53, 61, 69, 77], 37) := by decide +kernel
theorem d_XDM_count_48 : decode b_XDM_count 48 = .ok (.aload_n 0, 1) := by decide +kernel
theorem d_XDM_count_49 : decode b_XDM_count 49 = .ok (.getfield 10, 3) := by decide +kernel
theorem d_XDM_count_52 : decode b_XDM_count 52 = .ok (.getfield 62, 3) := by decide +kernel
theorem d_XDM_count_55 : decode b_XDM_count 55 = .ok (.ireturn, 1) := by decide +kernel
theorem d_XDM_count_56 : decode b_XDM_count 56 = .ok (.aload_n 0, 1) := by decide +kernel
theorem d_XDM_count_57 : decode b_XDM_count 57 = .ok (.getfield 10, 3) := by decide +kernel
theorem d_XDM_count_60 : decode b_XDM_count 60 = .ok (.getfield 69, 3) := by decide +kernel
theorem d_XDM_count_63 : decode b_XDM_count 63 = .ok (.ireturn, 1) := by decide +kernel
theorem d_XDM_count_64 : decode b_XDM_count 64 = .ok (.aload_n 0, 1) := by decide +kernel
theorem d_XDM_count_65 : decode b_XDM_count 65 = .ok (.getfield 10, 3) := by decide +kernel
theorem d_XDM_count_68 : decode b_XDM_count 68 = .ok (.getfield 66, 3) := by decide +kernel
theorem d_XDM_count_71 : decode b_XDM_count 71 = .ok (.ireturn, 1) := by decide +kernel
theorem d_XDM_count_72 : decode b_XDM_count 72 = .ok (.aload_n 0, 1) := by decide +kernel
theorem d_XDM_count_73 : decode b_XDM_count 73 = .ok (.getfield 10, 3) := by decide +kernel
theorem d_XDM_count_76 : decode b_XDM_count 76 = .ok (.getfield 72, 3) := by decide +kernel
theorem d_XDM_count_79 : decode b_XDM_count 79 = .ok (.ireturn, 1) := by decide +kernel
theorem d_XDM_count_80 : decode b_XDM_count 80 = .ok (.aload_n 0, 1) := by decide +kernel
theorem d_XDM_count_81 : decode b_XDM_count 81 = .ok (.getfield 21, 3) := by decide +kernel
theorem d_XDM_count_84 : decode b_XDM_count 84 = .ok (.getfield 101, 3) := by decide +kernel
theorem d_XDM_count_87 : decode b_XDM_count 87 = .ok (.ireturn, 1) := by decide +kernel
theorem d_XDM_count_88 : decode b_XDM_count 88 = .ok (.aload_n 0, 1) := by decide +kernel
theorem d_XDM_count_89 : decode b_XDM_count 89 = .ok (.getfield 21, 3) := by decide +kernel
theorem d_XDM_count_92 : decode b_XDM_count 92 = .ok (.getfield 104, 3) := by decide +kernel
theorem d_XDM_count_95 : decode b_XDM_count 95 = .ok (.ireturn, 1) := by decide +kernel
theorem d_XDM_count_96 : decode b_XDM_count 96 = .ok (.aload_n 0, 1) := by decide +kernel
theorem d_XDM_count_97 : decode b_XDM_count 97 = .ok (.getfield 21, 3) := by decide +kernel
theorem d_XDM_count_100 : decode b_XDM_count 100 = .ok (.getfield 107, 3) := by decide +kernel
theorem d_XDM_count_103 : decode b_XDM_count 103 = .ok (.ireturn, 1) := by decide +kernel
