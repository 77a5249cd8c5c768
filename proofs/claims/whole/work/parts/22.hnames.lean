/-! what the law's helpers answer: 0, or the place of the exception among their catches; the answer goes to the array -/
def xc : List String → Int32 → String → Int32
  | [], _, _ => 0
  | c :: r, n, E => if E = c then n else xc r (n + 1) E
def hv (L : List String) (f : Nat → Int64) (o : Sum (String × XS) XS) : Int32 × (XS × (Nat → Int64)) := match o with
  | .inl q => (xc L 1 q.1, (q.2, f))
  | .inr u => (0, (u, f))
def hi (L : List String) (f : Nat → Int64) (o : Sum (String × XS) (Int32 × XS)) : Int32 × (XS × (Nat → Int64)) := match o with
  | .inl q => (xc L 1 q.1, (q.2, f))
  | .inr r => (0, (r.2, vp_updL f 0 r.1.toInt64))
def hj (L : List String) (f : Nat → Int64) (o : Sum (String × XS) (Int64 × XS)) : Int32 × (XS × (Nat → Int64)) := match o with
  | .inl q => (xc L 1 q.1, (q.2, f))
  | .inr r => (0, (r.2, vp_updL f 0 r.1))
theorem z_in01 : vp_in (0 : Int32) 1 := by unfold vp_in; decide
theorem zl_table {p : Program} {l : Launch} {y : MethodName} {S : Spec} {cc bytes : ByteArray} {maxL maxL' : Nat} {ret ret' : Option FieldType} {e : Env} {s s₁ : State} {m : MethodId} {args : Array Value} {below : List Frame} {meth : Method} {c : Code} {hh : List (Nat × Nat × Nat × Nat)}
    (B : BodyLoose p l y S cc maxL ret e s m args below meth c s₁) (h : (Cond.codeWith y bytes maxL' ret' hh).before args s = true) : c.exceptionTable.toList = tableOf hh := by
  obtain ⟨m9, meth9, c9, hn9, h1, h2, -, -, h6, -⟩ := Cond.codeWith_spec h
  cases Option.some.inj (hn9.symm.trans B.named)
  cases Option.some.inj (h1.symm.trans B.method)
  cases Option.some.inj (h2.symm.trans (Stand.of_body B).code)
  rw [← h6, table_eq]
def RL : String := "DecimalMachineLaw"
abbrev b_H_poke : ByteArray := method_3_code
def y_H_poke : MethodName := ⟨RL, "poke", "(LDecimalMachine;IIJ)I"⟩
def hh_H_poke : List (Nat × Nat × Nat × Nat) := [(0, 7, 10, 13), (0, 7, 14, 15)]
set_option maxRecDepth 20000 in
theorem kc_H_poke : Cond.codeWith y_H_poke b_H_poke 6 (some .int) hh_H_poke ∈ G0 := mG 311 rfl rfl
def w_H_poke : List Cond := .codeWith y_H_poke b_H_poke 6 (some .int) hh_H_poke :: G0
theorem kg_H_poke : GoodIn G0 w_H_poke := zgC kc_H_poke
def rm_H_poke : Room := { frames := 8, cells := 1, slots := 6, locals := 128 }
theorem d_H_poke_0 : decode b_H_poke 0 = .ok (.aload_n 0, 1) := by decide +kernel
theorem d_H_poke_1 : decode b_H_poke 1 = .ok (.iload_n 1, 1) := by decide +kernel
theorem d_H_poke_2 : decode b_H_poke 2 = .ok (.iload_n 2, 1) := by decide +kernel
theorem d_H_poke_3 : decode b_H_poke 3 = .ok (.lload_n 3, 1) := by decide +kernel
theorem d_H_poke_4 : decode b_H_poke 4 = .ok (.invokevirtual 7, 3) := by decide +kernel
theorem d_H_poke_7 : decode b_H_poke 7 = .ok (.goto 11, 3) := by decide +kernel
theorem d_H_poke_10 : decode b_H_poke 10 = .ok (.astore 5, 2) := by decide +kernel
theorem d_H_poke_12 : decode b_H_poke 12 = .ok (.iconst 1, 1) := by decide +kernel
theorem d_H_poke_13 : decode b_H_poke 13 = .ok (.ireturn, 1) := by decide +kernel
theorem d_H_poke_14 : decode b_H_poke 14 = .ok (.astore 5, 2) := by decide +kernel
theorem d_H_poke_16 : decode b_H_poke 16 = .ok (.iconst 2, 1) := by decide +kernel
theorem d_H_poke_17 : decode b_H_poke 17 = .ok (.ireturn, 1) := by decide +kernel
theorem d_H_poke_18 : decode b_H_poke 18 = .ok (.iconst 0, 1) := by decide +kernel
theorem d_H_poke_19 : decode b_H_poke 19 = .ok (.ireturn, 1) := by decide +kernel
abbrev b_H_octet : ByteArray := method_4_code
def y_H_octet : MethodName := ⟨RL, "octet", "(LDecimalMachine;I[J)I"⟩
def hh_H_octet : List (Nat × Nat × Nat × Nat) := [(0, 9, 12, 15)]
set_option maxRecDepth 20000 in
theorem kc_H_octet : Cond.codeWith y_H_octet b_H_octet 4 (some .int) hh_H_octet ∈ G0 := mG 428 rfl rfl
def w_H_octet : List Cond := .codeWith y_H_octet b_H_octet 4 (some .int) hh_H_octet :: G0
theorem kg_H_octet : GoodIn G0 w_H_octet := zgC kc_H_octet
def rm_H_octet : Room := { frames := 8, cells := 1, slots := 6, locals := 125 }
theorem d_H_octet_0 : decode b_H_octet 0 = .ok (.aload_n 2, 1) := by decide +kernel
theorem d_H_octet_1 : decode b_H_octet 1 = .ok (.iconst 0, 1) := by decide +kernel
theorem d_H_octet_2 : decode b_H_octet 2 = .ok (.aload_n 0, 1) := by decide +kernel
theorem d_H_octet_3 : decode b_H_octet 3 = .ok (.iload_n 1, 1) := by decide +kernel
theorem d_H_octet_4 : decode b_H_octet 4 = .ok (.invokevirtual 17, 3) := by decide +kernel
theorem d_H_octet_7 : decode b_H_octet 7 = .ok (.i2l, 1) := by decide +kernel
theorem d_H_octet_8 : decode b_H_octet 8 = .ok (.lastore, 1) := by decide +kernel
theorem d_H_octet_9 : decode b_H_octet 9 = .ok (.goto 6, 3) := by decide +kernel
theorem d_H_octet_12 : decode b_H_octet 12 = .ok (.astore_n 3, 1) := by decide +kernel
theorem d_H_octet_13 : decode b_H_octet 13 = .ok (.iconst 1, 1) := by decide +kernel
theorem d_H_octet_14 : decode b_H_octet 14 = .ok (.ireturn, 1) := by decide +kernel
theorem d_H_octet_15 : decode b_H_octet 15 = .ok (.iconst 0, 1) := by decide +kernel
theorem d_H_octet_16 : decode b_H_octet 16 = .ok (.ireturn, 1) := by decide +kernel
abbrev b_H_set : ByteArray := method_5_code
def y_H_set : MethodName := ⟨RL, "set", "(LDecimalMachine;II[J)I"⟩
def hh_H_set : List (Nat × Nat × Nat × Nat) := [(0, 10, 13, 13)]
set_option maxRecDepth 20000 in
theorem kc_H_set : Cond.codeWith y_H_set b_H_set 5 (some .int) hh_H_set ∈ G0 := mG 439 rfl rfl
def w_H_set : List Cond := .codeWith y_H_set b_H_set 5 (some .int) hh_H_set :: G0
theorem kg_H_set : GoodIn G0 w_H_set := zgC kc_H_set
def rm_H_set : Room := { frames := 8, cells := 1, slots := 6, locals := 125 }
theorem d_H_set_0 : decode b_H_set 0 = .ok (.aload_n 3, 1) := by decide +kernel
theorem d_H_set_1 : decode b_H_set 1 = .ok (.iconst 0, 1) := by decide +kernel
theorem d_H_set_2 : decode b_H_set 2 = .ok (.aload_n 0, 1) := by decide +kernel
theorem d_H_set_3 : decode b_H_set 3 = .ok (.iload_n 1, 1) := by decide +kernel
theorem d_H_set_4 : decode b_H_set 4 = .ok (.iload_n 2, 1) := by decide +kernel
theorem d_H_set_5 : decode b_H_set 5 = .ok (.invokevirtual 21, 3) := by decide +kernel
theorem d_H_set_8 : decode b_H_set 8 = .ok (.i2l, 1) := by decide +kernel
theorem d_H_set_9 : decode b_H_set 9 = .ok (.lastore, 1) := by decide +kernel
theorem d_H_set_10 : decode b_H_set 10 = .ok (.goto 7, 3) := by decide +kernel
theorem d_H_set_13 : decode b_H_set 13 = .ok (.astore 4, 2) := by decide +kernel
theorem d_H_set_15 : decode b_H_set 15 = .ok (.iconst 1, 1) := by decide +kernel
theorem d_H_set_16 : decode b_H_set 16 = .ok (.ireturn, 1) := by decide +kernel
theorem d_H_set_17 : decode b_H_set 17 = .ok (.iconst 0, 1) := by decide +kernel
theorem d_H_set_18 : decode b_H_set 18 = .ok (.ireturn, 1) := by decide +kernel
abbrev b_H_register : ByteArray := method_6_code
def y_H_register : MethodName := ⟨RL, "register", "(LDecimalMachine;I[J)I"⟩
def hh_H_register : List (Nat × Nat × Nat × Nat) := [(0, 9, 12, 13)]
set_option maxRecDepth 20000 in
theorem kc_H_register : Cond.codeWith y_H_register b_H_register 4 (some .int) hh_H_register ∈ G0 := mG 457 rfl rfl
def w_H_register : List Cond := .codeWith y_H_register b_H_register 4 (some .int) hh_H_register :: G0
theorem kg_H_register : GoodIn G0 w_H_register := zgC kc_H_register
def rm_H_register : Room := { frames := 8, cells := 1, slots := 6, locals := 123 }
theorem d_H_register_0 : decode b_H_register 0 = .ok (.aload_n 2, 1) := by decide +kernel
theorem d_H_register_1 : decode b_H_register 1 = .ok (.iconst 0, 1) := by decide +kernel
theorem d_H_register_2 : decode b_H_register 2 = .ok (.aload_n 0, 1) := by decide +kernel
theorem d_H_register_3 : decode b_H_register 3 = .ok (.iload_n 1, 1) := by decide +kernel
theorem d_H_register_4 : decode b_H_register 4 = .ok (.invokevirtual 25, 3) := by decide +kernel
theorem d_H_register_7 : decode b_H_register 7 = .ok (.i2l, 1) := by decide +kernel
theorem d_H_register_8 : decode b_H_register 8 = .ok (.lastore, 1) := by decide +kernel
theorem d_H_register_9 : decode b_H_register 9 = .ok (.goto 6, 3) := by decide +kernel
theorem d_H_register_12 : decode b_H_register 12 = .ok (.astore_n 3, 1) := by decide +kernel
theorem d_H_register_13 : decode b_H_register 13 = .ok (.iconst 1, 1) := by decide +kernel
theorem d_H_register_14 : decode b_H_register 14 = .ok (.ireturn, 1) := by decide +kernel
theorem d_H_register_15 : decode b_H_register 15 = .ok (.iconst 0, 1) := by decide +kernel
theorem d_H_register_16 : decode b_H_register 16 = .ok (.ireturn, 1) := by decide +kernel
abbrev b_H_start : ByteArray := method_7_code
def y_H_start : MethodName := ⟨RL, "start", "(LDecimalMachine;II)I"⟩
def hh_H_start : List (Nat × Nat × Nat × Nat) := [(0, 6, 9, 13)]
set_option maxRecDepth 20000 in
theorem kc_H_start : Cond.codeWith y_H_start b_H_start 4 (some .int) hh_H_start ∈ G0 := mG 464 rfl rfl
def w_H_start : List Cond := .codeWith y_H_start b_H_start 4 (some .int) hh_H_start :: G0
theorem kg_H_start : GoodIn G0 w_H_start := zgC kc_H_start
def rm_H_start : Room := { frames := 8, cells := 1, slots := 6, locals := 124 }
theorem d_H_start_0 : decode b_H_start 0 = .ok (.aload_n 0, 1) := by decide +kernel
theorem d_H_start_1 : decode b_H_start 1 = .ok (.iload_n 1, 1) := by decide +kernel
theorem d_H_start_2 : decode b_H_start 2 = .ok (.iload_n 2, 1) := by decide +kernel
theorem d_H_start_3 : decode b_H_start 3 = .ok (.invokevirtual 28, 3) := by decide +kernel
theorem d_H_start_6 : decode b_H_start 6 = .ok (.goto 6, 3) := by decide +kernel
theorem d_H_start_9 : decode b_H_start 9 = .ok (.astore_n 3, 1) := by decide +kernel
theorem d_H_start_10 : decode b_H_start 10 = .ok (.iconst 1, 1) := by decide +kernel
theorem d_H_start_11 : decode b_H_start 11 = .ok (.ireturn, 1) := by decide +kernel
theorem d_H_start_12 : decode b_H_start 12 = .ok (.iconst 0, 1) := by decide +kernel
theorem d_H_start_13 : decode b_H_start 13 = .ok (.ireturn, 1) := by decide +kernel
abbrev b_H_rr : ByteArray := method_8_code
def y_H_rr : MethodName := ⟨RL, "rr", "(LDecimalMachine;IIII[J)I"⟩
def hh_H_rr : List (Nat × Nat × Nat × Nat) := [(0, 14, 17, 13), (0, 14, 21, 15)]
set_option maxRecDepth 20000 in
theorem kc_H_rr : Cond.codeWith y_H_rr b_H_rr 7 (some .int) hh_H_rr ∈ G0 := mG 472 rfl rfl
def w_H_rr : List Cond := .codeWith y_H_rr b_H_rr 7 (some .int) hh_H_rr :: G0
theorem kg_H_rr : GoodIn G0 w_H_rr := zgC kc_H_rr
def rm_H_rr : Room := { frames := 8, cells := 1, slots := 6, locals := 128 }
theorem d_H_rr_0 : decode b_H_rr 0 = .ok (.aload 5, 2) := by decide +kernel
theorem d_H_rr_2 : decode b_H_rr 2 = .ok (.iconst 0, 1) := by decide +kernel
theorem d_H_rr_3 : decode b_H_rr 3 = .ok (.aload_n 0, 1) := by decide +kernel
theorem d_H_rr_4 : decode b_H_rr 4 = .ok (.iload_n 1, 1) := by decide +kernel
theorem d_H_rr_5 : decode b_H_rr 5 = .ok (.iload_n 2, 1) := by decide +kernel
theorem d_H_rr_6 : decode b_H_rr 6 = .ok (.iload_n 3, 1) := by decide +kernel
theorem d_H_rr_7 : decode b_H_rr 7 = .ok (.iload 4, 2) := by decide +kernel
theorem d_H_rr_9 : decode b_H_rr 9 = .ok (.invokevirtual 32, 3) := by decide +kernel
theorem d_H_rr_12 : decode b_H_rr 12 = .ok (.i2l, 1) := by decide +kernel
theorem d_H_rr_13 : decode b_H_rr 13 = .ok (.lastore, 1) := by decide +kernel
theorem d_H_rr_14 : decode b_H_rr 14 = .ok (.goto 11, 3) := by decide +kernel
theorem d_H_rr_17 : decode b_H_rr 17 = .ok (.astore 6, 2) := by decide +kernel
theorem d_H_rr_19 : decode b_H_rr 19 = .ok (.iconst 1, 1) := by decide +kernel
theorem d_H_rr_20 : decode b_H_rr 20 = .ok (.ireturn, 1) := by decide +kernel
theorem d_H_rr_21 : decode b_H_rr 21 = .ok (.astore 6, 2) := by decide +kernel
theorem d_H_rr_23 : decode b_H_rr 23 = .ok (.iconst 2, 1) := by decide +kernel
theorem d_H_rr_24 : decode b_H_rr 24 = .ok (.ireturn, 1) := by decide +kernel
theorem d_H_rr_25 : decode b_H_rr 25 = .ok (.iconst 0, 1) := by decide +kernel
theorem d_H_rr_26 : decode b_H_rr 26 = .ok (.ireturn, 1) := by decide +kernel
abbrev b_H_rx : ByteArray := method_9_code
def y_H_rx : MethodName := ⟨RL, "rx", "(LDecimalMachine;IIIIII[J)I"⟩
def hh_H_rx : List (Nat × Nat × Nat × Nat) := [(0, 18, 21, 13), (0, 18, 25, 15)]
set_option maxRecDepth 20000 in
theorem kc_H_rx : Cond.codeWith y_H_rx b_H_rx 9 (some .int) hh_H_rx ∈ G0 := mG 479 rfl rfl
def w_H_rx : List Cond := .codeWith y_H_rx b_H_rx 9 (some .int) hh_H_rx :: G0
theorem kg_H_rx : GoodIn G0 w_H_rx := zgC kc_H_rx
def rm_H_rx : Room := { frames := 8, cells := 1, slots := 6, locals := 130 }
theorem d_H_rx_0 : decode b_H_rx 0 = .ok (.aload 7, 2) := by decide +kernel
theorem d_H_rx_2 : decode b_H_rx 2 = .ok (.iconst 0, 1) := by decide +kernel
theorem d_H_rx_3 : decode b_H_rx 3 = .ok (.aload_n 0, 1) := by decide +kernel
theorem d_H_rx_4 : decode b_H_rx 4 = .ok (.iload_n 1, 1) := by decide +kernel
theorem d_H_rx_5 : decode b_H_rx 5 = .ok (.iload_n 2, 1) := by decide +kernel
theorem d_H_rx_6 : decode b_H_rx 6 = .ok (.iload_n 3, 1) := by decide +kernel
theorem d_H_rx_7 : decode b_H_rx 7 = .ok (.iload 4, 2) := by decide +kernel
theorem d_H_rx_9 : decode b_H_rx 9 = .ok (.iload 5, 2) := by decide +kernel
theorem d_H_rx_11 : decode b_H_rx 11 = .ok (.iload 6, 2) := by decide +kernel
theorem d_H_rx_13 : decode b_H_rx 13 = .ok (.invokevirtual 36, 3) := by decide +kernel
theorem d_H_rx_16 : decode b_H_rx 16 = .ok (.i2l, 1) := by decide +kernel
theorem d_H_rx_17 : decode b_H_rx 17 = .ok (.lastore, 1) := by decide +kernel
theorem d_H_rx_18 : decode b_H_rx 18 = .ok (.goto 11, 3) := by decide +kernel
theorem d_H_rx_21 : decode b_H_rx 21 = .ok (.astore 8, 2) := by decide +kernel
theorem d_H_rx_23 : decode b_H_rx 23 = .ok (.iconst 1, 1) := by decide +kernel
theorem d_H_rx_24 : decode b_H_rx 24 = .ok (.ireturn, 1) := by decide +kernel
theorem d_H_rx_25 : decode b_H_rx 25 = .ok (.astore 8, 2) := by decide +kernel
theorem d_H_rx_27 : decode b_H_rx 27 = .ok (.iconst 2, 1) := by decide +kernel
theorem d_H_rx_28 : decode b_H_rx 28 = .ok (.ireturn, 1) := by decide +kernel
theorem d_H_rx_29 : decode b_H_rx 29 = .ok (.iconst 0, 1) := by decide +kernel
theorem d_H_rx_30 : decode b_H_rx 30 = .ok (.ireturn, 1) := by decide +kernel
abbrev b_H_ss : ByteArray := method_10_code
def y_H_ss : MethodName := ⟨RL, "ss", "(LDecimalMachine;IIIIIII[J)I"⟩
def hh_H_ss : List (Nat × Nat × Nat × Nat) := [(0, 20, 23, 13), (0, 20, 27, 15)]
set_option maxRecDepth 20000 in
theorem kc_H_ss : Cond.codeWith y_H_ss b_H_ss 10 (some .int) hh_H_ss ∈ G0 := mG 489 rfl rfl
def w_H_ss : List Cond := .codeWith y_H_ss b_H_ss 10 (some .int) hh_H_ss :: G0
theorem kg_H_ss : GoodIn G0 w_H_ss := zgC kc_H_ss
def rm_H_ss : Room := { frames := 8, cells := 1, slots := 6, locals := 131 }
theorem d_H_ss_0 : decode b_H_ss 0 = .ok (.aload 8, 2) := by decide +kernel
theorem d_H_ss_2 : decode b_H_ss 2 = .ok (.iconst 0, 1) := by decide +kernel
theorem d_H_ss_3 : decode b_H_ss 3 = .ok (.aload_n 0, 1) := by decide +kernel
theorem d_H_ss_4 : decode b_H_ss 4 = .ok (.iload_n 1, 1) := by decide +kernel
theorem d_H_ss_5 : decode b_H_ss 5 = .ok (.iload_n 2, 1) := by decide +kernel
theorem d_H_ss_6 : decode b_H_ss 6 = .ok (.iload_n 3, 1) := by decide +kernel
theorem d_H_ss_7 : decode b_H_ss 7 = .ok (.iload 4, 2) := by decide +kernel
theorem d_H_ss_9 : decode b_H_ss 9 = .ok (.iload 5, 2) := by decide +kernel
theorem d_H_ss_11 : decode b_H_ss 11 = .ok (.iload 6, 2) := by decide +kernel
theorem d_H_ss_13 : decode b_H_ss 13 = .ok (.iload 7, 2) := by decide +kernel
theorem d_H_ss_15 : decode b_H_ss 15 = .ok (.invokevirtual 40, 3) := by decide +kernel
theorem d_H_ss_18 : decode b_H_ss 18 = .ok (.i2l, 1) := by decide +kernel
theorem d_H_ss_19 : decode b_H_ss 19 = .ok (.lastore, 1) := by decide +kernel
theorem d_H_ss_20 : decode b_H_ss 20 = .ok (.goto 11, 3) := by decide +kernel
theorem d_H_ss_23 : decode b_H_ss 23 = .ok (.astore 9, 2) := by decide +kernel
theorem d_H_ss_25 : decode b_H_ss 25 = .ok (.iconst 1, 1) := by decide +kernel
theorem d_H_ss_26 : decode b_H_ss 26 = .ok (.ireturn, 1) := by decide +kernel
theorem d_H_ss_27 : decode b_H_ss 27 = .ok (.astore 9, 2) := by decide +kernel
theorem d_H_ss_29 : decode b_H_ss 29 = .ok (.iconst 2, 1) := by decide +kernel
theorem d_H_ss_30 : decode b_H_ss 30 = .ok (.ireturn, 1) := by decide +kernel
theorem d_H_ss_31 : decode b_H_ss 31 = .ok (.iconst 0, 1) := by decide +kernel
theorem d_H_ss_32 : decode b_H_ss 32 = .ok (.ireturn, 1) := by decide +kernel
abbrev b_H_run : ByteArray := method_11_code
def y_H_run : MethodName := ⟨RL, "run", "(LDecimalMachine;I[J)I"⟩
def hh_H_run : List (Nat × Nat × Nat × Nat) := [(0, 9, 12, 47), (0, 9, 15, 13), (0, 9, 18, 15), (0, 9, 21, 49)]
set_option maxRecDepth 20000 in
theorem kc_H_run : Cond.codeWith y_H_run b_H_run 4 (some .int) hh_H_run ∈ G0 := mG 496 rfl rfl
def w_H_run : List Cond := .codeWith y_H_run b_H_run 4 (some .int) hh_H_run :: G0
theorem kg_H_run : GoodIn G0 w_H_run := zgC kc_H_run
def rm_H_run : Room := { frames := 8, cells := 1, slots := 6, locals := 194 }
theorem d_H_run_0 : decode b_H_run 0 = .ok (.aload_n 2, 1) := by decide +kernel
theorem d_H_run_1 : decode b_H_run 1 = .ok (.iconst 0, 1) := by decide +kernel
theorem d_H_run_2 : decode b_H_run 2 = .ok (.aload_n 0, 1) := by decide +kernel
theorem d_H_run_3 : decode b_H_run 3 = .ok (.iload_n 1, 1) := by decide +kernel
theorem d_H_run_4 : decode b_H_run 4 = .ok (.invokevirtual 44, 3) := by decide +kernel
theorem d_H_run_7 : decode b_H_run 7 = .ok (.i2l, 1) := by decide +kernel
theorem d_H_run_8 : decode b_H_run 8 = .ok (.lastore, 1) := by decide +kernel
theorem d_H_run_9 : decode b_H_run 9 = .ok (.goto 15, 3) := by decide +kernel
theorem d_H_run_12 : decode b_H_run 12 = .ok (.astore_n 3, 1) := by decide +kernel
theorem d_H_run_13 : decode b_H_run 13 = .ok (.iconst 1, 1) := by decide +kernel
theorem d_H_run_14 : decode b_H_run 14 = .ok (.ireturn, 1) := by decide +kernel
theorem d_H_run_15 : decode b_H_run 15 = .ok (.astore_n 3, 1) := by decide +kernel
theorem d_H_run_16 : decode b_H_run 16 = .ok (.iconst 2, 1) := by decide +kernel
theorem d_H_run_17 : decode b_H_run 17 = .ok (.ireturn, 1) := by decide +kernel
theorem d_H_run_18 : decode b_H_run 18 = .ok (.astore_n 3, 1) := by decide +kernel
theorem d_H_run_19 : decode b_H_run 19 = .ok (.iconst 3, 1) := by decide +kernel
theorem d_H_run_20 : decode b_H_run 20 = .ok (.ireturn, 1) := by decide +kernel
theorem d_H_run_21 : decode b_H_run 21 = .ok (.astore_n 3, 1) := by decide +kernel
theorem d_H_run_22 : decode b_H_run 22 = .ok (.iconst 4, 1) := by decide +kernel
theorem d_H_run_23 : decode b_H_run 23 = .ok (.ireturn, 1) := by decide +kernel
theorem d_H_run_24 : decode b_H_run 24 = .ok (.iconst 0, 1) := by decide +kernel
theorem d_H_run_25 : decode b_H_run 25 = .ok (.ireturn, 1) := by decide +kernel
abbrev b_H_packed : ByteArray := method_12_code
def y_H_packed : MethodName := ⟨RL, "packed", "(LDecimalMachine;II[J)I"⟩
def hh_H_packed : List (Nat × Nat × Nat × Nat) := [(0, 9, 12, 13), (0, 9, 16, 15)]
set_option maxRecDepth 20000 in
theorem kc_H_packed : Cond.codeWith y_H_packed b_H_packed 5 (some .int) hh_H_packed ∈ G0 := mG 821 rfl rfl
def w_H_packed : List Cond := .codeWith y_H_packed b_H_packed 5 (some .int) hh_H_packed :: G0
theorem kg_H_packed : GoodIn G0 w_H_packed := zgC kc_H_packed
def rm_H_packed : Room := { frames := 8, cells := 1, slots := 6, locals := 126 }
theorem d_H_packed_0 : decode b_H_packed 0 = .ok (.aload_n 3, 1) := by decide +kernel
theorem d_H_packed_1 : decode b_H_packed 1 = .ok (.iconst 0, 1) := by decide +kernel
theorem d_H_packed_2 : decode b_H_packed 2 = .ok (.aload_n 0, 1) := by decide +kernel
theorem d_H_packed_3 : decode b_H_packed 3 = .ok (.iload_n 1, 1) := by decide +kernel
theorem d_H_packed_4 : decode b_H_packed 4 = .ok (.iload_n 2, 1) := by decide +kernel
theorem d_H_packed_5 : decode b_H_packed 5 = .ok (.invokevirtual 51, 3) := by decide +kernel
theorem d_H_packed_8 : decode b_H_packed 8 = .ok (.lastore, 1) := by decide +kernel
theorem d_H_packed_9 : decode b_H_packed 9 = .ok (.goto 11, 3) := by decide +kernel
theorem d_H_packed_12 : decode b_H_packed 12 = .ok (.astore 4, 2) := by decide +kernel
theorem d_H_packed_14 : decode b_H_packed 14 = .ok (.iconst 1, 1) := by decide +kernel
theorem d_H_packed_15 : decode b_H_packed 15 = .ok (.ireturn, 1) := by decide +kernel
theorem d_H_packed_16 : decode b_H_packed 16 = .ok (.astore 4, 2) := by decide +kernel
theorem d_H_packed_18 : decode b_H_packed 18 = .ok (.iconst 2, 1) := by decide +kernel
theorem d_H_packed_19 : decode b_H_packed 19 = .ok (.ireturn, 1) := by decide +kernel
theorem d_H_packed_20 : decode b_H_packed 20 = .ok (.iconst 0, 1) := by decide +kernel
theorem d_H_packed_21 : decode b_H_packed 21 = .ok (.ireturn, 1) := by decide +kernel
abbrev b_H_count : ByteArray := method_13_code
def y_H_count : MethodName := ⟨RL, "count", "(LDecimalMachine;I[J)I"⟩
def hh_H_count : List (Nat × Nat × Nat × Nat) := [(0, 9, 12, 13)]
set_option maxRecDepth 20000 in
theorem kc_H_count : Cond.codeWith y_H_count b_H_count 4 (some .int) hh_H_count ∈ G0 := mG 830 rfl rfl
def w_H_count : List Cond := .codeWith y_H_count b_H_count 4 (some .int) hh_H_count :: G0
theorem kg_H_count : GoodIn G0 w_H_count := zgC kc_H_count
def rm_H_count : Room := { frames := 8, cells := 1, slots := 6, locals := 123 }
theorem d_H_count_0 : decode b_H_count 0 = .ok (.aload_n 2, 1) := by decide +kernel
theorem d_H_count_1 : decode b_H_count 1 = .ok (.iconst 0, 1) := by decide +kernel
theorem d_H_count_2 : decode b_H_count 2 = .ok (.aload_n 0, 1) := by decide +kernel
theorem d_H_count_3 : decode b_H_count 3 = .ok (.iload_n 1, 1) := by decide +kernel
theorem d_H_count_4 : decode b_H_count 4 = .ok (.invokevirtual 55, 3) := by decide +kernel
theorem d_H_count_7 : decode b_H_count 7 = .ok (.i2l, 1) := by decide +kernel
theorem d_H_count_8 : decode b_H_count 8 = .ok (.lastore, 1) := by decide +kernel
theorem d_H_count_9 : decode b_H_count 9 = .ok (.goto 6, 3) := by decide +kernel
theorem d_H_count_12 : decode b_H_count 12 = .ok (.astore_n 3, 1) := by decide +kernel
theorem d_H_count_13 : decode b_H_count 13 = .ok (.iconst 1, 1) := by decide +kernel
theorem d_H_count_14 : decode b_H_count 14 = .ok (.ireturn, 1) := by decide +kernel
theorem d_H_count_15 : decode b_H_count 15 = .ok (.iconst 0, 1) := by decide +kernel
theorem d_H_count_16 : decode b_H_count 16 = .ok (.ireturn, 1) := by decide +kernel
def ncL : List (String × String) := [("java/lang/IndexOutOfBoundsException", "java/lang/IllegalArgumentException"), ("java/lang/IllegalArgumentException", "java/lang/IllegalStateException"), ("java/lang/IndexOutOfBoundsException", "java/lang/IllegalStateException"), ("java/lang/ArithmeticException", "java/lang/IllegalStateException"), ("java/lang/ArithmeticException", "java/lang/IllegalArgumentException"), ("java/lang/ArithmeticException", "java/lang/IndexOutOfBoundsException")]
set_option maxRecDepth 20000 in
theorem kh_0 : Cond.methodLink RL 7 y_XDM_poke ∈ G0 := mG 314 rfl rfl
set_option maxRecDepth 20000 in
theorem kh_1 : Cond.instanceMethod y_XDM_poke ∈ G0 := mG 315 rfl rfl
set_option maxRecDepth 20000 in
theorem kh_2 : Cond.selects RX_DM y_XDM_poke y_XDM_poke ∈ G0 := mG 316 rfl rfl
set_option maxRecDepth 20000 in
theorem kh_3 : Cond.initialized RX_DM ∈ G0 := mG 70 rfl rfl
set_option maxRecDepth 20000 in
theorem kh_4 : Cond.classLink RL 13 "java/lang/IllegalArgumentException" ∈ G0 := mG 312 rfl rfl
set_option maxRecDepth 20000 in
theorem kh_5 : Cond.classLink RL 15 "java/lang/IndexOutOfBoundsException" ∈ G0 := mG 313 rfl rfl
set_option maxRecDepth 20000 in
theorem kh_6 : Cond.methodLink RL 17 y_XDM_octet ∈ G0 := mG 429 rfl rfl
set_option maxRecDepth 20000 in
theorem kh_7 : Cond.instanceMethod y_XDM_octet ∈ G0 := mG 430 rfl rfl
set_option maxRecDepth 20000 in
theorem kh_8 : Cond.selects RX_DM y_XDM_octet y_XDM_octet ∈ G0 := mG 431 rfl rfl
set_option maxRecDepth 20000 in
theorem kh_9 : Cond.methodLink RL 21 y_XDM_set ∈ G0 := mG 440 rfl rfl
set_option maxRecDepth 20000 in
theorem kh_10 : Cond.instanceMethod y_XDM_set ∈ G0 := mG 441 rfl rfl
set_option maxRecDepth 20000 in
theorem kh_11 : Cond.selects RX_DM y_XDM_set y_XDM_set ∈ G0 := mG 442 rfl rfl
set_option maxRecDepth 20000 in
theorem kh_12 : Cond.methodLink RL 25 y_XDM_register ∈ G0 := mG 458 rfl rfl
set_option maxRecDepth 20000 in
theorem kh_13 : Cond.instanceMethod y_XDM_register ∈ G0 := mG 459 rfl rfl
set_option maxRecDepth 20000 in
theorem kh_14 : Cond.selects RX_DM y_XDM_register y_XDM_register ∈ G0 := mG 460 rfl rfl
set_option maxRecDepth 20000 in
theorem kh_15 : Cond.methodLink RL 28 y_XDM_start ∈ G0 := mG 465 rfl rfl
set_option maxRecDepth 20000 in
theorem kh_16 : Cond.instanceMethod y_XDM_start ∈ G0 := mG 466 rfl rfl
set_option maxRecDepth 20000 in
theorem kh_17 : Cond.selects RX_DM y_XDM_start y_XDM_start ∈ G0 := mG 467 rfl rfl
set_option maxRecDepth 20000 in
theorem kh_18 : Cond.methodLink RL 32 y_XDM_rr ∈ G0 := mG 473 rfl rfl
set_option maxRecDepth 20000 in
theorem kh_19 : Cond.instanceMethod y_XDM_rr ∈ G0 := mG 474 rfl rfl
set_option maxRecDepth 20000 in
theorem kh_20 : Cond.selects RX_DM y_XDM_rr y_XDM_rr ∈ G0 := mG 475 rfl rfl
set_option maxRecDepth 20000 in
theorem kh_21 : Cond.methodLink RL 36 y_XDM_rx ∈ G0 := mG 480 rfl rfl
set_option maxRecDepth 20000 in
theorem kh_22 : Cond.instanceMethod y_XDM_rx ∈ G0 := mG 481 rfl rfl
set_option maxRecDepth 20000 in
theorem kh_23 : Cond.selects RX_DM y_XDM_rx y_XDM_rx ∈ G0 := mG 482 rfl rfl
set_option maxRecDepth 20000 in
theorem kh_24 : Cond.methodLink RL 40 y_XDM_ss ∈ G0 := mG 490 rfl rfl
set_option maxRecDepth 20000 in
theorem kh_25 : Cond.instanceMethod y_XDM_ss ∈ G0 := mG 491 rfl rfl
set_option maxRecDepth 20000 in
theorem kh_26 : Cond.selects RX_DM y_XDM_ss y_XDM_ss ∈ G0 := mG 492 rfl rfl
set_option maxRecDepth 20000 in
theorem kh_27 : Cond.methodLink RL 44 y_XDM_run ∈ G0 := mG 499 rfl rfl
set_option maxRecDepth 20000 in
theorem kh_28 : Cond.instanceMethod y_XDM_run ∈ G0 := mG 500 rfl rfl
set_option maxRecDepth 20000 in
theorem kh_29 : Cond.selects RX_DM y_XDM_run y_XDM_run ∈ G0 := mG 501 rfl rfl
set_option maxRecDepth 20000 in
theorem kh_30 : Cond.classLink RL 47 "java/lang/IllegalStateException" ∈ G0 := mG 497 rfl rfl
set_option maxRecDepth 20000 in
theorem kh_31 : Cond.classLink RL 49 "java/lang/ArithmeticException" ∈ G0 := mG 498 rfl rfl
set_option maxRecDepth 20000 in
theorem kh_32 : Cond.methodLink RL 51 y_XDM_packed ∈ G0 := mG 822 rfl rfl
set_option maxRecDepth 20000 in
theorem kh_33 : Cond.instanceMethod y_XDM_packed ∈ G0 := mG 823 rfl rfl
set_option maxRecDepth 20000 in
theorem kh_34 : Cond.selects RX_DM y_XDM_packed y_XDM_packed ∈ G0 := mG 824 rfl rfl
set_option maxRecDepth 20000 in
theorem kh_35 : Cond.methodLink RL 55 y_XDM_count ∈ G0 := mG 831 rfl rfl
set_option maxRecDepth 20000 in
theorem kh_36 : Cond.instanceMethod y_XDM_count ∈ G0 := mG 832 rfl rfl
set_option maxRecDepth 20000 in
theorem kh_37 : Cond.selects RX_DM y_XDM_count y_XDM_count ∈ G0 := mG 833 rfl rfl
def zPH {S : Type} (D : va_G) (cl : List vw_C) (ty : List (ClassId × FieldType)) (nw : List Cond) (sk : List (String × Nat × String × Nat)) (x : S → va_W) (av : List Value) (u : S) : Array Value → State → Prop := fun v U => v = av.toArray ∧ zW D cl ty nw x (fun _ => True) U u U.heap ∧ zEx sk (zA (x u)) U U.heap ∧ ∀ q ∈ ncL, va_Nc q.1 q.2 U
theorem zPH_blind {S : Type} {D : va_G} {cl : List vw_C} {ty : List (ClassId × FieldType)} {nw : List Cond} {sk : List (String × Nat × String × Nat)} {x : S → va_W} {av : List Value} {u : S} : FrameBlind (zPH D cl ty nw sk x av u) := by
  intro a U g mk q
  obtain ⟨q0, qW, qE, qN⟩ := q
  obtain ⟨r0, rW, rE⟩ := zPX_blind a U g mk (show zPX D cl ty nw sk x av u a U from ⟨q0, qW, qE⟩)
  exact ⟨r0, rW, rE, fun z hz => va_Nc.moved (u := U) (U := U.calling g mk a) (Vm.Alike.refl U.vm) (qN z hz)⟩
