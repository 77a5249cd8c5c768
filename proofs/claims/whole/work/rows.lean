section
-- ===== PART A: goes FIRST, ahead of the names: the tables' words, and 'selects' of the private methods out of them =====
/-- a private method of a class that the tables say can be made, by its rows of tables_1 -/
def lw_okq (q : MethodName × Nat) : Prop := (q.1.cls ≠ "java/lang/invoke/MethodHandle" ∧ q.1.cls ≠ "java/lang/invoke/VarHandle") ∧ Cond.instantiable q.1.cls q.2 ∈ tables_1 ∧ Cond.privateMethod q.1 ∈ tables_1 ∧ Cond.instanceMethod q.1 ∈ tables_1
theorem lw_p0 : lw_okq (⟨"java/lang/Throwable", "fillInStackTrace", "(I)Ljava/lang/Throwable;"⟩, 6) := ⟨⟨by decide +kernel, by decide +kernel⟩, List.mem_of_getElem? (i := 295) (by decide +kernel), List.mem_of_getElem? (i := 293) (by decide +kernel), List.mem_of_getElem? (i := 294) (by decide +kernel)⟩
theorem lw_p1 : lw_okq (⟨"DecimalMachine", "demandMemory", "(II)V"⟩, 2) := ⟨⟨by decide +kernel, by decide +kernel⟩, List.mem_of_getElem? (i := 21) (by decide +kernel), List.mem_of_getElem? (i := 325) (by decide +kernel), List.mem_of_getElem? (i := 326) (by decide +kernel)⟩
theorem lw_p2 : lw_okq (⟨"DecimalMachine$Instruction", "findAddresses", "(LDecimalMachine$State;I)V"⟩, 7) := ⟨⟨by decide +kernel, by decide +kernel⟩, List.mem_of_getElem? (i := 88) (by decide +kernel), List.mem_of_getElem? (i := 461) (by decide +kernel), List.mem_of_getElem? (i := 462) (by decide +kernel)⟩
theorem lw_p3 : lw_okq (⟨"DecimalMachine$Processor", "perform", "(LDecimalMachine$Instruction;)I"⟩, 10) := ⟨⟨by decide +kernel, by decide +kernel⟩, List.mem_of_getElem? (i := 82) (by decide +kernel), List.mem_of_getElem? (i := 470) (by decide +kernel), List.mem_of_getElem? (i := 471) (by decide +kernel)⟩
theorem lw_p4 : lw_okq (⟨"DecimalMachine$Branches", "decide", "(LDecimalMachine$Instruction;)Z"⟩, 1) := ⟨⟨by decide +kernel, by decide +kernel⟩, List.mem_of_getElem? (i := 161) (by decide +kernel), List.mem_of_getElem? (i := 480) (by decide +kernel), List.mem_of_getElem? (i := 481) (by decide +kernel)⟩
theorem lw_p5 : lw_okq (⟨"DecimalMachine$Branches", "isAboveAfterStep", "(LDecimalMachine$Instruction;)Z"⟩, 1) := ⟨⟨by decide +kernel, by decide +kernel⟩, List.mem_of_getElem? (i := 161) (by decide +kernel), List.mem_of_getElem? (i := 485) (by decide +kernel), List.mem_of_getElem? (i := 486) (by decide +kernel)⟩
theorem lw_p6 : lw_okq (⟨"DecimalMachine$Transfers", "store", "(LDecimalMachine$Instruction;I)I"⟩, 1) := ⟨⟨by decide +kernel, by decide +kernel⟩, List.mem_of_getElem? (i := 151) (by decide +kernel), List.mem_of_getElem? (i := 493) (by decide +kernel), List.mem_of_getElem? (i := 494) (by decide +kernel)⟩
theorem lw_p7 : lw_okq (⟨"DecimalMachine$Transfers", "insert", "(LDecimalMachine$Instruction;)I"⟩, 1) := ⟨⟨by decide +kernel, by decide +kernel⟩, List.mem_of_getElem? (i := 151) (by decide +kernel), List.mem_of_getElem? (i := 505) (by decide +kernel), List.mem_of_getElem? (i := 506) (by decide +kernel)⟩
theorem lw_p8 : lw_okq (⟨"DecimalMachine$Transfers", "several", "(LDecimalMachine$Instruction;)I"⟩, 1) := ⟨⟨by decide +kernel, by decide +kernel⟩, List.mem_of_getElem? (i := 151) (by decide +kernel), List.mem_of_getElem? (i := 511) (by decide +kernel), List.mem_of_getElem? (i := 512) (by decide +kernel)⟩
theorem lw_p9 : lw_okq (⟨"DecimalMachine$Arithmetic", "apply", "(III)I"⟩, 1) := ⟨⟨by decide +kernel, by decide +kernel⟩, List.mem_of_getElem? (i := 141) (by decide +kernel), List.mem_of_getElem? (i := 531) (by decide +kernel), List.mem_of_getElem? (i := 532) (by decide +kernel)⟩
theorem lw_p10 : lw_okq (⟨"DecimalMachine$Arithmetic", "putSigned", "(IJ)I"⟩, 1) := ⟨⟨by decide +kernel, by decide +kernel⟩, List.mem_of_getElem? (i := 141) (by decide +kernel), List.mem_of_getElem? (i := 538) (by decide +kernel), List.mem_of_getElem? (i := 539) (by decide +kernel)⟩
theorem lw_p11 : lw_okq (⟨"DecimalMachine$Arithmetic", "putBits", "(II)I"⟩, 1) := ⟨⟨by decide +kernel, by decide +kernel⟩, List.mem_of_getElem? (i := 141) (by decide +kernel), List.mem_of_getElem? (i := 550) (by decide +kernel), List.mem_of_getElem? (i := 551) (by decide +kernel)⟩
theorem lw_p12 : lw_okq (⟨"DecimalMachine$Arithmetic", "compare", "(JJ)I"⟩, 1) := ⟨⟨by decide +kernel, by decide +kernel⟩, List.mem_of_getElem? (i := 141) (by decide +kernel), List.mem_of_getElem? (i := 559) (by decide +kernel), List.mem_of_getElem? (i := 560) (by decide +kernel)⟩
theorem lw_p13 : lw_okq (⟨"DecimalMachine$Arithmetic", "load", "(II)I"⟩, 1) := ⟨⟨by decide +kernel, by decide +kernel⟩, List.mem_of_getElem? (i := 141) (by decide +kernel), List.mem_of_getElem? (i := 563) (by decide +kernel), List.mem_of_getElem? (i := 564) (by decide +kernel)⟩
theorem lw_p14 : lw_okq (⟨"DecimalMachine$Arithmetic", "multiply", "(II)I"⟩, 1) := ⟨⟨by decide +kernel, by decide +kernel⟩, List.mem_of_getElem? (i := 141) (by decide +kernel), List.mem_of_getElem? (i := 567) (by decide +kernel), List.mem_of_getElem? (i := 568) (by decide +kernel)⟩
theorem lw_p15 : lw_okq (⟨"DecimalMachine$Arithmetic", "divide", "(II)I"⟩, 1) := ⟨⟨by decide +kernel, by decide +kernel⟩, List.mem_of_getElem? (i := 141) (by decide +kernel), List.mem_of_getElem? (i := 571) (by decide +kernel), List.mem_of_getElem? (i := 572) (by decide +kernel)⟩
def lw_privs_1 : List (MethodName × Nat) := [(⟨"java/lang/Throwable", "fillInStackTrace", "(I)Ljava/lang/Throwable;"⟩, 6), (⟨"DecimalMachine", "demandMemory", "(II)V"⟩, 2), (⟨"DecimalMachine$Instruction", "findAddresses", "(LDecimalMachine$State;I)V"⟩, 7), (⟨"DecimalMachine$Processor", "perform", "(LDecimalMachine$Instruction;)I"⟩, 10), (⟨"DecimalMachine$Branches", "decide", "(LDecimalMachine$Instruction;)Z"⟩, 1), (⟨"DecimalMachine$Branches", "isAboveAfterStep", "(LDecimalMachine$Instruction;)Z"⟩, 1), (⟨"DecimalMachine$Transfers", "store", "(LDecimalMachine$Instruction;I)I"⟩, 1), (⟨"DecimalMachine$Transfers", "insert", "(LDecimalMachine$Instruction;)I"⟩, 1), (⟨"DecimalMachine$Transfers", "several", "(LDecimalMachine$Instruction;)I"⟩, 1), (⟨"DecimalMachine$Arithmetic", "apply", "(III)I"⟩, 1), (⟨"DecimalMachine$Arithmetic", "putSigned", "(IJ)I"⟩, 1), (⟨"DecimalMachine$Arithmetic", "putBits", "(II)I"⟩, 1), (⟨"DecimalMachine$Arithmetic", "compare", "(JJ)I"⟩, 1), (⟨"DecimalMachine$Arithmetic", "load", "(II)I"⟩, 1), (⟨"DecimalMachine$Arithmetic", "multiply", "(II)I"⟩, 1), (⟨"DecimalMachine$Arithmetic", "divide", "(II)I"⟩, 1)]
theorem lw_r1 : ∀ q ∈ lw_privs_1, lw_okq q := List.forall_mem_cons.mpr ⟨lw_p0, List.forall_mem_cons.mpr ⟨lw_p1, List.forall_mem_cons.mpr ⟨lw_p2, List.forall_mem_cons.mpr ⟨lw_p3, List.forall_mem_cons.mpr ⟨lw_p4, List.forall_mem_cons.mpr ⟨lw_p5, List.forall_mem_cons.mpr ⟨lw_p6, List.forall_mem_cons.mpr ⟨lw_p7, List.forall_mem_cons.mpr ⟨lw_p8, List.forall_mem_cons.mpr ⟨lw_p9, List.forall_mem_cons.mpr ⟨lw_p10, List.forall_mem_cons.mpr ⟨lw_p11, List.forall_mem_cons.mpr ⟨lw_p12, List.forall_mem_cons.mpr ⟨lw_p13, List.forall_mem_cons.mpr ⟨lw_p14, List.forall_mem_cons.mpr ⟨lw_p15, fun _ h => absurd h List.not_mem_nil⟩⟩⟩⟩⟩⟩⟩⟩⟩⟩⟩⟩⟩⟩⟩⟩
theorem lw_p16 : lw_okq (⟨"DecimalMachine$Arithmetic", "putUnsigned", "(IJ)I"⟩, 1) := ⟨⟨by decide +kernel, by decide +kernel⟩, List.mem_of_getElem? (i := 141) (by decide +kernel), List.mem_of_getElem? (i := 575) (by decide +kernel), List.mem_of_getElem? (i := 576) (by decide +kernel)⟩
theorem lw_p17 : lw_okq (⟨"DecimalMachine$Decimals", "convertToBinary", "(LDecimalMachine$Instruction;)I"⟩, 3) := ⟨⟨by decide +kernel, by decide +kernel⟩, List.mem_of_getElem? (i := 184) (by decide +kernel), List.mem_of_getElem? (i := 592) (by decide +kernel), List.mem_of_getElem? (i := 593) (by decide +kernel)⟩
theorem lw_p18 : lw_okq (⟨"DecimalMachine$Arithmetic", "shiftLeftBelowSign", "(II)I"⟩, 1) := ⟨⟨by decide +kernel, by decide +kernel⟩, List.mem_of_getElem? (i := 141) (by decide +kernel), List.mem_of_getElem? (i := 613) (by decide +kernel), List.mem_of_getElem? (i := 614) (by decide +kernel)⟩
theorem lw_p19 : lw_okq (⟨"DecimalMachine$Octets", "testBits", "(II)V"⟩, 2) := ⟨⟨by decide +kernel, by decide +kernel⟩, List.mem_of_getElem? (i := 171) (by decide +kernel), List.mem_of_getElem? (i := 625) (by decide +kernel), List.mem_of_getElem? (i := 626) (by decide +kernel)⟩
theorem lw_p20 : lw_okq (⟨"DecimalMachine$Octets", "putBits", "(II)I"⟩, 2) := ⟨⟨by decide +kernel, by decide +kernel⟩, List.mem_of_getElem? (i := 171) (by decide +kernel), List.mem_of_getElem? (i := 630) (by decide +kernel), List.mem_of_getElem? (i := 631) (by decide +kernel)⟩
theorem lw_p21 : lw_okq (⟨"DecimalMachine$Octets", "translate", "(LDecimalMachine$Instruction;I)I"⟩, 2) := ⟨⟨by decide +kernel, by decide +kernel⟩, List.mem_of_getElem? (i := 171) (by decide +kernel), List.mem_of_getElem? (i := 640) (by decide +kernel), List.mem_of_getElem? (i := 641) (by decide +kernel)⟩
theorem lw_p22 : lw_okq (⟨"DecimalMachine$Octets", "entry", "(LDecimalMachine$Instruction;I)I"⟩, 2) := ⟨⟨by decide +kernel, by decide +kernel⟩, List.mem_of_getElem? (i := 171) (by decide +kernel), List.mem_of_getElem? (i := 644) (by decide +kernel), List.mem_of_getElem? (i := 645) (by decide +kernel)⟩
theorem lw_p23 : lw_okq (⟨"DecimalMachine$Octets", "compare", "(LDecimalMachine$Instruction;I)I"⟩, 2) := ⟨⟨by decide +kernel, by decide +kernel⟩, List.mem_of_getElem? (i := 171) (by decide +kernel), List.mem_of_getElem? (i := 649) (by decide +kernel), List.mem_of_getElem? (i := 650) (by decide +kernel)⟩
theorem lw_p24 : lw_okq (⟨"DecimalMachine$Octets", "rewrite", "(LDecimalMachine$Instruction;I)I"⟩, 2) := ⟨⟨by decide +kernel, by decide +kernel⟩, List.mem_of_getElem? (i := 171) (by decide +kernel), List.mem_of_getElem? (i := 653) (by decide +kernel), List.mem_of_getElem? (i := 654) (by decide +kernel)⟩
theorem lw_p25 : lw_okq (⟨"DecimalMachine$Decimals", "sourceOctet", "(I)I"⟩, 3) := ⟨⟨by decide +kernel, by decide +kernel⟩, List.mem_of_getElem? (i := 184) (by decide +kernel), List.mem_of_getElem? (i := 666) (by decide +kernel), List.mem_of_getElem? (i := 667) (by decide +kernel)⟩
theorem lw_p26 : lw_okq (⟨"DecimalMachine$Decimals", "packRest", "(III)V"⟩, 3) := ⟨⟨by decide +kernel, by decide +kernel⟩, List.mem_of_getElem? (i := 184) (by decide +kernel), List.mem_of_getElem? (i := 671) (by decide +kernel), List.mem_of_getElem? (i := 672) (by decide +kernel)⟩
theorem lw_p27 : lw_okq (⟨"DecimalMachine$Decimals", "unpackRest", "(III)V"⟩, 3) := ⟨⟨by decide +kernel, by decide +kernel⟩, List.mem_of_getElem? (i := 184) (by decide +kernel), List.mem_of_getElem? (i := 675) (by decide +kernel), List.mem_of_getElem? (i := 676) (by decide +kernel)⟩
theorem lw_p28 : lw_okq (⟨"DecimalMachine$Decimals", "faultOfFields", "(LDecimalMachine$Instruction;II)I"⟩, 3) := ⟨⟨by decide +kernel, by decide +kernel⟩, List.mem_of_getElem? (i := 184) (by decide +kernel), List.mem_of_getElem? (i := 683) (by decide +kernel), List.mem_of_getElem? (i := 684) (by decide +kernel)⟩
theorem lw_p29 : lw_okq (⟨"DecimalMachine$Decimals", "startsWithZeros", "(II)Z"⟩, 3) := ⟨⟨by decide +kernel, by decide +kernel⟩, List.mem_of_getElem? (i := 184) (by decide +kernel), List.mem_of_getElem? (i := 687) (by decide +kernel), List.mem_of_getElem? (i := 688) (by decide +kernel)⟩
theorem lw_p30 : lw_okq (⟨"DecimalMachine$Decimals", "putSum", "(IIJ)I"⟩, 3) := ⟨⟨by decide +kernel, by decide +kernel⟩, List.mem_of_getElem? (i := 184) (by decide +kernel), List.mem_of_getElem? (i := 691) (by decide +kernel), List.mem_of_getElem? (i := 692) (by decide +kernel)⟩
theorem lw_p31 : lw_okq (⟨"DecimalMachine$Decimals", "multiply", "(LDecimalMachine$Instruction;II)I"⟩, 3) := ⟨⟨by decide +kernel, by decide +kernel⟩, List.mem_of_getElem? (i := 184) (by decide +kernel), List.mem_of_getElem? (i := 705) (by decide +kernel), List.mem_of_getElem? (i := 706) (by decide +kernel)⟩
def lw_privs_2 : List (MethodName × Nat) := [(⟨"DecimalMachine$Arithmetic", "putUnsigned", "(IJ)I"⟩, 1), (⟨"DecimalMachine$Decimals", "convertToBinary", "(LDecimalMachine$Instruction;)I"⟩, 3), (⟨"DecimalMachine$Arithmetic", "shiftLeftBelowSign", "(II)I"⟩, 1), (⟨"DecimalMachine$Octets", "testBits", "(II)V"⟩, 2), (⟨"DecimalMachine$Octets", "putBits", "(II)I"⟩, 2), (⟨"DecimalMachine$Octets", "translate", "(LDecimalMachine$Instruction;I)I"⟩, 2), (⟨"DecimalMachine$Octets", "entry", "(LDecimalMachine$Instruction;I)I"⟩, 2), (⟨"DecimalMachine$Octets", "compare", "(LDecimalMachine$Instruction;I)I"⟩, 2), (⟨"DecimalMachine$Octets", "rewrite", "(LDecimalMachine$Instruction;I)I"⟩, 2), (⟨"DecimalMachine$Decimals", "sourceOctet", "(I)I"⟩, 3), (⟨"DecimalMachine$Decimals", "packRest", "(III)V"⟩, 3), (⟨"DecimalMachine$Decimals", "unpackRest", "(III)V"⟩, 3), (⟨"DecimalMachine$Decimals", "faultOfFields", "(LDecimalMachine$Instruction;II)I"⟩, 3), (⟨"DecimalMachine$Decimals", "startsWithZeros", "(II)Z"⟩, 3), (⟨"DecimalMachine$Decimals", "putSum", "(IIJ)I"⟩, 3), (⟨"DecimalMachine$Decimals", "multiply", "(LDecimalMachine$Instruction;II)I"⟩, 3)]
theorem lw_r2 : ∀ q ∈ lw_privs_2, lw_okq q := List.forall_mem_cons.mpr ⟨lw_p16, List.forall_mem_cons.mpr ⟨lw_p17, List.forall_mem_cons.mpr ⟨lw_p18, List.forall_mem_cons.mpr ⟨lw_p19, List.forall_mem_cons.mpr ⟨lw_p20, List.forall_mem_cons.mpr ⟨lw_p21, List.forall_mem_cons.mpr ⟨lw_p22, List.forall_mem_cons.mpr ⟨lw_p23, List.forall_mem_cons.mpr ⟨lw_p24, List.forall_mem_cons.mpr ⟨lw_p25, List.forall_mem_cons.mpr ⟨lw_p26, List.forall_mem_cons.mpr ⟨lw_p27, List.forall_mem_cons.mpr ⟨lw_p28, List.forall_mem_cons.mpr ⟨lw_p29, List.forall_mem_cons.mpr ⟨lw_p30, List.forall_mem_cons.mpr ⟨lw_p31, fun _ h => absurd h List.not_mem_nil⟩⟩⟩⟩⟩⟩⟩⟩⟩⟩⟩⟩⟩⟩⟩⟩
theorem lw_p32 : lw_okq (⟨"DecimalMachine$Decimals", "divide", "(LDecimalMachine$Instruction;II)I"⟩, 3) := ⟨⟨by decide +kernel, by decide +kernel⟩, List.mem_of_getElem? (i := 184) (by decide +kernel), List.mem_of_getElem? (i := 710) (by decide +kernel), List.mem_of_getElem? (i := 711) (by decide +kernel)⟩
theorem lw_p33 : lw_okq (⟨"DecimalMachine$Processor", "performRegular", "(LDecimalMachine$Instruction;)I"⟩, 10) := ⟨⟨by decide +kernel, by decide +kernel⟩, List.mem_of_getElem? (i := 82) (by decide +kernel), List.mem_of_getElem? (i := 714) (by decide +kernel), List.mem_of_getElem? (i := 715) (by decide +kernel)⟩
theorem lw_p34 : lw_okq (⟨"DecimalMachineModel", "fails", "(ZI)Z"⟩, 22) := ⟨⟨by decide +kernel, by decide +kernel⟩, List.mem_of_getElem? (i := 767) (by decide +kernel), List.mem_of_getElem? (i := 852) (by decide +kernel), List.mem_of_getElem? (i := 853) (by decide +kernel)⟩
theorem lw_p35 : lw_okq (⟨"DecimalMachineModel", "store", "(IIJ)V"⟩, 22) := ⟨⟨by decide +kernel, by decide +kernel⟩, List.mem_of_getElem? (i := 767) (by decide +kernel), List.mem_of_getElem? (i := 859) (by decide +kernel), List.mem_of_getElem? (i := 860) (by decide +kernel)⟩
theorem lw_p36 : lw_okq (⟨"DecimalMachineModel", "decodes", "()V"⟩, 22) := ⟨⟨by decide +kernel, by decide +kernel⟩, List.mem_of_getElem? (i := 767) (by decide +kernel), List.mem_of_getElem? (i := 905) (by decide +kernel), List.mem_of_getElem? (i := 906) (by decide +kernel)⟩
theorem lw_p37 : lw_okq (⟨"DecimalMachineModel", "wrong", "(ZI)V"⟩, 22) := ⟨⟨by decide +kernel, by decide +kernel⟩, List.mem_of_getElem? (i := 767) (by decide +kernel), List.mem_of_getElem? (i := 909) (by decide +kernel), List.mem_of_getElem? (i := 910) (by decide +kernel)⟩
theorem lw_p38 : lw_okq (⟨"DecimalMachineModel", "based", "(I)I"⟩, 22) := ⟨⟨by decide +kernel, by decide +kernel⟩, List.mem_of_getElem? (i := 767) (by decide +kernel), List.mem_of_getElem? (i := 933) (by decide +kernel), List.mem_of_getElem? (i := 934) (by decide +kernel)⟩
theorem lw_p39 : lw_okq (⟨"DecimalMachineModel", "take", "(II)J"⟩, 22) := ⟨⟨by decide +kernel, by decide +kernel⟩, List.mem_of_getElem? (i := 767) (by decide +kernel), List.mem_of_getElem? (i := 937) (by decide +kernel), List.mem_of_getElem? (i := 938) (by decide +kernel)⟩
theorem lw_p40 : lw_okq (⟨"DecimalMachineModel", "looks", "()V"⟩, 22) := ⟨⟨by decide +kernel, by decide +kernel⟩, List.mem_of_getElem? (i := 767) (by decide +kernel), List.mem_of_getElem? (i := 943) (by decide +kernel), List.mem_of_getElem? (i := 944) (by decide +kernel)⟩
theorem lw_p41 : lw_okq (⟨"DecimalMachineModel", "low", "()I"⟩, 22) := ⟨⟨by decide +kernel, by decide +kernel⟩, List.mem_of_getElem? (i := 767) (by decide +kernel), List.mem_of_getElem? (i := 947) (by decide +kernel), List.mem_of_getElem? (i := 948) (by decide +kernel)⟩
theorem lw_p42 : lw_okq (⟨"DecimalMachineModel", "high", "()I"⟩, 22) := ⟨⟨by decide +kernel, by decide +kernel⟩, List.mem_of_getElem? (i := 767) (by decide +kernel), List.mem_of_getElem? (i := 951) (by decide +kernel), List.mem_of_getElem? (i := 952) (by decide +kernel)⟩
theorem lw_p43 : lw_okq (⟨"DecimalMachineModel", "divides", "(I)Z"⟩, 22) := ⟨⟨by decide +kernel, by decide +kernel⟩, List.mem_of_getElem? (i := 767) (by decide +kernel), List.mem_of_getElem? (i := 955) (by decide +kernel), List.mem_of_getElem? (i := 956) (by decide +kernel)⟩
theorem lw_p44 : lw_okq (⟨"DecimalMachineModel", "looksAtWord", "()V"⟩, 22) := ⟨⟨by decide +kernel, by decide +kernel⟩, List.mem_of_getElem? (i := 767) (by decide +kernel), List.mem_of_getElem? (i := 962) (by decide +kernel), List.mem_of_getElem? (i := 963) (by decide +kernel)⟩
theorem lw_p45 : lw_okq (⟨"DecimalMachineModel", "width", "()I"⟩, 22) := ⟨⟨by decide +kernel, by decide +kernel⟩, List.mem_of_getElem? (i := 767) (by decide +kernel), List.mem_of_getElem? (i := 966) (by decide +kernel), List.mem_of_getElem? (i := 967) (by decide +kernel)⟩
theorem lw_p46 : lw_okq (⟨"DecimalMachineModel", "packs", "(II[I)Z"⟩, 22) := ⟨⟨by decide +kernel, by decide +kernel⟩, List.mem_of_getElem? (i := 767) (by decide +kernel), List.mem_of_getElem? (i := 971) (by decide +kernel), List.mem_of_getElem? (i := 972) (by decide +kernel)⟩
theorem lw_p47 : lw_okq (⟨"DecimalMachineModel", "isMinus", "(II)Z"⟩, 22) := ⟨⟨by decide +kernel, by decide +kernel⟩, List.mem_of_getElem? (i := 767) (by decide +kernel), List.mem_of_getElem? (i := 975) (by decide +kernel), List.mem_of_getElem? (i := 976) (by decide +kernel)⟩
def lw_privs_3 : List (MethodName × Nat) := [(⟨"DecimalMachine$Decimals", "divide", "(LDecimalMachine$Instruction;II)I"⟩, 3), (⟨"DecimalMachine$Processor", "performRegular", "(LDecimalMachine$Instruction;)I"⟩, 10), (⟨"DecimalMachineModel", "fails", "(ZI)Z"⟩, 22), (⟨"DecimalMachineModel", "store", "(IIJ)V"⟩, 22), (⟨"DecimalMachineModel", "decodes", "()V"⟩, 22), (⟨"DecimalMachineModel", "wrong", "(ZI)V"⟩, 22), (⟨"DecimalMachineModel", "based", "(I)I"⟩, 22), (⟨"DecimalMachineModel", "take", "(II)J"⟩, 22), (⟨"DecimalMachineModel", "looks", "()V"⟩, 22), (⟨"DecimalMachineModel", "low", "()I"⟩, 22), (⟨"DecimalMachineModel", "high", "()I"⟩, 22), (⟨"DecimalMachineModel", "divides", "(I)Z"⟩, 22), (⟨"DecimalMachineModel", "looksAtWord", "()V"⟩, 22), (⟨"DecimalMachineModel", "width", "()I"⟩, 22), (⟨"DecimalMachineModel", "packs", "(II[I)Z"⟩, 22), (⟨"DecimalMachineModel", "isMinus", "(II)Z"⟩, 22)]
theorem lw_r3 : ∀ q ∈ lw_privs_3, lw_okq q := List.forall_mem_cons.mpr ⟨lw_p32, List.forall_mem_cons.mpr ⟨lw_p33, List.forall_mem_cons.mpr ⟨lw_p34, List.forall_mem_cons.mpr ⟨lw_p35, List.forall_mem_cons.mpr ⟨lw_p36, List.forall_mem_cons.mpr ⟨lw_p37, List.forall_mem_cons.mpr ⟨lw_p38, List.forall_mem_cons.mpr ⟨lw_p39, List.forall_mem_cons.mpr ⟨lw_p40, List.forall_mem_cons.mpr ⟨lw_p41, List.forall_mem_cons.mpr ⟨lw_p42, List.forall_mem_cons.mpr ⟨lw_p43, List.forall_mem_cons.mpr ⟨lw_p44, List.forall_mem_cons.mpr ⟨lw_p45, List.forall_mem_cons.mpr ⟨lw_p46, List.forall_mem_cons.mpr ⟨lw_p47, fun _ h => absurd h List.not_mem_nil⟩⟩⟩⟩⟩⟩⟩⟩⟩⟩⟩⟩⟩⟩⟩⟩
theorem lw_p48 : lw_okq (⟨"DecimalMachineModel", "translates", "(I)Z"⟩, 22) := ⟨⟨by decide +kernel, by decide +kernel⟩, List.mem_of_getElem? (i := 767) (by decide +kernel), List.mem_of_getElem? (i := 983) (by decide +kernel), List.mem_of_getElem? (i := 984) (by decide +kernel)⟩
theorem lw_p49 : lw_okq (⟨"DecimalMachineModel", "looksAtDigits", "(II)V"⟩, 22) := ⟨⟨by decide +kernel, by decide +kernel⟩, List.mem_of_getElem? (i := 767) (by decide +kernel), List.mem_of_getElem? (i := 987) (by decide +kernel), List.mem_of_getElem? (i := 988) (by decide +kernel)⟩
theorem lw_p50 : lw_okq (⟨"DecimalMachineModel", "quotient", "(I)Z"⟩, 22) := ⟨⟨by decide +kernel, by decide +kernel⟩, List.mem_of_getElem? (i := 767) (by decide +kernel), List.mem_of_getElem? (i := 994) (by decide +kernel), List.mem_of_getElem? (i := 995) (by decide +kernel)⟩
theorem lw_p51 : lw_okq (⟨"DecimalMachineModel", "notBelow", "()Z"⟩, 22) := ⟨⟨by decide +kernel, by decide +kernel⟩, List.mem_of_getElem? (i := 767) (by decide +kernel), List.mem_of_getElem? (i := 998) (by decide +kernel), List.mem_of_getElem? (i := 999) (by decide +kernel)⟩
theorem lw_p52 : lw_okq (⟨"DecimalMachineModel", "acts", "()V"⟩, 22) := ⟨⟨by decide +kernel, by decide +kernel⟩, List.mem_of_getElem? (i := 767) (by decide +kernel), List.mem_of_getElem? (i := 1005) (by decide +kernel), List.mem_of_getElem? (i := 1006) (by decide +kernel)⟩
theorem lw_p53 : lw_okq (⟨"DecimalMachineModel", "registers", "(I)V"⟩, 22) := ⟨⟨by decide +kernel, by decide +kernel⟩, List.mem_of_getElem? (i := 767) (by decide +kernel), List.mem_of_getElem? (i := 1009) (by decide +kernel), List.mem_of_getElem? (i := 1010) (by decide +kernel)⟩
theorem lw_p54 : lw_okq (⟨"DecimalMachineModel", "goes", "(ZI)V"⟩, 22) := ⟨⟨by decide +kernel, by decide +kernel⟩, List.mem_of_getElem? (i := 767) (by decide +kernel), List.mem_of_getElem? (i := 1013) (by decide +kernel), List.mem_of_getElem? (i := 1014) (by decide +kernel)⟩
theorem lw_p55 : lw_okq (⟨"DecimalMachineModel", "holds", "(I)Z"⟩, 22) := ⟨⟨by decide +kernel, by decide +kernel⟩, List.mem_of_getElem? (i := 767) (by decide +kernel), List.mem_of_getElem? (i := 1017) (by decide +kernel), List.mem_of_getElem? (i := 1018) (by decide +kernel)⟩
theorem lw_p56 : lw_okq (⟨"DecimalMachineModel", "exact", "(IJ)V"⟩, 22) := ⟨⟨by decide +kernel, by decide +kernel⟩, List.mem_of_getElem? (i := 767) (by decide +kernel), List.mem_of_getElem? (i := 1021) (by decide +kernel), List.mem_of_getElem? (i := 1022) (by decide +kernel)⟩
theorem lw_p57 : lw_okq (⟨"DecimalMachineModel", "reckons", "(III)V"⟩, 22) := ⟨⟨by decide +kernel, by decide +kernel⟩, List.mem_of_getElem? (i := 767) (by decide +kernel), List.mem_of_getElem? (i := 1028) (by decide +kernel), List.mem_of_getElem? (i := 1029) (by decide +kernel)⟩
theorem lw_p58 : lw_okq (⟨"DecimalMachineModel", "plain", "(IJ)V"⟩, 22) := ⟨⟨by decide +kernel, by decide +kernel⟩, List.mem_of_getElem? (i := 767) (by decide +kernel), List.mem_of_getElem? (i := 1038) (by decide +kernel), List.mem_of_getElem? (i := 1039) (by decide +kernel)⟩
theorem lw_p59 : lw_okq (⟨"DecimalMachineModel", "indexed", "(I)V"⟩, 22) := ⟨⟨by decide +kernel, by decide +kernel⟩, List.mem_of_getElem? (i := 767) (by decide +kernel), List.mem_of_getElem? (i := 1042) (by decide +kernel), List.mem_of_getElem? (i := 1043) (by decide +kernel)⟩
theorem lw_p60 : lw_okq (⟨"DecimalMachineModel", "unpacks", "(II[IZ)V"⟩, 22) := ⟨⟨by decide +kernel, by decide +kernel⟩, List.mem_of_getElem? (i := 767) (by decide +kernel), List.mem_of_getElem? (i := 1046) (by decide +kernel), List.mem_of_getElem? (i := 1047) (by decide +kernel)⟩
theorem lw_p61 : lw_okq (⟨"DecimalMachineModel", "others", "(I)V"⟩, 22) := ⟨⟨by decide +kernel, by decide +kernel⟩, List.mem_of_getElem? (i := 767) (by decide +kernel), List.mem_of_getElem? (i := 1050) (by decide +kernel), List.mem_of_getElem? (i := 1051) (by decide +kernel)⟩
theorem lw_p62 : lw_okq (⟨"DecimalMachineModel", "left", "(III)V"⟩, 22) := ⟨⟨by decide +kernel, by decide +kernel⟩, List.mem_of_getElem? (i := 767) (by decide +kernel), List.mem_of_getElem? (i := 1054) (by decide +kernel), List.mem_of_getElem? (i := 1055) (by decide +kernel)⟩
theorem lw_p63 : lw_okq (⟨"DecimalMachineModel", "immediate", "()V"⟩, 22) := ⟨⟨by decide +kernel, by decide +kernel⟩, List.mem_of_getElem? (i := 767) (by decide +kernel), List.mem_of_getElem? (i := 1060) (by decide +kernel), List.mem_of_getElem? (i := 1061) (by decide +kernel)⟩
def lw_privs_4 : List (MethodName × Nat) := [(⟨"DecimalMachineModel", "translates", "(I)Z"⟩, 22), (⟨"DecimalMachineModel", "looksAtDigits", "(II)V"⟩, 22), (⟨"DecimalMachineModel", "quotient", "(I)Z"⟩, 22), (⟨"DecimalMachineModel", "notBelow", "()Z"⟩, 22), (⟨"DecimalMachineModel", "acts", "()V"⟩, 22), (⟨"DecimalMachineModel", "registers", "(I)V"⟩, 22), (⟨"DecimalMachineModel", "goes", "(ZI)V"⟩, 22), (⟨"DecimalMachineModel", "holds", "(I)Z"⟩, 22), (⟨"DecimalMachineModel", "exact", "(IJ)V"⟩, 22), (⟨"DecimalMachineModel", "reckons", "(III)V"⟩, 22), (⟨"DecimalMachineModel", "plain", "(IJ)V"⟩, 22), (⟨"DecimalMachineModel", "indexed", "(I)V"⟩, 22), (⟨"DecimalMachineModel", "unpacks", "(II[IZ)V"⟩, 22), (⟨"DecimalMachineModel", "others", "(I)V"⟩, 22), (⟨"DecimalMachineModel", "left", "(III)V"⟩, 22), (⟨"DecimalMachineModel", "immediate", "()V"⟩, 22)]
theorem lw_r4 : ∀ q ∈ lw_privs_4, lw_okq q := List.forall_mem_cons.mpr ⟨lw_p48, List.forall_mem_cons.mpr ⟨lw_p49, List.forall_mem_cons.mpr ⟨lw_p50, List.forall_mem_cons.mpr ⟨lw_p51, List.forall_mem_cons.mpr ⟨lw_p52, List.forall_mem_cons.mpr ⟨lw_p53, List.forall_mem_cons.mpr ⟨lw_p54, List.forall_mem_cons.mpr ⟨lw_p55, List.forall_mem_cons.mpr ⟨lw_p56, List.forall_mem_cons.mpr ⟨lw_p57, List.forall_mem_cons.mpr ⟨lw_p58, List.forall_mem_cons.mpr ⟨lw_p59, List.forall_mem_cons.mpr ⟨lw_p60, List.forall_mem_cons.mpr ⟨lw_p61, List.forall_mem_cons.mpr ⟨lw_p62, List.forall_mem_cons.mpr ⟨lw_p63, fun _ h => absurd h List.not_mem_nil⟩⟩⟩⟩⟩⟩⟩⟩⟩⟩⟩⟩⟩⟩⟩⟩
theorem lw_p64 : lw_okq (⟨"DecimalMachineModel", "octets", "()V"⟩, 22) := ⟨⟨by decide +kernel, by decide +kernel⟩, List.mem_of_getElem? (i := 767) (by decide +kernel), List.mem_of_getElem? (i := 1064) (by decide +kernel), List.mem_of_getElem? (i := 1065) (by decide +kernel)⟩
theorem lw_p65 : lw_okq (⟨"DecimalMachineModel", "shifts", "()V"⟩, 22) := ⟨⟨by decide +kernel, by decide +kernel⟩, List.mem_of_getElem? (i := 767) (by decide +kernel), List.mem_of_getElem? (i := 1068) (by decide +kernel), List.mem_of_getElem? (i := 1069) (by decide +kernel)⟩
theorem lw_p66 : lw_okq (⟨"DecimalMachineModel", "digits", "()V"⟩, 22) := ⟨⟨by decide +kernel, by decide +kernel⟩, List.mem_of_getElem? (i := 767) (by decide +kernel), List.mem_of_getElem? (i := 1072) (by decide +kernel), List.mem_of_getElem? (i := 1073) (by decide +kernel)⟩
theorem lw_p67 : lw_okq (⟨"DecimalMachineModel", "decimal", "(IZ)V"⟩, 22) := ⟨⟨by decide +kernel, by decide +kernel⟩, List.mem_of_getElem? (i := 767) (by decide +kernel), List.mem_of_getElem? (i := 1076) (by decide +kernel), List.mem_of_getElem? (i := 1077) (by decide +kernel)⟩
theorem lw_p68 : lw_okq (⟨"DecimalMachineModel", "together", "(IZZ)V"⟩, 22) := ⟨⟨by decide +kernel, by decide +kernel⟩, List.mem_of_getElem? (i := 767) (by decide +kernel), List.mem_of_getElem? (i := 1080) (by decide +kernel), List.mem_of_getElem? (i := 1081) (by decide +kernel)⟩
def lw_privs_5 : List (MethodName × Nat) := [(⟨"DecimalMachineModel", "octets", "()V"⟩, 22), (⟨"DecimalMachineModel", "shifts", "()V"⟩, 22), (⟨"DecimalMachineModel", "digits", "()V"⟩, 22), (⟨"DecimalMachineModel", "decimal", "(IZ)V"⟩, 22), (⟨"DecimalMachineModel", "together", "(IZZ)V"⟩, 22)]
theorem lw_r5 : ∀ q ∈ lw_privs_5, lw_okq q := List.forall_mem_cons.mpr ⟨lw_p64, List.forall_mem_cons.mpr ⟨lw_p65, List.forall_mem_cons.mpr ⟨lw_p66, List.forall_mem_cons.mpr ⟨lw_p67, List.forall_mem_cons.mpr ⟨lw_p68, fun _ h => absurd h List.not_mem_nil⟩⟩⟩⟩⟩
def lw_privs : List (MethodName × Nat) := lw_privs_1 ++ (lw_privs_2 ++ (lw_privs_3 ++ (lw_privs_4 ++ (lw_privs_5))))
def lw_tbl : List Cond := k2_sels lw_privs ++ tables_1
theorem lw_privs_ok : ∀ q ∈ lw_privs, lw_okq q := by
  show ∀ q ∈ lw_privs_1 ++ (lw_privs_2 ++ (lw_privs_3 ++ (lw_privs_4 ++ (lw_privs_5)))), lw_okq q
  exact List.forall_mem_append.mpr ⟨lw_r1, List.forall_mem_append.mpr ⟨lw_r2, List.forall_mem_append.mpr ⟨lw_r3, List.forall_mem_append.mpr ⟨lw_r4, lw_r5⟩⟩⟩⟩
end
section
/-! own words for pure functions that follow the code: a name, a pair, a meeting point, a loop -/
def bI (b : Bool) : Int32 := match b with
  | true => 1
  | false => 0
theorem nar_bI (b : Bool) : narrow .boolean (.int (bI b)) = .int (bI b) := by cases b <;> rfl
def nm {α β : Type} (e : α) (k : α → β) : β := k e
def pr {α β γ : Type} (e : α × β) (k : α → β → γ) : γ := k e.1 e.2
def jn {α β : Type} (t : α → β) (k : α) : β := t k
def lpN {α : Type} : Nat → (α → α) → α → α
  | 0, _, d => d
  | n + 1, B, d => B (lpN n B d)
theorem nm_eq {α β : Type} {x e : α} {k : α → β} (h : x = e) : nm e k = k x := by rw [h]; rfl
theorem pr_eq {α β γ : Type} {r : α} {u : β} {e : α × β} {k : α → β → γ} (h : (r, u) = e) : pr e k = k r u := by rw [← h]; rfl
theorem jn_cut {α β : Type} {t : α → β} {k : α} {F : β} {G : Prop} (hf : F = jn t k) (J : α → Prop) (h1 : J k) (h2 : ∀ K, J K → F = t K → G) : G := h2 k h1 hf
theorem lp_cut {α : Type} {B : α → α} {d : α} (J : Nat → α → Prop) (h0 : J 0 d) (hs : ∀ n L, J n L → J (n + 1) (B L)) : ∀ n, J n (lpN n B d)
  | 0 => h0
  | n + 1 => hs n _ (lp_cut J h0 hs n)
theorem z_inc {i b : Int32} (c : i.toInt < b.toInt) : (i + 1).toInt = i.toInt + 1 := by
  have h1 := i.le_toInt
  have h2 := b.toInt_lt
  have h3 : (1 : Int32).toInt = 1 := by decide
  rw [Int32.toInt_add, h3]
  exact Int.bmod_eq_of_le (by omega) (by omega)
theorem z_dec {i : Int32} (c : 0 ≤ i.toInt) : (i + (-1)).toInt = i.toInt - 1 := by
  have h2 := i.toInt_lt
  have h3 : (-1 : Int32).toInt = -1 := by decide
  rw [Int32.toInt_add, h3]
  rw [Int.bmod_eq_of_le (by omega) (by omega)]
  omega
theorem mu_up {i b x : Int32} {n : Nat} (c : ¬ b ≤ i) (e : x = i + 1) (h : (b.toInt - i.toInt).toNat < n + 1) : (b.toInt - x.toInt).toNat < n := by
  rw [Int32.le_iff_toInt_le] at c
  have h1 := z_inc (i := i) (b := b) (by omega)
  subst e
  omega
theorem inv_up {i b x : Int32} (c : ¬ b ≤ i) (e : x = i + 1) (h : ¬ i < 0) : ¬ x < 0 := by
  rw [Int32.le_iff_toInt_le] at c
  rw [Int32.lt_iff_toInt_lt] at h ⊢
  have h0 : (0 : Int32).toInt = 0 := by decide
  have h1 := z_inc (i := i) (b := b) (by omega)
  subst e
  omega
theorem mu_dn {i x : Int32} {n : Nat} (c : ¬ i < 0) (e : x = i + (-1)) (h : (i.toInt + 1).toNat < n + 1) : (x.toInt + 1).toNat < n := by
  rw [Int32.lt_iff_toInt_lt] at c
  have h0 : (0 : Int32).toInt = 0 := by decide
  have h1 := z_dec (i := i) (by omega)
  subst e
  omega
theorem z_in1024 {i : Int32} (h0 : ¬ i < 0) (h1 : ¬ 1024 ≤ i) : vp_in i 1024 := by
  rw [vp_in_iff]
  rw [Int32.lt_iff_toInt_lt] at h0
  rw [Int32.le_iff_toInt_le] at h1
  have e0 : (0 : Int32).toInt = 0 := by decide
  have e1 : (1024 : Int32).toInt = 1024 := by decide
  omega
theorem z_in16 {i : Int32} (h0 : ¬ i < 0) (h1 : ¬ 16 ≤ i) : vp_in i 16 := by
  rw [vp_in_iff]
  rw [Int32.lt_iff_toInt_lt] at h0
  rw [Int32.le_iff_toInt_le] at h1
  have e0 : (0 : Int32).toInt = 0 := by decide
  have e1 : (16 : Int32).toInt = 16 := by decide
  omega
theorem z_in15 (x : Int32) : vp_in (x &&& 15) 16 := pk_andIn x 4 (by decide) (by decide)
/-! the world of a side: what its cells are at the pure state u -/
def zNest (w : Cond) : Bool := match w with
  | .fieldLinkNest .. => true
  | .methodLinkNest .. => true
  | _ => false
theorem zNest_warm {w : Cond} {s U : State} (h : zNest w = true) (hW : s.WarmedH U.vm) (hz : va_Nw w s) : va_Nw w U := by
  cases w <;> first | exact va_Nw.warmF hW hz | exact va_Nw.warmM hW hz | cases h
theorem zNest_same {w : Cond} {s U : State} (h : zNest w = true) (hv : s.vm = U.vm) (hz : va_Nw w s) : va_Nw w U := by
  cases w <;> first | exact va_Nw.same rfl hv hz | cases h
def zA (ws : va_W) : Nat → Prop := fun q => ∃ (k : Nat) (x : va_E), ws[k]? = some (q, x)
def zW {S : Type} (D : va_G) (cl : List vw_C) (ty : List (ClassId × FieldType)) (nw : List Cond) (x : S → va_W) (A : Nat → Prop) (U : State) (u : S) (H : Heap) : Prop :=
  va_P D cl (x u) H ∧ va_K D cl ty U ∧ va_D A (x u) ∧ ∀ w ∈ nw, zNest w = true ∧ va_Nw w U
def zP {S : Type} (D : va_G) (cl : List vw_C) (ty : List (ClassId × FieldType)) (nw : List Cond) (x : S → va_W) (av : List Value) (u : S) : Array Value → State → Prop := fun v U => v = av.toArray ∧ zW D cl ty nw x (fun _ => True) U u U.heap
def zQR (V : Value) : Array Value → State → Outcome → State → Prop := fun _ st oc t => oc = .returned (some V) ∧ t.heap = st.heap
def zQ {S : Type} (D : va_G) (cl : List vw_C) (x : S → va_W) (u : S) (V : Option Value) (U' : S) : Array Value → State → Outcome → State → Prop := fun _ st oc t => oc = .returned V ∧ (va_P D cl (x U') t.heap ∧ va_D (zA (x u)) (x U')) ∧ va_F (zA (x u)) st t
def zR {S : Type} (l : Launch) (y : MethodName) (ws : List Cond) (rm : Room) (D : va_G) (cl : List vw_C) (ty : List (ClassId × FieldType)) (nw : List Cond) (x : S → va_W) (av : List Value) (u : S) (V : Value) : Prop := Met l y ws rm (zP D cl ty nw x av u) (zQR V) 0 0 (fun _ => False)
def zRi {S : Type} (l : Launch) (y : MethodName) (ws : List Cond) (rm : Room) (D : va_G) (cl : List vw_C) (ty : List (ClassId × FieldType)) (nw : List Cond) (x : S → va_W) (av : List Value) (u : S) (F : Int32) : Prop := zR l y ws rm D cl ty nw x av u (.int F)
def zRz {S : Type} (l : Launch) (y : MethodName) (ws : List Cond) (rm : Room) (D : va_G) (cl : List vw_C) (ty : List (ClassId × FieldType)) (nw : List Cond) (x : S → va_W) (av : List Value) (u : S) (F : Bool) : Prop := zR l y ws rm D cl ty nw x av u (.int (bI F))
def zRl {S : Type} (l : Launch) (y : MethodName) (ws : List Cond) (rm : Room) (D : va_G) (cl : List vw_C) (ty : List (ClassId × FieldType)) (nw : List Cond) (x : S → va_W) (av : List Value) (u : S) (F : Int64) : Prop := zR l y ws rm D cl ty nw x av u (.long F)
def zM {S : Type} (l : Launch) (y : MethodName) (ws : List Cond) (rm : Room) (D : va_G) (cl : List vw_C) (ty : List (ClassId × FieldType)) (nw : List Cond) (x : S → va_W) (av : List Value) (u : S) (V : Option Value) (U' : S) : Prop := Met l y ws rm (zP D cl ty nw x av u) (zQ D cl x u V U') 0 0 (zA (x u))
def zMi {S : Type} (l : Launch) (y : MethodName) (ws : List Cond) (rm : Room) (D : va_G) (cl : List vw_C) (ty : List (ClassId × FieldType)) (nw : List Cond) (x : S → va_W) (av : List Value) (u : S) (F : Int32 × S) : Prop := zM l y ws rm D cl ty nw x av u (some (.int F.1)) F.2
def zMz {S : Type} (l : Launch) (y : MethodName) (ws : List Cond) (rm : Room) (D : va_G) (cl : List vw_C) (ty : List (ClassId × FieldType)) (nw : List Cond) (x : S → va_W) (av : List Value) (u : S) (F : Bool × S) : Prop := zM l y ws rm D cl ty nw x av u (some (.int (bI F.1))) F.2
def zMl {S : Type} (l : Launch) (y : MethodName) (ws : List Cond) (rm : Room) (D : va_G) (cl : List vw_C) (ty : List (ClassId × FieldType)) (nw : List Cond) (x : S → va_W) (av : List Value) (u : S) (F : Int64 × S) : Prop := zM l y ws rm D cl ty nw x av u (some (.long F.1)) F.2
def zMv {S : Type} (l : Launch) (y : MethodName) (ws : List Cond) (rm : Room) (D : va_G) (cl : List vw_C) (ty : List (ClassId × FieldType)) (nw : List Cond) (x : S → va_W) (av : List Value) (u : S) (F : S) : Prop := zM l y ws rm D cl ty nw x av u none F
theorem zW_at {S : Type} {D : va_G} {cl : List vw_C} {ty : List (ClassId × FieldType)} {nw : List Cond} {x : S → va_W} {A : Nat → Prop} {s U : State} {u : S} {H : Heap} (h : zW D cl ty nw x A s u H) (hU : U.heap = H) (hW : s.WarmedH U.vm) : zW D cl ty nw x (fun _ => True) U u U.heap :=
  ⟨by rw [hU]; exact h.1, va_K.moved hW.alike h.2.1, h.2.2.1.weaken (fun _ _ _ _ => trivial), fun w hw => ⟨(h.2.2.2 w hw).1, zNest_warm (h.2.2.2 w hw).1 hW (h.2.2.2 w hw).2⟩⟩
theorem zP_blind {S : Type} {D : va_G} {cl : List vw_C} {ty : List (ClassId × FieldType)} {nw : List Cond} {x : S → va_W} {av : List Value} {u : S} : FrameBlind (zP D cl ty nw x av u) := by
  intro a U g mk q
  obtain ⟨q0, qP, qK, qD, qN⟩ := q
  exact ⟨q0, qP, va_K.moved (u := U) (U := U.calling g mk a) (Vm.Alike.refl U.vm) qK, qD, fun w hw => ⟨(qN w hw).1, zNest_same (s := U) (U := U.calling g mk a) (qN w hw).1 rfl (qN w hw).2⟩⟩
section ZC
variable {p : Program} {l : Launch} {e : Env} {R : Room} {s : State} {m : MethodId} {args : Array Value} {below : List Frame} {meth : Method} {c : Code} {H : Heap} {locs : List Loc} {cells slots : Nat} {Q : State → Prop}
variable {cc : ByteArray} {pc : Nat} {ls : Array Slot} {rest st0 : List Value} {S : Type} {D : va_G} {cl : List vw_C} {ty : List (ClassId × FieldType)} {nw : List Cond} {x : S → va_W} {A : Nat → Prop} {u : S} {H0 : Heap} {a : Array Value}
variable {y : MethodName} {bytes : ByteArray} {maxL nL n index : Nat} {ret : Option FieldType} {ws : List Cond} {rm : Room} {Qc : Array Value → State → Outcome → State → Prop} {free : Addr → Prop} {Ts : List Cond} {own C : String} {b : Addr} {As : List Value}
theorem z_topz {z : Bool} (k : ∀ y : Bool, y = z → W p l e R s m args below meth c H locs cells slots Q (F0 m pc ls (.int (bI y) :: rest))) : W p l e R s m args below meth c H locs cells slots Q (F0 m pc ls (.int (bI z) :: rest)) := k z rfl
theorem z_runV (Sx : CallFix p m c cc nL s args Ts own) (hM : Met l y ws rm (zP D cl ty nw x (.ref b :: As) u) Qc 0 0 free) (cw : CallW R s args own C index y bytes maxL ret ws rm 0 0 n) (hw : zW D cl ty nw x A s u H) (q0 : Nat) {ci N : Nat} {fs : List Value} {T : u_T} (he : (x u)[q0]? = some (b, .inr (ci, fs))) (hc : cl[ci]? = some (C, T, N))
    (hsize : ls.size = nL) (hstack : st0 = As.reverse ++ .ref b :: rest) (hW : 2 * (F0 m pc ls st0).monitorRoom + (rest.map fun v => v.category).sum ≤ 8) (hdg : decode cc pc = .ok (.invokevirtual index, 3)) (hcs : cells ≤ R.cells ∧ slots ≤ R.slots) (hn : As.length = n := by rfl) :
    va_Run p l e R s m args below meth c H locs cells slots 0 0 (F0 m pc ls st0) rest (Qc (Value.ref b :: As).toArray) free :=
  va_runV Sx hM cw ⟨zP_blind, va_recv hw.2.1 hw.1 hc he, fun _ hU hW => ⟨rfl, zW_at hw hU hW⟩⟩ rfl hn hsize hstack hW hdg hcs
theorem z_runS (Sx : CallFix p m c cc nL s args Ts own) (hM : Met l y ws rm (zP D cl ty nw x As u) Qc 0 0 free) (cw : CallB R s args own index y bytes maxL ret ws rm 0 0 n ∧ (Cond.static y).before args s = true) (hw : zW D cl ty nw x A s u H)
    (hsize : ls.size = nL) (hstack : st0 = As.reverse ++ rest) (hW : 2 * (F0 m pc ls st0).monitorRoom + (rest.map fun v => v.category).sum ≤ 8) (hdg : decode cc pc = .ok (.invokestatic index, 3)) (hcs : cells ≤ R.cells ∧ slots ≤ R.slots) (hn : As.length = n := by rfl) :
    va_Run p l e R s m args below meth c H locs cells slots 0 0 (F0 m pc ls st0) rest (Qc As.toArray) free :=
  va_runS Sx hM cw ⟨zP_blind, fun _ hU hW => ⟨rfl, zW_at hw hU hW⟩⟩ rfl hn hsize hstack hW hdg hcs
theorem z_rV {V : Value} (hr : va_Run p l e R s m args below meth c H locs cells slots 0 0 (F0 m pc ls st0) rest (zQR V a) (fun _ => False)) (kk : W p l e R s m args below meth c H locs cells slots Q (F0 m (pc + 3) ls (V :: rest))) : W p l e R s m args below meth c H locs cells slots Q (F0 m pc ls st0) := by
  intro T hT X
  obtain ⟨v, st₀, t, T', L, h0, X', hL, e1, e2, ⟨hv, hh⟩, st⟩ := hr T hT X
  cases hv
  obtain ⟨t2, a1, b1⟩ := kk T' (by rw [e1, hh, h0]) (Stand.forget X' (fun q h => (hL q h).elim))
  exact ⟨t2, st t2 a1, b1⟩
theorem z_ri {F : Int32} (hr : va_Run p l e R s m args below meth c H locs cells slots 0 0 (F0 m pc ls st0) rest (zQR (.int F) a) (fun _ => False)) (kk : ∀ r : Int32, r = F → W p l e R s m args below meth c H locs cells slots Q (F0 m (pc + 3) ls (.int r :: rest))) : W p l e R s m args below meth c H locs cells slots Q (F0 m pc ls st0) := z_rV hr (kk F rfl)
theorem z_rz {F : Bool} (hr : va_Run p l e R s m args below meth c H locs cells slots 0 0 (F0 m pc ls st0) rest (zQR (.int (bI F)) a) (fun _ => False)) (kk : ∀ r : Bool, r = F → W p l e R s m args below meth c H locs cells slots Q (F0 m (pc + 3) ls (.int (bI r) :: rest))) : W p l e R s m args below meth c H locs cells slots Q (F0 m pc ls st0) := z_rV hr (kk F rfl)
theorem z_rl {F : Int64} (hr : va_Run p l e R s m args below meth c H locs cells slots 0 0 (F0 m pc ls st0) rest (zQR (.long F) a) (fun _ => False)) (kk : ∀ r : Int64, r = F → W p l e R s m args below meth c H locs cells slots Q (F0 m (pc + 3) ls (.long r :: rest))) : W p l e R s m args below meth c H locs cells slots Q (F0 m pc ls st0) := z_rV hr (kk F rfl)
theorem z_wV {V : Option Value} {F : S} (hr : va_Run p l e R s m args below meth c H locs cells slots 0 0 (F0 m pc ls st0) rest (zQ D cl x u V F a) (zA (x u))) (hw : zW D cl ty nw x A s u H) (hS : va_S A H0 H locs)
    (kk : ∀ (H1 : Heap) (locs1 : List Loc), zW D cl ty nw x A s F H1 → va_S A H0 H1 locs1 → W p l e R s m args below meth c H1 locs1 cells slots Q (F0 m (pc + 3) ls (V.toList ++ rest))) : W p l e R s m args below meth c H locs cells slots Q (F0 m pc ls st0) := by
  intro T hT X
  obtain ⟨v, st₀, t, T', L, h0, X', hL, e1, e2, ⟨hv, ⟨hP, hD⟩, hz, hk⟩, st⟩ := hr T hT X
  cases hv
  rw [h0] at hz hk
  have hAA : ∀ q, zA (x u) q → A q := fun q h => by
    obtain ⟨k, e9, h9⟩ := h
    exact hw.2.2.1.2 k (q, e9) h9
  obtain ⟨t2, a1, b1⟩ := kk T'.heap (locs ++ L) ⟨by rw [e1]; exact hP, hw.2.1, hD.weaken (fun _ _ _ h => hAA _ h), hw.2.2.2⟩
    ⟨Nat.le_trans hS.1 (by rw [e1]; exact hz), fun q h1 h2 => by rw [e1, hk q (Nat.lt_of_lt_of_le h1 hS.1) (fun z => h2 (hAA q z))]; exact hS.2.1 q h1 h2, fun q hq => by
      rcases List.mem_append.mp hq with h | h
      · exact hS.2.2 q h
      · exact hAA _ (hL q h)⟩ T' rfl X'
  exact ⟨t2, st t2 a1, b1⟩
theorem z_wv {F : S} (hr : va_Run p l e R s m args below meth c H locs cells slots 0 0 (F0 m pc ls st0) rest (zQ D cl x u none F a) (zA (x u))) (hw : zW D cl ty nw x A s u H) (hS : va_S A H0 H locs)
    (kk : ∀ (u' : S) (H1 : Heap) (locs1 : List Loc), u' = F → zW D cl ty nw x A s u' H1 → va_S A H0 H1 locs1 → W p l e R s m args below meth c H1 locs1 cells slots Q (F0 m (pc + 3) ls rest)) : W p l e R s m args below meth c H locs cells slots Q (F0 m pc ls st0) := z_wV hr hw hS (fun H1 locs1 => kk F H1 locs1 rfl)
theorem z_wi {F : Int32 × S} (hr : va_Run p l e R s m args below meth c H locs cells slots 0 0 (F0 m pc ls st0) rest (zQ D cl x u (some (.int F.1)) F.2 a) (zA (x u))) (hw : zW D cl ty nw x A s u H) (hS : va_S A H0 H locs)
    (kk : ∀ (r : Int32) (u' : S) (H1 : Heap) (locs1 : List Loc), (r, u') = F → zW D cl ty nw x A s u' H1 → va_S A H0 H1 locs1 → W p l e R s m args below meth c H1 locs1 cells slots Q (F0 m (pc + 3) ls (.int r :: rest))) : W p l e R s m args below meth c H locs cells slots Q (F0 m pc ls st0) := z_wV hr hw hS (fun H1 locs1 => kk F.1 F.2 H1 locs1 rfl)
theorem z_wz {F : Bool × S} (hr : va_Run p l e R s m args below meth c H locs cells slots 0 0 (F0 m pc ls st0) rest (zQ D cl x u (some (.int (bI F.1))) F.2 a) (zA (x u))) (hw : zW D cl ty nw x A s u H) (hS : va_S A H0 H locs)
    (kk : ∀ (r : Bool) (u' : S) (H1 : Heap) (locs1 : List Loc), (r, u') = F → zW D cl ty nw x A s u' H1 → va_S A H0 H1 locs1 → W p l e R s m args below meth c H1 locs1 cells slots Q (F0 m (pc + 3) ls (.int (bI r) :: rest))) : W p l e R s m args below meth c H locs cells slots Q (F0 m pc ls st0) := z_wV hr hw hS (fun H1 locs1 => kk F.1 F.2 H1 locs1 rfl)
theorem z_wl {F : Int64 × S} (hr : va_Run p l e R s m args below meth c H locs cells slots 0 0 (F0 m pc ls st0) rest (zQ D cl x u (some (.long F.1)) F.2 a) (zA (x u))) (hw : zW D cl ty nw x A s u H) (hS : va_S A H0 H locs)
    (kk : ∀ (r : Int64) (u' : S) (H1 : Heap) (locs1 : List Loc), (r, u') = F → zW D cl ty nw x A s u' H1 → va_S A H0 H1 locs1 → W p l e R s m args below meth c H1 locs1 cells slots Q (F0 m (pc + 3) ls (.long r :: rest))) : W p l e R s m args below meth c H locs cells slots Q (F0 m pc ls st0) := z_wV hr hw hS (fun H1 locs1 => kk F.1 F.2 H1 locs1 rfl)
theorem z_put (hexec : p.tables.exec = Jvm.exec) (hb : c.code = cc) {ref : String} {T : u_T} {N ci : Nat} (hts : ∀ w ∈ Ts, w.before args s = true) (hin : ∀ w ∈ u_ws C T N, w ∈ Ts) (ty0 : Nat → FieldType) (hty : ∀ k, k < N → parseFieldDescriptor (T k).2.2.1 = some (ty0 k)) (hnm : ∀ a, a < N → ∀ b, b < N → a ≠ b → (T a).2.1 ≠ (T b).2.1) (hown : s.vm.findClass own = some m.cls) (hw : zW D cl ty nw x A s u H) (hS0 : va_S A H0 H locs) (q0 : Nat) {fs : List Value} (he : (x u)[q0]? = some (b, .inr (ci, fs))) (hc : cl[ci]? = some (C, T, N)) (k : Nat) (hk : k < N) (hlink : (Cond.fieldLink own index ref (T k).2.1 (T k).2.2.1).before args s = true) (hsame : ∀ x, s.fieldFound? (T k).1 (T k).2.1 (T k).2.2.1 = some x → s.fieldFound? ref (T k).2.1 (T k).2.2.1 = some x) (hfin : (T k).2.2.2 = false) (ht : ty0 k = .int) {v : Int32} (hl : k < fs.length) {u' : S} (hset : (x u).set q0 (b, .inr (ci, fs.set k (.int v))) = x u')
    (hdg : decode cc pc = .ok (.putfield index, 3)) (kk : ∀ (u1 : S) (H1 : Heap) (locs1 : List Loc), u1 = u' → zW D cl ty nw x A s u1 H1 → va_S A H0 H1 locs1 → W p l e R s m args below meth c H1 locs1 cells slots Q (F0 m (pc + 3) ls rest)) : W p l e R s m args below meth c H locs cells slots Q (F0 m pc ls (.int v :: .ref b :: rest)) :=
  va_put hexec hb hts hin ty0 hty hnm hown hw.2.1 hw.1 hw.2.2.1 hS0 q0 he hc k hk hlink hsame hfin (ty := .int) (by rw [hty k hk, ht]) rfl rfl hl hdg (fun H1 locs1 h1 h2 h3 => kk u' H1 locs1 rfl ⟨by rw [← hset]; exact h1, hw.2.1, by rw [← hset]; exact h2, hw.2.2.2⟩ h3)
theorem z_putN (hexec : p.tables.exec = Jvm.exec) (hb : c.code = cc) {ref host : String} {T : u_T} {N ci : Nat} (hts : ∀ w ∈ Ts, w.before args s = true) (hin : ∀ w ∈ u_ws C T N, w ∈ Ts) (ty0 : Nat → FieldType) (hty : ∀ k, k < N → parseFieldDescriptor (T k).2.2.1 = some (ty0 k)) (hnm : ∀ a, a < N → ∀ b, b < N → a ≠ b → (T a).2.1 ≠ (T b).2.1) (hown : s.vm.findClass own = some m.cls) (hw : zW D cl ty nw x A s u H) (hS0 : va_S A H0 H locs) (q0 : Nat) {fs : List Value} (he : (x u)[q0]? = some (b, .inr (ci, fs))) (hc : cl[ci]? = some (C, T, N)) (k : Nat) (hk : k < N) (hlink : (Cond.fieldLinkNest own index ref (T k).2.1 (T k).2.2.1 host).before args s = true) (hsame : ∀ x, s.fieldFound? (T k).1 (T k).2.1 (T k).2.2.1 = some x → s.fieldFound? ref (T k).2.1 (T k).2.2.1 = some x) (hfin : (T k).2.2.2 = false) (ht : ty0 k = .int) {v : Int32} (hl : k < fs.length) {u' : S} (hset : (x u).set q0 (b, .inr (ci, fs.set k (.int v))) = x u')
    (hdg : decode cc pc = .ok (.putfield index, 3)) (kk : ∀ (u1 : S) (H1 : Heap) (locs1 : List Loc), u1 = u' → zW D cl ty nw x A s u1 H1 → va_S A H0 H1 locs1 → W p l e R s m args below meth c H1 locs1 cells slots Q (F0 m (pc + 3) ls rest)) : W p l e R s m args below meth c H locs cells slots Q (F0 m pc ls (.int v :: .ref b :: rest)) :=
  va_putN hexec hb hts hin ty0 hty hnm hown hw.2.1 hw.1 hw.2.2.1 hS0 q0 he hc k hk hlink hsame hfin (ty := .int) (by rw [hty k hk, ht]) rfl rfl hl hdg (fun H1 locs1 h1 h2 h3 => kk u' H1 locs1 rfl ⟨by rw [← hset]; exact h1, hw.2.1, by rw [← hset]; exact h2, hw.2.2.2⟩ h3)
theorem z_iast (hexec : p.tables.exec = Jvm.exec) (hb : c.code = cc) (hw : zW D cl ty nw x A s u H) (hS : va_S A H0 H locs) (q0 t0 : Nat) {cA : ClassId} {N : Nat} {f : Nat → Int32} (ha : (x u)[q0]? = some (b, .inl (cA, N, .inl f))) (ht : ty[t0]? = some (cA, .int)) {i v : Int32} (hin : vp_in i N) {u' : S} (hset : (x u).set q0 (b, .inl (cA, N, .inl (upd f i.toNatClampNeg v))) = x u') (hdg : decode cc pc = .ok (.iastore, 1))
    (kk : ∀ (u1 : S) (H1 : Heap) (locs1 : List Loc), u1 = u' → zW D cl ty nw x A s u1 H1 → va_S A H0 H1 locs1 → W p l e R s m args below meth c H1 locs1 cells slots Q (F0 m (pc + 1) ls rest)) : W p l e R s m args below meth c H locs cells slots Q (F0 m pc ls (.int v :: .int i :: .ref b :: rest)) :=
  va_iast hexec hb hw.2.1 hw.1 hw.2.2.1 hS q0 t0 ha ht hin hdg (fun H1 locs1 h1 h2 h3 => kk u' H1 locs1 rfl ⟨by rw [← hset]; exact h1, hw.2.1, by rw [← hset]; exact h2, hw.2.2.2⟩ h3)
end ZC
/-! lcmp and the test behind it -/
section ZL
variable {p : Program} {l : Launch} {e : Env} {R : Room} {s : State} {m : MethodId} {args : Array Value} {below : List Frame} {meth : Method} {c : Code} {H : Heap} {locs : List Loc} {cells slots : Nat} {Q : State → Prop}
variable {cc : ByteArray} {pc : Nat} {ls : Array Slot} {rest : List Value}
theorem z_lcmp_eq (hexec : p.tables.exec = Jvm.exec) (hb : c.code = cc) {x y : Int64} {off : Int} {tgt : Nat} (h1 : decode cc pc = .ok (.lcmp, 1)) (h2 : decode cc (pc + 1) = .ok (.ifCond .eq off, 3)) (ht : ((pc + 1 : Nat) : Int) + off = (tgt : Int)) (kt : x = y → W p l e R s m args below meth c H locs cells slots Q (F0 m tgt ls rest)) (kf : ¬ x = y → W p l e R s m args below meth c H locs cells slots Q (F0 m (pc + 1 + 3) ls rest)) : W p l e R s m args below meth c H locs cells slots Q (F0 m pc ls (.long y :: .long x :: rest)) := W.lcmp hexec hb h1 (lv_if_eq hexec hb h2 ht (fun h => kt ((lg_cmp_eq x y).mp h)) (fun h => kf (fun q => h ((lg_cmp_eq x y).mpr q))))
theorem z_lcmp_ne (hexec : p.tables.exec = Jvm.exec) (hb : c.code = cc) {x y : Int64} {off : Int} {tgt : Nat} (h1 : decode cc pc = .ok (.lcmp, 1)) (h2 : decode cc (pc + 1) = .ok (.ifCond .ne off, 3)) (ht : ((pc + 1 : Nat) : Int) + off = (tgt : Int)) (kt : ¬ x = y → W p l e R s m args below meth c H locs cells slots Q (F0 m tgt ls rest)) (kf : x = y → W p l e R s m args below meth c H locs cells slots Q (F0 m (pc + 1 + 3) ls rest)) : W p l e R s m args below meth c H locs cells slots Q (F0 m pc ls (.long y :: .long x :: rest)) := W.lcmp hexec hb h1 (lv_if_ne hexec hb h2 ht (fun h => kt (fun q => h ((lg_cmp_eq x y).mpr q))) (fun h => kf ((lg_cmp_eq x y).mp h)))
theorem z_lcmp_lt (hexec : p.tables.exec = Jvm.exec) (hb : c.code = cc) {x y : Int64} {off : Int} {tgt : Nat} (h1 : decode cc pc = .ok (.lcmp, 1)) (h2 : decode cc (pc + 1) = .ok (.ifCond .lt off, 3)) (ht : ((pc + 1 : Nat) : Int) + off = (tgt : Int)) (kt : x < y → W p l e R s m args below meth c H locs cells slots Q (F0 m tgt ls rest)) (kf : ¬ x < y → W p l e R s m args below meth c H locs cells slots Q (F0 m (pc + 1 + 3) ls rest)) : W p l e R s m args below meth c H locs cells slots Q (F0 m pc ls (.long y :: .long x :: rest)) := W.lcmp hexec hb h1 (lv_if_lt hexec hb h2 ht (fun h => kt ((lg_cmp_lt x y).mp h)) (fun h => kf (fun q => h ((lg_cmp_lt x y).mpr q))))
theorem z_lcmp_ge (hexec : p.tables.exec = Jvm.exec) (hb : c.code = cc) {x y : Int64} {off : Int} {tgt : Nat} (h1 : decode cc pc = .ok (.lcmp, 1)) (h2 : decode cc (pc + 1) = .ok (.ifCond .ge off, 3)) (ht : ((pc + 1 : Nat) : Int) + off = (tgt : Int)) (kt : y ≤ x → W p l e R s m args below meth c H locs cells slots Q (F0 m tgt ls rest)) (kf : ¬ y ≤ x → W p l e R s m args below meth c H locs cells slots Q (F0 m (pc + 1 + 3) ls rest)) : W p l e R s m args below meth c H locs cells slots Q (F0 m pc ls (.long y :: .long x :: rest)) := W.lcmp hexec hb h1 (lv_if_ge hexec hb h2 ht (fun h => kt ((lg_cmp_ge x y).mp h)) (fun h => kf (fun q => h ((lg_cmp_ge x y).mpr q))))
theorem z_lcmp_gt (hexec : p.tables.exec = Jvm.exec) (hb : c.code = cc) {x y : Int64} {off : Int} {tgt : Nat} (h1 : decode cc pc = .ok (.lcmp, 1)) (h2 : decode cc (pc + 1) = .ok (.ifCond .gt off, 3)) (ht : ((pc + 1 : Nat) : Int) + off = (tgt : Int)) (kt : y < x → W p l e R s m args below meth c H locs cells slots Q (F0 m tgt ls rest)) (kf : ¬ y < x → W p l e R s m args below meth c H locs cells slots Q (F0 m (pc + 1 + 3) ls rest)) : W p l e R s m args below meth c H locs cells slots Q (F0 m pc ls (.long y :: .long x :: rest)) := W.lcmp hexec hb h1 (lv_if_gt hexec hb h2 ht (fun h => kt ((lg_cmp_gt x y).mp h)) (fun h => kf (fun q => h ((lg_cmp_gt x y).mpr q))))
theorem z_lcmp_le (hexec : p.tables.exec = Jvm.exec) (hb : c.code = cc) {x y : Int64} {off : Int} {tgt : Nat} (h1 : decode cc pc = .ok (.lcmp, 1)) (h2 : decode cc (pc + 1) = .ok (.ifCond .le off, 3)) (ht : ((pc + 1 : Nat) : Int) + off = (tgt : Int)) (kt : x ≤ y → W p l e R s m args below meth c H locs cells slots Q (F0 m tgt ls rest)) (kf : ¬ x ≤ y → W p l e R s m args below meth c H locs cells slots Q (F0 m (pc + 1 + 3) ls rest)) : W p l e R s m args below meth c H locs cells slots Q (F0 m pc ls (.long y :: .long x :: rest)) := W.lcmp hexec hb h1 (lv_if_le hexec hb h2 ht (fun h => kt ((lg_cmp_le x y).mp h)) (fun h => kf (fun q => h ((lg_cmp_le x y).mpr q))))
end ZL
theorem zRi_of {S : Type} {l : Launch} {y : MethodName} {G0 ws : List Cond} {rm : Room} {D : va_G} {cl : List vw_C} {ty : List (ClassId × FieldType)} {nw : List Cond} {x : S → va_W} {av : List Value} {u : S} {cc : ByteArray} {maxL : Nat} {own : String} {F : Int32} (hy : plainName y.cls = true) (hw0 : ws = Cond.code y cc maxL (some .int) :: G0) (ho : y.cls = own) (hav : (lg_sl av).length ≤ maxL)
    (body : ∀ (p : Program) (e : Env) (R : Room) (st : State) (m : MethodId) (args : Array Value) (below : List Frame) (meth : Method) (c : Code) (H : Heap) (locs : List Loc) (Q : State → Prop) (ls : Array Slot), R = rm → p.tables.exec = Jvm.exec → c.code = cc → c.maxLocals = maxL → st.vm.findClass own = some m.cls → (∀ w ∈ G0, w.before args st = true) → zW D cl ty nw x (fun _ => True) st u H → (∀ (r : Int32) (pc : Nat) (ls : Array Slot), decode cc pc = .ok (.ireturn, 1) → F = r → W p l e R st m args below meth c H locs 0 0 Q (F0 m pc ls [.int r])) → lv_has ls maxL (lv_args 0 av) → W p l e R st m args below meth c H locs 0 0 Q (F0 m 0 ls [])) : zRi l y ws rm D cl ty nw x av u F := by
  unfold zRi zR
  refine Met.ofW (cc := cc) (maxL := maxL) (ret := some .int) hy hw0 ?_
  intro p e s m args below meth c s₁ B hml hv
  obtain ⟨rfl, hw⟩ := hv
  have hts0 := atoms_spec (ws := ws) B.pre
  have hts : ∀ w ∈ G0, w.before _ s = true := fun w h => hts0 w (by rw [hw0]; exact List.mem_cons_of_mem _ h)
  have hown : s.vm.findClass own = some m.cls := by rw [← ho]; exact findClass_of_methodNamed B.named
  have hl := lv_entry av (n := maxL) hav
  rw [lg_entry_eq]
  refine body p e _ s m _ below meth c s.heap [] _ _ rfl B.exec B.bytes hml hown hts hw ?_ hl
  intro r pc ls hd hF
  subst hF
  exact W.iret B.exec B.bytes B.returns (fun t ht hW => ⟨rfl, ht⟩) (fun q h => by cases h) hd
theorem zRz_of {S : Type} {l : Launch} {y : MethodName} {G0 ws : List Cond} {rm : Room} {D : va_G} {cl : List vw_C} {ty : List (ClassId × FieldType)} {nw : List Cond} {x : S → va_W} {av : List Value} {u : S} {cc : ByteArray} {maxL : Nat} {own : String} {F : Bool} (hy : plainName y.cls = true) (hw0 : ws = Cond.code y cc maxL (some .boolean) :: G0) (ho : y.cls = own) (hav : (lg_sl av).length ≤ maxL)
    (body : ∀ (p : Program) (e : Env) (R : Room) (st : State) (m : MethodId) (args : Array Value) (below : List Frame) (meth : Method) (c : Code) (H : Heap) (locs : List Loc) (Q : State → Prop) (ls : Array Slot), R = rm → p.tables.exec = Jvm.exec → c.code = cc → c.maxLocals = maxL → st.vm.findClass own = some m.cls → (∀ w ∈ G0, w.before args st = true) → zW D cl ty nw x (fun _ => True) st u H → (∀ (r : Bool) (pc : Nat) (ls : Array Slot), decode cc pc = .ok (.ireturn, 1) → F = r → W p l e R st m args below meth c H locs 0 0 Q (F0 m pc ls [.int (bI r)])) → lv_has ls maxL (lv_args 0 av) → W p l e R st m args below meth c H locs 0 0 Q (F0 m 0 ls [])) : zRz l y ws rm D cl ty nw x av u F := by
  unfold zRz zR
  refine Met.ofW (cc := cc) (maxL := maxL) (ret := some .boolean) hy hw0 ?_
  intro p e s m args below meth c s₁ B hml hv
  obtain ⟨rfl, hw⟩ := hv
  have hts0 := atoms_spec (ws := ws) B.pre
  have hts : ∀ w ∈ G0, w.before _ s = true := fun w h => hts0 w (by rw [hw0]; exact List.mem_cons_of_mem _ h)
  have hown : s.vm.findClass own = some m.cls := by rw [← ho]; exact findClass_of_methodNamed B.named
  have hl := lv_entry av (n := maxL) hav
  rw [lg_entry_eq]
  refine body p e _ s m _ below meth c s.heap [] _ _ rfl B.exec B.bytes hml hown hts hw ?_ hl
  intro r pc ls hd hF
  subst hF
  exact W.zret B.exec B.bytes B.returns (nar_bI _) (fun t ht hW => ⟨rfl, ht⟩) (fun q h => by cases h) hd
theorem zRl_of {S : Type} {l : Launch} {y : MethodName} {G0 ws : List Cond} {rm : Room} {D : va_G} {cl : List vw_C} {ty : List (ClassId × FieldType)} {nw : List Cond} {x : S → va_W} {av : List Value} {u : S} {cc : ByteArray} {maxL : Nat} {own : String} {F : Int64} (hy : plainName y.cls = true) (hw0 : ws = Cond.code y cc maxL (some .long) :: G0) (ho : y.cls = own) (hav : (lg_sl av).length ≤ maxL)
    (body : ∀ (p : Program) (e : Env) (R : Room) (st : State) (m : MethodId) (args : Array Value) (below : List Frame) (meth : Method) (c : Code) (H : Heap) (locs : List Loc) (Q : State → Prop) (ls : Array Slot), R = rm → p.tables.exec = Jvm.exec → c.code = cc → c.maxLocals = maxL → st.vm.findClass own = some m.cls → (∀ w ∈ G0, w.before args st = true) → zW D cl ty nw x (fun _ => True) st u H → (∀ (r : Int64) (pc : Nat) (ls : Array Slot), decode cc pc = .ok (.lreturn, 1) → F = r → W p l e R st m args below meth c H locs 0 0 Q (F0 m pc ls [.long r])) → lv_has ls maxL (lv_args 0 av) → W p l e R st m args below meth c H locs 0 0 Q (F0 m 0 ls [])) : zRl l y ws rm D cl ty nw x av u F := by
  unfold zRl zR
  refine Met.ofW (cc := cc) (maxL := maxL) (ret := some .long) hy hw0 ?_
  intro p e s m args below meth c s₁ B hml hv
  obtain ⟨rfl, hw⟩ := hv
  have hts0 := atoms_spec (ws := ws) B.pre
  have hts : ∀ w ∈ G0, w.before _ s = true := fun w h => hts0 w (by rw [hw0]; exact List.mem_cons_of_mem _ h)
  have hown : s.vm.findClass own = some m.cls := by rw [← ho]; exact findClass_of_methodNamed B.named
  have hl := lv_entry av (n := maxL) hav
  rw [lg_entry_eq]
  refine body p e _ s m _ below meth c s.heap [] _ _ rfl B.exec B.bytes hml hown hts hw ?_ hl
  intro r pc ls hd hF
  subst hF
  exact W.lret B.exec B.bytes B.returns (fun t ht hW => ⟨rfl, ht⟩) (fun q h => by cases h) hd
theorem zMi_of {S : Type} {l : Launch} {y : MethodName} {G0 ws : List Cond} {rm : Room} {D : va_G} {cl : List vw_C} {ty : List (ClassId × FieldType)} {nw : List Cond} {x : S → va_W} {av : List Value} {u : S} {cc : ByteArray} {maxL : Nat} {own : String} {F : Int32 × S} (hy : plainName y.cls = true) (hw0 : ws = Cond.code y cc maxL (some .int) :: G0) (ho : y.cls = own) (hav : (lg_sl av).length ≤ maxL)
    (body : ∀ (p : Program) (e : Env) (R : Room) (st : State) (m : MethodId) (args : Array Value) (below : List Frame) (meth : Method) (c : Code) (A : Nat → Prop) (H : Heap) (locs : List Loc) (Q : State → Prop) (ls : Array Slot), R = rm → p.tables.exec = Jvm.exec → c.code = cc → c.maxLocals = maxL → st.vm.findClass own = some m.cls → (∀ w ∈ G0, w.before args st = true) → zW D cl ty nw x A st u H → va_S A st.heap H locs → (∀ (r : Int32) (u1 : S) (H : Heap) (locs : List Loc) (pc : Nat) (ls : Array Slot), decode cc pc = .ok (.ireturn, 1) → zW D cl ty nw x A st u1 H → va_S A st.heap H locs → F = (r, u1) → W p l e R st m args below meth c H locs 0 0 Q (F0 m pc ls [.int r])) → lv_has ls maxL (lv_args 0 av) → W p l e R st m args below meth c H locs 0 0 Q (F0 m 0 ls [])) : zMi l y ws rm D cl ty nw x av u F := by
  unfold zMi zM
  refine Met.ofW (cc := cc) (maxL := maxL) (ret := some .int) hy hw0 ?_
  intro p e s m args below meth c s₁ B hml hv
  obtain ⟨rfl, hw⟩ := hv
  have hts0 := atoms_spec (ws := ws) B.pre
  have hts : ∀ w ∈ G0, w.before _ s = true := fun w h => hts0 w (by rw [hw0]; exact List.mem_cons_of_mem _ h)
  have hown : s.vm.findClass own = some m.cls := by rw [← ho]; exact findClass_of_methodNamed B.named
  have hl := lv_entry av (n := maxL) hav
  rw [lg_entry_eq]
  refine body p e _ s m _ below meth c (zA (x u)) s.heap [] _ _ rfl B.exec B.bytes hml hown hts ⟨hw.1, hw.2.1, ⟨hw.2.2.1.1, fun k q hk => ⟨k, q.2, hk⟩⟩, hw.2.2.2⟩ va_S.rf ?_ hl
  intro r u1 H locs pc ls hd hw hS hF
  subst hF
  exact W.iret B.exec B.bytes B.returns (fun t ht hW => ⟨rfl, ⟨by rw [ht]; exact hw.1, hw.2.2.1⟩, hS.F ht⟩) hS.2.2 hd
theorem zMz_of {S : Type} {l : Launch} {y : MethodName} {G0 ws : List Cond} {rm : Room} {D : va_G} {cl : List vw_C} {ty : List (ClassId × FieldType)} {nw : List Cond} {x : S → va_W} {av : List Value} {u : S} {cc : ByteArray} {maxL : Nat} {own : String} {F : Bool × S} (hy : plainName y.cls = true) (hw0 : ws = Cond.code y cc maxL (some .boolean) :: G0) (ho : y.cls = own) (hav : (lg_sl av).length ≤ maxL)
    (body : ∀ (p : Program) (e : Env) (R : Room) (st : State) (m : MethodId) (args : Array Value) (below : List Frame) (meth : Method) (c : Code) (A : Nat → Prop) (H : Heap) (locs : List Loc) (Q : State → Prop) (ls : Array Slot), R = rm → p.tables.exec = Jvm.exec → c.code = cc → c.maxLocals = maxL → st.vm.findClass own = some m.cls → (∀ w ∈ G0, w.before args st = true) → zW D cl ty nw x A st u H → va_S A st.heap H locs → (∀ (r : Bool) (u1 : S) (H : Heap) (locs : List Loc) (pc : Nat) (ls : Array Slot), decode cc pc = .ok (.ireturn, 1) → zW D cl ty nw x A st u1 H → va_S A st.heap H locs → F = (r, u1) → W p l e R st m args below meth c H locs 0 0 Q (F0 m pc ls [.int (bI r)])) → lv_has ls maxL (lv_args 0 av) → W p l e R st m args below meth c H locs 0 0 Q (F0 m 0 ls [])) : zMz l y ws rm D cl ty nw x av u F := by
  unfold zMz zM
  refine Met.ofW (cc := cc) (maxL := maxL) (ret := some .boolean) hy hw0 ?_
  intro p e s m args below meth c s₁ B hml hv
  obtain ⟨rfl, hw⟩ := hv
  have hts0 := atoms_spec (ws := ws) B.pre
  have hts : ∀ w ∈ G0, w.before _ s = true := fun w h => hts0 w (by rw [hw0]; exact List.mem_cons_of_mem _ h)
  have hown : s.vm.findClass own = some m.cls := by rw [← ho]; exact findClass_of_methodNamed B.named
  have hl := lv_entry av (n := maxL) hav
  rw [lg_entry_eq]
  refine body p e _ s m _ below meth c (zA (x u)) s.heap [] _ _ rfl B.exec B.bytes hml hown hts ⟨hw.1, hw.2.1, ⟨hw.2.2.1.1, fun k q hk => ⟨k, q.2, hk⟩⟩, hw.2.2.2⟩ va_S.rf ?_ hl
  intro r u1 H locs pc ls hd hw hS hF
  subst hF
  exact W.zret B.exec B.bytes B.returns (nar_bI _) (fun t ht hW => ⟨rfl, ⟨by rw [ht]; exact hw.1, hw.2.2.1⟩, hS.F ht⟩) hS.2.2 hd
theorem zMl_of {S : Type} {l : Launch} {y : MethodName} {G0 ws : List Cond} {rm : Room} {D : va_G} {cl : List vw_C} {ty : List (ClassId × FieldType)} {nw : List Cond} {x : S → va_W} {av : List Value} {u : S} {cc : ByteArray} {maxL : Nat} {own : String} {F : Int64 × S} (hy : plainName y.cls = true) (hw0 : ws = Cond.code y cc maxL (some .long) :: G0) (ho : y.cls = own) (hav : (lg_sl av).length ≤ maxL)
    (body : ∀ (p : Program) (e : Env) (R : Room) (st : State) (m : MethodId) (args : Array Value) (below : List Frame) (meth : Method) (c : Code) (A : Nat → Prop) (H : Heap) (locs : List Loc) (Q : State → Prop) (ls : Array Slot), R = rm → p.tables.exec = Jvm.exec → c.code = cc → c.maxLocals = maxL → st.vm.findClass own = some m.cls → (∀ w ∈ G0, w.before args st = true) → zW D cl ty nw x A st u H → va_S A st.heap H locs → (∀ (r : Int64) (u1 : S) (H : Heap) (locs : List Loc) (pc : Nat) (ls : Array Slot), decode cc pc = .ok (.lreturn, 1) → zW D cl ty nw x A st u1 H → va_S A st.heap H locs → F = (r, u1) → W p l e R st m args below meth c H locs 0 0 Q (F0 m pc ls [.long r])) → lv_has ls maxL (lv_args 0 av) → W p l e R st m args below meth c H locs 0 0 Q (F0 m 0 ls [])) : zMl l y ws rm D cl ty nw x av u F := by
  unfold zMl zM
  refine Met.ofW (cc := cc) (maxL := maxL) (ret := some .long) hy hw0 ?_
  intro p e s m args below meth c s₁ B hml hv
  obtain ⟨rfl, hw⟩ := hv
  have hts0 := atoms_spec (ws := ws) B.pre
  have hts : ∀ w ∈ G0, w.before _ s = true := fun w h => hts0 w (by rw [hw0]; exact List.mem_cons_of_mem _ h)
  have hown : s.vm.findClass own = some m.cls := by rw [← ho]; exact findClass_of_methodNamed B.named
  have hl := lv_entry av (n := maxL) hav
  rw [lg_entry_eq]
  refine body p e _ s m _ below meth c (zA (x u)) s.heap [] _ _ rfl B.exec B.bytes hml hown hts ⟨hw.1, hw.2.1, ⟨hw.2.2.1.1, fun k q hk => ⟨k, q.2, hk⟩⟩, hw.2.2.2⟩ va_S.rf ?_ hl
  intro r u1 H locs pc ls hd hw hS hF
  subst hF
  exact W.lret B.exec B.bytes B.returns (fun t ht hW => ⟨rfl, ⟨by rw [ht]; exact hw.1, hw.2.2.1⟩, hS.F ht⟩) hS.2.2 hd
theorem zMv_of {S : Type} {l : Launch} {y : MethodName} {G0 ws : List Cond} {rm : Room} {D : va_G} {cl : List vw_C} {ty : List (ClassId × FieldType)} {nw : List Cond} {x : S → va_W} {av : List Value} {u : S} {cc : ByteArray} {maxL : Nat} {own : String} {F : S} (hy : plainName y.cls = true) (hw0 : ws = Cond.code y cc maxL (none) :: G0) (ho : y.cls = own) (hav : (lg_sl av).length ≤ maxL)
    (body : ∀ (p : Program) (e : Env) (R : Room) (st : State) (m : MethodId) (args : Array Value) (below : List Frame) (meth : Method) (c : Code) (A : Nat → Prop) (H : Heap) (locs : List Loc) (Q : State → Prop) (ls : Array Slot), R = rm → p.tables.exec = Jvm.exec → c.code = cc → c.maxLocals = maxL → st.vm.findClass own = some m.cls → (∀ w ∈ G0, w.before args st = true) → zW D cl ty nw x A st u H → va_S A st.heap H locs → (∀ (u1 : S) (H : Heap) (locs : List Loc) (pc : Nat) (ls : Array Slot), decode cc pc = .ok (.return_, 1) → zW D cl ty nw x A st u1 H → va_S A st.heap H locs → F = u1 → W p l e R st m args below meth c H locs 0 0 Q (F0 m pc ls [])) → lv_has ls maxL (lv_args 0 av) → W p l e R st m args below meth c H locs 0 0 Q (F0 m 0 ls [])) : zMv l y ws rm D cl ty nw x av u F := by
  unfold zMv zM
  refine Met.ofW (cc := cc) (maxL := maxL) (ret := none) hy hw0 ?_
  intro p e s m args below meth c s₁ B hml hv
  obtain ⟨rfl, hw⟩ := hv
  have hts0 := atoms_spec (ws := ws) B.pre
  have hts : ∀ w ∈ G0, w.before _ s = true := fun w h => hts0 w (by rw [hw0]; exact List.mem_cons_of_mem _ h)
  have hown : s.vm.findClass own = some m.cls := by rw [← ho]; exact findClass_of_methodNamed B.named
  have hl := lv_entry av (n := maxL) hav
  rw [lg_entry_eq]
  refine body p e _ s m _ below meth c (zA (x u)) s.heap [] _ _ rfl B.exec B.bytes hml hown hts ⟨hw.1, hw.2.1, ⟨hw.2.2.1.1, fun k q hk => ⟨k, q.2, hk⟩⟩, hw.2.2.2⟩ va_S.rf ?_ hl
  intro u1 H locs pc ls hd hw hS hF
  subst hF
  exact W.vret B.exec B.bytes B.returns (fun t ht hW => ⟨rfl, ⟨by rw [ht]; exact hw.1, hw.2.2.1⟩, hS.F ht⟩) hS.2.2 hd
end
section
/-! the words that every method of ours is given: what of the tables' words keeps -/
def G0 : List Cond := lw_tbl.filter goodWord
theorem mG {w : Cond} (n : Nat) (h : lw_tbl[n]? = some w) (hg : goodWord w = true) : w ∈ G0 := List.mem_filter.mpr ⟨List.mem_of_getElem? h, hg⟩
theorem G0_good : ∀ w ∈ G0, w ∈ G0 ∧ ((w.onTables && w.keeps) = true ∨ ∃ ty, w = .arrayClass ty) := fun w h => ⟨h, good_of_word (List.mem_filter.mp h).2⟩
theorem zInL (ws : List Cond) (ps : List Nat) (hp : ws = ps.filterMap (fun i => lw_tbl[i]?)) : ∀ w ∈ ws, w ∈ lw_tbl := fun w h => by
  rw [hp] at h
  obtain ⟨i, -, hi⟩ := List.mem_filterMap.mp h
  exact List.mem_of_getElem? hi
theorem zIn (ws : List Cond) (ps : List Nat) (hp : ws = ps.filterMap (fun i => lw_tbl[i]?)) (h : ws.all goodWord = true) : ∀ w ∈ ws, w ∈ G0 := fun w hw => List.mem_filter.mpr ⟨zInL ws ps hp w hw, List.all_eq_true.mp h w hw⟩
theorem zgV {own C : String} {idx : Nat} {y : MethodName} {c : Cond} (h1 : Cond.methodLink own idx y ∈ G0) (h2 : Cond.instanceMethod y ∈ G0) (h3 : Cond.selects C y y ∈ G0) (h4 : Cond.initialized C ∈ G0) (h5 : c ∈ G0) : GoodIn G0 (wsV own idx C y (c :: G0)) := by
  intro w hw
  unfold wsV at hw
  simp only [List.cons_append, List.nil_append, List.mem_cons] at hw
  rcases hw with rfl | rfl | rfl | rfl | rfl | hw
  · exact G0_good _ h1
  · exact G0_good _ h2
  · exact G0_good _ h3
  · exact G0_good _ h4
  · exact G0_good _ h5
  · exact G0_good _ hw
theorem zgS {own : String} {idx : Nat} {y : MethodName} {c : Cond} (h1 : Cond.methodLink own idx y ∈ G0) (h2 : Cond.static y ∈ G0) (h4 : Cond.initialized own ∈ G0) (h5 : c ∈ G0) : GoodIn G0 (wsS own idx y (c :: G0)) := by
  intro w hw
  unfold wsS at hw
  simp only [List.cons_append, List.nil_append, List.mem_cons] at hw
  rcases hw with rfl | rfl | rfl | rfl | hw
  · exact G0_good _ h1
  · exact G0_good _ h2
  · exact G0_good _ h4
  · exact G0_good _ h5
  · exact G0_good _ hw
def RX_DM : String := "DecimalMachine"
def TX_DM : u_T := fun k => match k with
  | 0 => ("DecimalMachine", "state", "LDecimalMachine$State;", true)
  | _ => ("DecimalMachine", "processor", "LDecimalMachine$Processor;", true)
def tX_DM : Nat → FieldType := fun k => match k with
  | 0 => .object "DecimalMachine$State"
  | _ => .object "DecimalMachine$Processor"
theorem nX_DM : ∀ a, a < 2 → ∀ b, b < 2 → a ≠ b → (TX_DM a).2.1 ≠ (TX_DM b).2.1 := by decide +kernel
theorem tX_DM_ok : ∀ k, k < 2 → parseFieldDescriptor (TX_DM k).2.2.1 = some (tX_DM k) := by decide +kernel
theorem iX_DM : ∀ w ∈ u_ws RX_DM TX_DM 2, w ∈ G0 := zIn _ [304, 306] (by decide +kernel) (by decide +kernel)
def RX_St : String := "DecimalMachine$State"
def TX_St : u_T := fun k => match k with
  | 0 => ("DecimalMachine$State", "memory", "LDecimalMachine$Memory;", true)
  | 1 => ("DecimalMachine$State", "registers", "[I", true)
  | 2 => ("DecimalMachine$State", "next", "I", false)
  | 3 => ("DecimalMachine$State", "condition", "I", false)
  | 4 => ("DecimalMachine$State", "mask", "I", false)
  | _ => ("DecimalMachine$State", "halt", "I", false)
def tX_St : Nat → FieldType := fun k => match k with
  | 0 => .object "DecimalMachine$Memory"
  | 1 => .array .int
  | 2 => .int
  | 3 => .int
  | 4 => .int
  | _ => .int
theorem nX_St : ∀ a, a < 6 → ∀ b, b < 6 → a ≠ b → (TX_St a).2.1 ≠ (TX_St b).2.1 := by decide +kernel
theorem tX_St_ok : ∀ k, k < 6 → parseFieldDescriptor (TX_St k).2.2.1 = some (tX_St k) := by decide +kernel
theorem iX_St : ∀ w ∈ u_ws RX_St TX_St 6, w ∈ G0 := zIn _ [137, 139, 141, 143, 145, 147] (by decide +kernel) (by decide +kernel)
def RX_Me : String := "DecimalMachine$Memory"
def TX_Me : u_T := fun k => match k with
  | _ => ("DecimalMachine$Memory", "octets", "[I", true)
def tX_Me : Nat → FieldType := fun k => match k with
  | _ => .array .int
theorem nX_Me : ∀ a, a < 1 → ∀ b, b < 1 → a ≠ b → (TX_Me a).2.1 ≠ (TX_Me b).2.1 := by decide +kernel
theorem tX_Me_ok : ∀ k, k < 1 → parseFieldDescriptor (TX_Me k).2.2.1 = some (tX_Me k) := by decide +kernel
theorem iX_Me : ∀ w ∈ u_ws RX_Me TX_Me 1, w ∈ G0 := zIn _ [110] (by decide +kernel) (by decide +kernel)
def RX_Pr : String := "DecimalMachine$Processor"
def TX_Pr : u_T := fun k => match k with
  | 0 => ("DecimalMachine$Processor", "state", "LDecimalMachine$State;", true)
  | 1 => ("DecimalMachine$Processor", "instruction", "LDecimalMachine$Instruction;", true)
  | 2 => ("DecimalMachine$Processor", "arithmetic", "LDecimalMachine$Arithmetic;", true)
  | 3 => ("DecimalMachine$Processor", "transfers", "LDecimalMachine$Transfers;", true)
  | 4 => ("DecimalMachine$Processor", "branches", "LDecimalMachine$Branches;", true)
  | 5 => ("DecimalMachine$Processor", "octets", "LDecimalMachine$Octets;", true)
  | 6 => ("DecimalMachine$Processor", "decimals", "LDecimalMachine$Decimals;", true)
  | 7 => ("DecimalMachine$Processor", "done", "I", false)
  | 8 => ("DecimalMachine$Processor", "faults", "I", false)
  | _ => ("DecimalMachine$Processor", "latestFault", "I", false)
def tX_Pr : Nat → FieldType := fun k => match k with
  | 0 => .object "DecimalMachine$State"
  | 1 => .object "DecimalMachine$Instruction"
  | 2 => .object "DecimalMachine$Arithmetic"
  | 3 => .object "DecimalMachine$Transfers"
  | 4 => .object "DecimalMachine$Branches"
  | 5 => .object "DecimalMachine$Octets"
  | 6 => .object "DecimalMachine$Decimals"
  | 7 => .int
  | 8 => .int
  | _ => .int
theorem nX_Pr : ∀ a, a < 10 → ∀ b, b < 10 → a ≠ b → (TX_Pr a).2.1 ≠ (TX_Pr b).2.1 := by decide +kernel
theorem tX_Pr_ok : ∀ k, k < 10 → parseFieldDescriptor (TX_Pr k).2.2.1 = some (tX_Pr k) := by decide +kernel
theorem iX_Pr : ∀ w ∈ u_ws RX_Pr TX_Pr 10, w ∈ G0 := zIn _ [281, 283, 285, 287, 289, 291, 293, 295, 297, 299] (by decide +kernel) (by decide +kernel)
def RX_In : String := "DecimalMachine$Instruction"
def TX_In : u_T := fun k => match k with
  | 0 => ("DecimalMachine$Instruction", "code", "I", false)
  | 1 => ("DecimalMachine$Instruction", "second", "I", false)
  | 2 => ("DecimalMachine$Instruction", "r1", "I", false)
  | 3 => ("DecimalMachine$Instruction", "r2", "I", false)
  | 4 => ("DecimalMachine$Instruction", "a1", "I", false)
  | 5 => ("DecimalMachine$Instruction", "a2", "I", false)
  | _ => ("DecimalMachine$Instruction", "behind", "I", false)
def tX_In : Nat → FieldType := fun k => match k with
  | 0 => .int
  | 1 => .int
  | 2 => .int
  | 3 => .int
  | 4 => .int
  | 5 => .int
  | _ => .int
theorem nX_In : ∀ a, a < 7 → ∀ b, b < 7 → a ≠ b → (TX_In a).2.1 ≠ (TX_In b).2.1 := by decide +kernel
theorem tX_In_ok : ∀ k, k < 7 → parseFieldDescriptor (TX_In k).2.2.1 = some (tX_In k) := by decide +kernel
theorem iX_In : ∀ w ∈ u_ws RX_In TX_In 7, w ∈ G0 := zIn _ [194, 196, 198, 200, 202, 204, 206] (by decide +kernel) (by decide +kernel)
def RX_Ar : String := "DecimalMachine$Arithmetic"
def TX_Ar : u_T := fun k => match k with
  | _ => ("DecimalMachine$Arithmetic", "state", "LDecimalMachine$State;", true)
def tX_Ar : Nat → FieldType := fun k => match k with
  | _ => .object "DecimalMachine$State"
theorem nX_Ar : ∀ a, a < 1 → ∀ b, b < 1 → a ≠ b → (TX_Ar a).2.1 ≠ (TX_Ar b).2.1 := by decide +kernel
theorem tX_Ar_ok : ∀ k, k < 1 → parseFieldDescriptor (TX_Ar k).2.2.1 = some (tX_Ar k) := by decide +kernel
theorem iX_Ar : ∀ w ∈ u_ws RX_Ar TX_Ar 1, w ∈ G0 := zIn _ [216] (by decide +kernel) (by decide +kernel)
def RX_Tr : String := "DecimalMachine$Transfers"
def TX_Tr : u_T := fun k => match k with
  | _ => ("DecimalMachine$Transfers", "state", "LDecimalMachine$State;", true)
def tX_Tr : Nat → FieldType := fun k => match k with
  | _ => .object "DecimalMachine$State"
theorem nX_Tr : ∀ a, a < 1 → ∀ b, b < 1 → a ≠ b → (TX_Tr a).2.1 ≠ (TX_Tr b).2.1 := by decide +kernel
theorem tX_Tr_ok : ∀ k, k < 1 → parseFieldDescriptor (TX_Tr k).2.2.1 = some (tX_Tr k) := by decide +kernel
theorem iX_Tr : ∀ w ∈ u_ws RX_Tr TX_Tr 1, w ∈ G0 := zIn _ [226] (by decide +kernel) (by decide +kernel)
def RX_Br : String := "DecimalMachine$Branches"
def TX_Br : u_T := fun k => match k with
  | _ => ("DecimalMachine$Branches", "state", "LDecimalMachine$State;", true)
def tX_Br : Nat → FieldType := fun k => match k with
  | _ => .object "DecimalMachine$State"
theorem nX_Br : ∀ a, a < 1 → ∀ b, b < 1 → a ≠ b → (TX_Br a).2.1 ≠ (TX_Br b).2.1 := by decide +kernel
theorem tX_Br_ok : ∀ k, k < 1 → parseFieldDescriptor (TX_Br k).2.2.1 = some (tX_Br k) := by decide +kernel
theorem iX_Br : ∀ w ∈ u_ws RX_Br TX_Br 1, w ∈ G0 := zIn _ [236] (by decide +kernel) (by decide +kernel)
def RX_Oc : String := "DecimalMachine$Octets"
def TX_Oc : u_T := fun k => match k with
  | 0 => ("DecimalMachine$Octets", "state", "LDecimalMachine$State;", true)
  | _ => ("DecimalMachine$Octets", "memory", "LDecimalMachine$Memory;", true)
def tX_Oc : Nat → FieldType := fun k => match k with
  | 0 => .object "DecimalMachine$State"
  | _ => .object "DecimalMachine$Memory"
theorem nX_Oc : ∀ a, a < 2 → ∀ b, b < 2 → a ≠ b → (TX_Oc a).2.1 ≠ (TX_Oc b).2.1 := by decide +kernel
theorem tX_Oc_ok : ∀ k, k < 2 → parseFieldDescriptor (TX_Oc k).2.2.1 = some (tX_Oc k) := by decide +kernel
theorem iX_Oc : ∀ w ∈ u_ws RX_Oc TX_Oc 2, w ∈ G0 := zIn _ [247, 249] (by decide +kernel) (by decide +kernel)
def RX_De : String := "DecimalMachine$Decimals"
def TX_De : u_T := fun k => match k with
  | 0 => ("DecimalMachine$Decimals", "state", "LDecimalMachine$State;", true)
  | 1 => ("DecimalMachine$Decimals", "memory", "LDecimalMachine$Memory;", true)
  | _ => ("DecimalMachine$Decimals", "source", "[I", true)
def tX_De : Nat → FieldType := fun k => match k with
  | 0 => .object "DecimalMachine$State"
  | 1 => .object "DecimalMachine$Memory"
  | _ => .array .int
theorem nX_De : ∀ a, a < 3 → ∀ b, b < 3 → a ≠ b → (TX_De a).2.1 ≠ (TX_De b).2.1 := by decide +kernel
theorem tX_De_ok : ∀ k, k < 3 → parseFieldDescriptor (TX_De k).2.2.1 = some (tX_De k) := by decide +kernel
theorem iX_De : ∀ w ∈ u_ws RX_De TX_De 3, w ∈ G0 := zIn _ [261, 263, 265] (by decide +kernel) (by decide +kernel)
def clX : List vw_C := [(RX_DM, TX_DM, 2), (RX_St, TX_St, 6), (RX_Me, TX_Me, 1), (RX_Pr, TX_Pr, 10), (RX_In, TX_In, 7), (RX_Ar, TX_Ar, 1), (RX_Tr, TX_Tr, 1), (RX_Br, TX_Br, 1), (RX_Oc, TX_Oc, 2), (RX_De, TX_De, 3)]
abbrev b_XDM_isWithin : ByteArray := prog_1_method_13_code
def y_XDM_isWithin : MethodName := ⟨RX_DM, "isWithin", "(III)Z"⟩
set_option maxRecDepth 20000 in
theorem kc_XDM_isWithin : Cond.code y_XDM_isWithin b_XDM_isWithin 3 (some .boolean) ∈ G0 := mG 320 rfl rfl
def w_XDM_isWithin : List Cond := .code y_XDM_isWithin b_XDM_isWithin 3 (some .boolean) :: G0
def rm_XDM_isWithin : Room := { frames := 0, cells := 0, slots := 0, locals := 0 }
abbrev b_XDM_isNibble : ByteArray := prog_1_method_14_code
def y_XDM_isNibble : MethodName := ⟨RX_DM, "isNibble", "(I)Z"⟩
set_option maxRecDepth 20000 in
theorem kc_XDM_isNibble : Cond.code y_XDM_isNibble b_XDM_isNibble 1 (some .boolean) ∈ G0 := mG 446 rfl rfl
def w_XDM_isNibble : List Cond := .code y_XDM_isNibble b_XDM_isNibble 1 (some .boolean) :: G0
def rm_XDM_isNibble : Room := { frames := 1, cells := 0, slots := 0, locals := 22 }
abbrev b_XDM_isPlace : ByteArray := prog_1_method_15_code
def y_XDM_isPlace : MethodName := ⟨RX_DM, "isPlace", "(II)Z"⟩
set_option maxRecDepth 20000 in
theorem kc_XDM_isPlace : Cond.code y_XDM_isPlace b_XDM_isPlace 2 (some .boolean) ∈ G0 := mG 486 rfl rfl
def w_XDM_isPlace : List Cond := .code y_XDM_isPlace b_XDM_isPlace 2 (some .boolean) :: G0
def rm_XDM_isPlace : Room := { frames := 2, cells := 0, slots := 0, locals := 42 }
abbrev b_XAr_lacksPair : ByteArray := prog_2_method_6_code
def y_XAr_lacksPair : MethodName := ⟨RX_Ar, "lacksPair", "(II)Z"⟩
set_option maxRecDepth 20000 in
theorem kc_XAr_lacksPair : Cond.code y_XAr_lacksPair b_XAr_lacksPair 2 (some .boolean) ∈ G0 := mG 792 rfl rfl
def w_XAr_lacksPair : List Cond := .code y_XAr_lacksPair b_XAr_lacksPair 2 (some .boolean) :: G0
def rm_XAr_lacksPair : Room := { frames := 0, cells := 0, slots := 0, locals := 0 }
abbrev b_XSt_value : ByteArray := prog_9_method_2_code
def y_XSt_value : MethodName := ⟨RX_St, "value", "(I)I"⟩
set_option maxRecDepth 20000 in
theorem kc_XSt_value : Cond.code y_XSt_value b_XSt_value 2 (some .int) ∈ G0 := mG 450 rfl rfl
def w_XSt_value : List Cond := .code y_XSt_value b_XSt_value 2 (some .int) :: G0
def rm_XSt_value : Room := { frames := 0, cells := 0, slots := 0, locals := 0 }
abbrev b_XSt_put : ByteArray := prog_9_method_3_code
def y_XSt_put : MethodName := ⟨RX_St, "put", "(II)V"⟩
set_option maxRecDepth 20000 in
theorem kc_XSt_put : Cond.code y_XSt_put b_XSt_put 3 none ∈ G0 := mG 454 rfl rfl
def w_XSt_put : List Cond := .code y_XSt_put b_XSt_put 3 none :: G0
def rm_XSt_put : Room := { frames := 0, cells := 0, slots := 0, locals := 0 }
abbrev b_XSt_conditionBySign : ByteArray := prog_9_method_4_code
def y_XSt_conditionBySign : MethodName := ⟨RX_St, "conditionBySign", "(J)V"⟩
set_option maxRecDepth 20000 in
theorem kc_XSt_conditionBySign : Cond.code y_XSt_conditionBySign b_XSt_conditionBySign 3 none ∈ G0 := mG 613 rfl rfl
def w_XSt_conditionBySign : List Cond := .code y_XSt_conditionBySign b_XSt_conditionBySign 3 none :: G0
def rm_XSt_conditionBySign : Room := { frames := 0, cells := 0, slots := 0, locals := 0 }
abbrev b_XSt_fixedOverflow : ByteArray := prog_9_method_6_code
def y_XSt_fixedOverflow : MethodName := ⟨RX_St, "fixedOverflow", "()I"⟩
set_option maxRecDepth 20000 in
theorem kc_XSt_fixedOverflow : Cond.code y_XSt_fixedOverflow b_XSt_fixedOverflow 1 (some .int) ∈ G0 := mG 617 rfl rfl
def w_XSt_fixedOverflow : List Cond := .code y_XSt_fixedOverflow b_XSt_fixedOverflow 1 (some .int) :: G0
def rm_XSt_fixedOverflow : Room := { frames := 0, cells := 0, slots := 0, locals := 0 }
abbrev b_XAr_putSigned : ByteArray := prog_2_method_11_code
def y_XAr_putSigned : MethodName := ⟨RX_Ar, "putSigned", "(IJ)I"⟩
set_option maxRecDepth 20000 in
theorem kc_XAr_putSigned : Cond.code y_XAr_putSigned b_XAr_putSigned 5 (some .int) ∈ G0 := mG 609 rfl rfl
def w_XAr_putSigned : List Cond := .code y_XAr_putSigned b_XAr_putSigned 5 (some .int) :: G0
def rm_XAr_putSigned : Room := { frames := 1, cells := 0, slots := 0, locals := 22 }
abbrev b_XSt_conditionByBits : ByteArray := prog_9_method_5_code
def y_XSt_conditionByBits : MethodName := ⟨RX_St, "conditionByBits", "(I)V"⟩
set_option maxRecDepth 20000 in
theorem kc_XSt_conditionByBits : Cond.code y_XSt_conditionByBits b_XSt_conditionByBits 2 none ∈ G0 := mG 625 rfl rfl
def w_XSt_conditionByBits : List Cond := .code y_XSt_conditionByBits b_XSt_conditionByBits 2 none :: G0
def rm_XSt_conditionByBits : Room := { frames := 0, cells := 0, slots := 0, locals := 0 }
abbrev b_XAr_putBits : ByteArray := prog_2_method_10_code
def y_XAr_putBits : MethodName := ⟨RX_Ar, "putBits", "(II)I"⟩
set_option maxRecDepth 20000 in
theorem kc_XAr_putBits : Cond.code y_XAr_putBits b_XAr_putBits 3 (some .int) ∈ G0 := mG 621 rfl rfl
def w_XAr_putBits : List Cond := .code y_XAr_putBits b_XAr_putBits 3 (some .int) :: G0
def rm_XAr_putBits : Room := { frames := 1, cells := 0, slots := 0, locals := 22 }
abbrev b_XAr_compare : ByteArray := prog_2_method_9_code
def y_XAr_compare : MethodName := ⟨RX_Ar, "compare", "(JJ)I"⟩
set_option maxRecDepth 20000 in
theorem kc_XAr_compare : Cond.code y_XAr_compare b_XAr_compare 5 (some .int) ∈ G0 := mG 630 rfl rfl
def w_XAr_compare : List Cond := .code y_XAr_compare b_XAr_compare 5 (some .int) :: G0
def rm_XAr_compare : Room := { frames := 1, cells := 0, slots := 0, locals := 22 }
abbrev b_XAr_load : ByteArray := prog_2_method_8_code
def y_XAr_load : MethodName := ⟨RX_Ar, "load", "(II)I"⟩
set_option maxRecDepth 20000 in
theorem kc_XAr_load : Cond.code y_XAr_load b_XAr_load 3 (some .int) ∈ G0 := mG 634 rfl rfl
def w_XAr_load : List Cond := .code y_XAr_load b_XAr_load 3 (some .int) :: G0
def rm_XAr_load : Room := { frames := 1, cells := 0, slots := 0, locals := 22 }
abbrev b_XAr_multiply : ByteArray := prog_2_method_13_code
def y_XAr_multiply : MethodName := ⟨RX_Ar, "multiply", "(II)I"⟩
set_option maxRecDepth 20000 in
theorem kc_XAr_multiply : Cond.code y_XAr_multiply b_XAr_multiply 5 (some .int) ∈ G0 := mG 638 rfl rfl
def w_XAr_multiply : List Cond := .code y_XAr_multiply b_XAr_multiply 5 (some .int) :: G0
def rm_XAr_multiply : Room := { frames := 1, cells := 0, slots := 0, locals := 22 }
abbrev b_XAr_divide : ByteArray := prog_2_method_14_code
def y_XAr_divide : MethodName := ⟨RX_Ar, "divide", "(II)I"⟩
set_option maxRecDepth 20000 in
theorem kc_XAr_divide : Cond.code y_XAr_divide b_XAr_divide 7 (some .int) ∈ G0 := mG 642 rfl rfl
def w_XAr_divide : List Cond := .code y_XAr_divide b_XAr_divide 7 (some .int) :: G0
def rm_XAr_divide : Room := { frames := 1, cells := 0, slots := 0, locals := 22 }
abbrev b_XAr_putUnsigned : ByteArray := prog_2_method_12_code
def y_XAr_putUnsigned : MethodName := ⟨RX_Ar, "putUnsigned", "(IJ)I"⟩
set_option maxRecDepth 20000 in
theorem kc_XAr_putUnsigned : Cond.code y_XAr_putUnsigned b_XAr_putUnsigned 5 (some .int) ∈ G0 := mG 646 rfl rfl
def w_XAr_putUnsigned : List Cond := .code y_XAr_putUnsigned b_XAr_putUnsigned 5 (some .int) :: G0
def rm_XAr_putUnsigned : Room := { frames := 1, cells := 0, slots := 0, locals := 22 }
abbrev b_XAr_apply : ByteArray := prog_2_method_7_code
def y_XAr_apply : MethodName := ⟨RX_Ar, "apply", "(III)I"⟩
set_option maxRecDepth 20000 in
theorem kc_XAr_apply : Cond.code y_XAr_apply b_XAr_apply 5 (some .int) ∈ G0 := mG 602 rfl rfl
def w_XAr_apply : List Cond := .code y_XAr_apply b_XAr_apply 5 (some .int) :: G0
def rm_XAr_apply : Room := { frames := 2, cells := 0, slots := 0, locals := 48 }
abbrev b_XAr_withRegister : ByteArray := prog_2_method_2_code
def y_XAr_withRegister : MethodName := ⟨RX_Ar, "withRegister", "(LDecimalMachine$Instruction;)I"⟩
set_option maxRecDepth 20000 in
theorem kc_XAr_withRegister : Cond.code y_XAr_withRegister b_XAr_withRegister 2 (some .int) ∈ G0 := mG 789 rfl rfl
def w_XAr_withRegister : List Cond := .code y_XAr_withRegister b_XAr_withRegister 2 (some .int) :: G0
def rm_XAr_withRegister : Room := { frames := 3, cells := 0, slots := 0, locals := 72 }
abbrev b_XMe_holds : ByteArray := prog_6_method_2_code
def y_XMe_holds : MethodName := ⟨RX_Me, "holds", "(II)Z"⟩
set_option maxRecDepth 20000 in
theorem kc_XMe_holds : Cond.code y_XMe_holds b_XMe_holds 3 (some .boolean) ∈ G0 := mG 400 rfl rfl
def w_XMe_holds : List Cond := .code y_XMe_holds b_XMe_holds 3 (some .boolean) :: G0
def rm_XMe_holds : Room := { frames := 0, cells := 0, slots := 0, locals := 0 }
abbrev b_XMe_faultOf : ByteArray := prog_6_method_3_code
def y_XMe_faultOf : MethodName := ⟨RX_Me, "faultOf", "(II)I"⟩
set_option maxRecDepth 20000 in
theorem kc_XMe_faultOf : Cond.code y_XMe_faultOf b_XMe_faultOf 3 (some .int) ∈ G0 := mG 568 rfl rfl
def w_XMe_faultOf : List Cond := .code y_XMe_faultOf b_XMe_faultOf 3 (some .int) :: G0
def rm_XMe_faultOf : Room := { frames := 1, cells := 0, slots := 0, locals := 22 }
abbrev b_XMe_get : ByteArray := prog_6_method_4_code
def y_XMe_get : MethodName := ⟨RX_Me, "get", "(I)I"⟩
set_option maxRecDepth 20000 in
theorem kc_XMe_get : Cond.code y_XMe_get b_XMe_get 2 (some .int) ∈ G0 := mG 436 rfl rfl
def w_XMe_get : List Cond := .code y_XMe_get b_XMe_get 2 (some .int) :: G0
def rm_XMe_get : Room := { frames := 0, cells := 0, slots := 0, locals := 0 }
abbrev b_XMe_word : ByteArray := prog_6_method_7_code
def y_XMe_word : MethodName := ⟨RX_Me, "word", "(I)I"⟩
set_option maxRecDepth 20000 in
theorem kc_XMe_word : Cond.code y_XMe_word b_XMe_word 2 (some .int) ∈ G0 := mG 586 rfl rfl
def w_XMe_word : List Cond := .code y_XMe_word b_XMe_word 2 (some .int) :: G0
def rm_XMe_word : Room := { frames := 1, cells := 0, slots := 0, locals := 21 }
abbrev b_XAr_withWord : ByteArray := prog_2_method_3_code
def y_XAr_withWord : MethodName := ⟨RX_Ar, "withWord", "(LDecimalMachine$Instruction;)I"⟩
set_option maxRecDepth 20000 in
theorem kc_XAr_withWord : Cond.code y_XAr_withWord b_XAr_withWord 4 (some .int) ∈ G0 := mG 796 rfl rfl
def w_XAr_withWord : List Cond := .code y_XAr_withWord b_XAr_withWord 4 (some .int) :: G0
def rm_XAr_withWord : Room := { frames := 3, cells := 0, slots := 0, locals := 72 }
abbrev b_XMe_half : ByteArray := prog_6_method_6_code
def y_XMe_half : MethodName := ⟨RX_Me, "half", "(I)I"⟩
set_option maxRecDepth 20000 in
theorem kc_XMe_half : Cond.code y_XMe_half b_XMe_half 2 (some .int) ∈ G0 := mG 596 rfl rfl
def w_XMe_half : List Cond := .code y_XMe_half b_XMe_half 2 (some .int) :: G0
def rm_XMe_half : Room := { frames := 1, cells := 0, slots := 0, locals := 21 }
abbrev b_XAr_withHalf : ByteArray := prog_2_method_4_code
def y_XAr_withHalf : MethodName := ⟨RX_Ar, "withHalf", "(LDecimalMachine$Instruction;)I"⟩
set_option maxRecDepth 20000 in
theorem kc_XAr_withHalf : Cond.code y_XAr_withHalf b_XAr_withHalf 4 (some .int) ∈ G0 := mG 591 rfl rfl
def w_XAr_withHalf : List Cond := .code y_XAr_withHalf b_XAr_withHalf 4 (some .int) :: G0
def rm_XAr_withHalf : Room := { frames := 3, cells := 0, slots := 0, locals := 72 }
abbrev b_XAr_shiftLeftBelowSign : ByteArray := prog_2_method_15_code
def y_XAr_shiftLeftBelowSign : MethodName := ⟨RX_Ar, "shiftLeftBelowSign", "(II)I"⟩
set_option maxRecDepth 20000 in
theorem kc_XAr_shiftLeftBelowSign : Cond.code y_XAr_shiftLeftBelowSign b_XAr_shiftLeftBelowSign 8 (some .int) ∈ G0 := mG 684 rfl rfl
def w_XAr_shiftLeftBelowSign : List Cond := .code y_XAr_shiftLeftBelowSign b_XAr_shiftLeftBelowSign 8 (some .int) :: G0
def rm_XAr_shiftLeftBelowSign : Room := { frames := 1, cells := 0, slots := 0, locals := 22 }
abbrev b_XAr_shift : ByteArray := prog_2_method_5_code
def y_XAr_shift : MethodName := ⟨RX_Ar, "shift", "(LDecimalMachine$Instruction;)I"⟩
set_option maxRecDepth 20000 in
theorem kc_XAr_shift : Cond.code y_XAr_shift b_XAr_shift 4 (some .int) ∈ G0 := mG 680 rfl rfl
def w_XAr_shift : List Cond := .code y_XAr_shift b_XAr_shift 4 (some .int) :: G0
def rm_XAr_shift : Room := { frames := 2, cells := 0, slots := 0, locals := 49 }
abbrev b_XBr_isAboveAfterStep : ByteArray := prog_3_method_4_code
def y_XBr_isAboveAfterStep : MethodName := ⟨RX_Br, "isAboveAfterStep", "(LDecimalMachine$Instruction;)Z"⟩
set_option maxRecDepth 20000 in
theorem kc_XBr_isAboveAfterStep : Cond.code y_XBr_isAboveAfterStep b_XBr_isAboveAfterStep 4 (some .boolean) ∈ G0 := mG 556 rfl rfl
def w_XBr_isAboveAfterStep : List Cond := .code y_XBr_isAboveAfterStep b_XBr_isAboveAfterStep 4 (some .boolean) :: G0
def rm_XBr_isAboveAfterStep : Room := { frames := 1, cells := 0, slots := 0, locals := 22 }
abbrev b_XBr_decide : ByteArray := prog_3_method_3_code
def y_XBr_decide : MethodName := ⟨RX_Br, "decide", "(LDecimalMachine$Instruction;)Z"⟩
set_option maxRecDepth 20000 in
theorem kc_XBr_decide : Cond.code y_XBr_decide b_XBr_decide 2 (some .boolean) ∈ G0 := mG 551 rfl rfl
def w_XBr_decide : List Cond := .code y_XBr_decide b_XBr_decide 2 (some .boolean) :: G0
def rm_XBr_decide : Room := { frames := 2, cells := 0, slots := 0, locals := 45 }
abbrev b_XBr_perform : ByteArray := prog_3_method_2_code
def y_XBr_perform : MethodName := ⟨RX_Br, "perform", "(LDecimalMachine$Instruction;)I"⟩
set_option maxRecDepth 20000 in
theorem kc_XBr_perform : Cond.code y_XBr_perform b_XBr_perform 5 (some .int) ∈ G0 := mG 545 rfl rfl
def w_XBr_perform : List Cond := .code y_XBr_perform b_XBr_perform 5 (some .int) :: G0
def rm_XBr_perform : Room := { frames := 3, cells := 0, slots := 0, locals := 66 }
abbrev b_XMe_put : ByteArray := prog_6_method_5_code
def y_XMe_put : MethodName := ⟨RX_Me, "put", "(II)V"⟩
set_option maxRecDepth 20000 in
theorem kc_XMe_put : Cond.code y_XMe_put b_XMe_put 3 none ∈ G0 := mG 425 rfl rfl
def w_XMe_put : List Cond := .code y_XMe_put b_XMe_put 3 none :: G0
def rm_XMe_put : Room := { frames := 0, cells := 0, slots := 0, locals := 0 }
abbrev b_XMe_putDecimal : ByteArray := prog_6_method_12_code
def y_XMe_putDecimal : MethodName := ⟨RX_Me, "putDecimal", "(IIJZ)V"⟩
set_option maxRecDepth 20000 in
theorem kc_XMe_putDecimal : Cond.code y_XMe_putDecimal b_XMe_putDecimal 10 none ∈ G0 := mG 657 rfl rfl
def w_XMe_putDecimal : List Cond := .code y_XMe_putDecimal b_XMe_putDecimal 10 none :: G0
def rm_XMe_putDecimal : Room := { frames := 1, cells := 0, slots := 0, locals := 22 }
abbrev b_XMe_isPacked : ByteArray := prog_6_method_9_code
def y_XMe_isPacked : MethodName := ⟨RX_Me, "isPacked", "(II)Z"⟩
set_option maxRecDepth 20000 in
theorem kc_XMe_isPacked : Cond.code y_XMe_isPacked b_XMe_isPacked 7 (some .boolean) ∈ G0 := mG 667 rfl rfl
def w_XMe_isPacked : List Cond := .code y_XMe_isPacked b_XMe_isPacked 7 (some .boolean) :: G0
def rm_XMe_isPacked : Room := { frames := 1, cells := 0, slots := 0, locals := 21 }
abbrev b_XMe_isMinus : ByteArray := prog_6_method_10_code
def y_XMe_isMinus : MethodName := ⟨RX_Me, "isMinus", "(II)Z"⟩
set_option maxRecDepth 20000 in
theorem kc_XMe_isMinus : Cond.code y_XMe_isMinus b_XMe_isMinus 4 (some .boolean) ∈ G0 := mG 675 rfl rfl
def w_XMe_isMinus : List Cond := .code y_XMe_isMinus b_XMe_isMinus 4 (some .boolean) :: G0
def rm_XMe_isMinus : Room := { frames := 1, cells := 0, slots := 0, locals := 21 }
abbrev b_XMe_decimal : ByteArray := prog_6_method_11_code
def y_XMe_decimal : MethodName := ⟨RX_Me, "decimal", "(II)J"⟩
set_option maxRecDepth 20000 in
theorem kc_XMe_decimal : Cond.code y_XMe_decimal b_XMe_decimal 7 (some .long) ∈ G0 := mG 671 rfl rfl
def w_XMe_decimal : List Cond := .code y_XMe_decimal b_XMe_decimal 7 (some .long) :: G0
def rm_XMe_decimal : Room := { frames := 2, cells := 0, slots := 0, locals := 44 }
abbrev b_XDe_convertToBinary : ByteArray := prog_4_method_3_code
def y_XDe_convertToBinary : MethodName := ⟨RX_De, "convertToBinary", "(LDecimalMachine$Instruction;)I"⟩
set_option maxRecDepth 20000 in
theorem kc_XDe_convertToBinary : Cond.code y_XDe_convertToBinary b_XDe_convertToBinary 4 (some .int) ∈ G0 := mG 663 rfl rfl
def w_XDe_convertToBinary : List Cond := .code y_XDe_convertToBinary b_XDe_convertToBinary 4 (some .int) :: G0
def rm_XDe_convertToBinary : Room := { frames := 3, cells := 0, slots := 0, locals := 70 }
abbrev b_XDe_convert : ByteArray := prog_4_method_2_code
def y_XDe_convert : MethodName := ⟨RX_De, "convert", "(LDecimalMachine$Instruction;)I"⟩
set_option maxRecDepth 20000 in
theorem kc_XDe_convert : Cond.code y_XDe_convert b_XDe_convert 5 (some .int) ∈ G0 := mG 650 rfl rfl
def w_XDe_convert : List Cond := .code y_XDe_convert b_XDe_convert 5 (some .int) :: G0
def rm_XDe_convert : Room := { frames := 4, cells := 0, slots := 0, locals := 93 }
abbrev b_XDe_sourceOctet : ByteArray := prog_4_method_5_code
def y_XDe_sourceOctet : MethodName := ⟨RX_De, "sourceOctet", "(I)I"⟩
set_option maxRecDepth 20000 in
theorem kc_XDe_sourceOctet : Cond.code y_XDe_sourceOctet b_XDe_sourceOctet 2 (some .int) ∈ G0 := mG 737 rfl rfl
def w_XDe_sourceOctet : List Cond := .code y_XDe_sourceOctet b_XDe_sourceOctet 2 (some .int) :: G0
def rm_XDe_sourceOctet : Room := { frames := 0, cells := 0, slots := 0, locals := 0 }
abbrev b_XDe_packRest : ByteArray := prog_4_method_6_code
def y_XDe_packRest : MethodName := ⟨RX_De, "packRest", "(III)V"⟩
set_option maxRecDepth 20000 in
theorem kc_XDe_packRest : Cond.code y_XDe_packRest b_XDe_packRest 8 none ∈ G0 := mG 742 rfl rfl
def w_XDe_packRest : List Cond := .code y_XDe_packRest b_XDe_packRest 8 none :: G0
def rm_XDe_packRest : Room := { frames := 1, cells := 0, slots := 0, locals := 22 }
abbrev b_XDe_unpackRest : ByteArray := prog_4_method_7_code
def y_XDe_unpackRest : MethodName := ⟨RX_De, "unpackRest", "(III)V"⟩
set_option maxRecDepth 20000 in
theorem kc_XDe_unpackRest : Cond.code y_XDe_unpackRest b_XDe_unpackRest 7 none ∈ G0 := mG 746 rfl rfl
def w_XDe_unpackRest : List Cond := .code y_XDe_unpackRest b_XDe_unpackRest 7 none :: G0
def rm_XDe_unpackRest : Room := { frames := 1, cells := 0, slots := 0, locals := 22 }
abbrev b_XDe_changeForm : ByteArray := prog_4_method_4_code
def y_XDe_changeForm : MethodName := ⟨RX_De, "changeForm", "(LDecimalMachine$Instruction;)I"⟩
set_option maxRecDepth 20000 in
theorem kc_XDe_changeForm : Cond.code y_XDe_changeForm b_XDe_changeForm 5 (some .int) ∈ G0 := mG 731 rfl rfl
def w_XDe_changeForm : List Cond := .code y_XDe_changeForm b_XDe_changeForm 5 (some .int) :: G0
def rm_XDe_changeForm : Room := { frames := 2, cells := 0, slots := 0, locals := 49 }
abbrev b_XDe_startsWithZeros : ByteArray := prog_4_method_10_code
def y_XDe_startsWithZeros : MethodName := ⟨RX_De, "startsWithZeros", "(II)Z"⟩
set_option maxRecDepth 20000 in
theorem kc_XDe_startsWithZeros : Cond.code y_XDe_startsWithZeros b_XDe_startsWithZeros 5 (some .boolean) ∈ G0 := mG 758 rfl rfl
def w_XDe_startsWithZeros : List Cond := .code y_XDe_startsWithZeros b_XDe_startsWithZeros 5 (some .boolean) :: G0
def rm_XDe_startsWithZeros : Room := { frames := 1, cells := 0, slots := 0, locals := 21 }
abbrev b_XDe_faultOfFields : ByteArray := prog_4_method_9_code
def y_XDe_faultOfFields : MethodName := ⟨RX_De, "faultOfFields", "(LDecimalMachine$Instruction;II)I"⟩
set_option maxRecDepth 20000 in
theorem kc_XDe_faultOfFields : Cond.code y_XDe_faultOfFields b_XDe_faultOfFields 6 (some .int) ∈ G0 := mG 754 rfl rfl
def w_XDe_faultOfFields : List Cond := .code y_XDe_faultOfFields b_XDe_faultOfFields 6 (some .int) :: G0
def rm_XDe_faultOfFields : Room := { frames := 2, cells := 0, slots := 0, locals := 47 }
abbrev b_XDe_hasRoom : ByteArray := prog_4_method_11_code
def y_XDe_hasRoom : MethodName := ⟨RX_De, "hasRoom", "(JI)Z"⟩
set_option maxRecDepth 20000 in
theorem kc_XDe_hasRoom : Cond.code y_XDe_hasRoom b_XDe_hasRoom 6 (some .boolean) ∈ G0 := mG 766 rfl rfl
def w_XDe_hasRoom : List Cond := .code y_XDe_hasRoom b_XDe_hasRoom 6 (some .boolean) :: G0
def rm_XDe_hasRoom : Room := { frames := 0, cells := 0, slots := 0, locals := 0 }
abbrev b_XSt_decimalOverflow : ByteArray := prog_9_method_7_code
def y_XSt_decimalOverflow : MethodName := ⟨RX_St, "decimalOverflow", "()I"⟩
set_option maxRecDepth 20000 in
theorem kc_XSt_decimalOverflow : Cond.code y_XSt_decimalOverflow b_XSt_decimalOverflow 1 (some .int) ∈ G0 := mG 772 rfl rfl
def w_XSt_decimalOverflow : List Cond := .code y_XSt_decimalOverflow b_XSt_decimalOverflow 1 (some .int) :: G0
def rm_XSt_decimalOverflow : Room := { frames := 0, cells := 0, slots := 0, locals := 0 }
abbrev b_XDe_putSum : ByteArray := prog_4_method_12_code
def y_XDe_putSum : MethodName := ⟨RX_De, "putSum", "(IIJ)I"⟩
set_option maxRecDepth 20000 in
theorem kc_XDe_putSum : Cond.code y_XDe_putSum b_XDe_putSum 7 (some .int) ∈ G0 := mG 762 rfl rfl
def w_XDe_putSum : List Cond := .code y_XDe_putSum b_XDe_putSum 7 (some .int) :: G0
def rm_XDe_putSum : Room := { frames := 2, cells := 0, slots := 0, locals := 51 }
abbrev b_XDe_multiply : ByteArray := prog_4_method_13_code
def y_XDe_multiply : MethodName := ⟨RX_De, "multiply", "(LDecimalMachine$Instruction;II)I"⟩
set_option maxRecDepth 20000 in
theorem kc_XDe_multiply : Cond.code y_XDe_multiply b_XDe_multiply 7 (some .int) ∈ G0 := mG 776 rfl rfl
def w_XDe_multiply : List Cond := .code y_XDe_multiply b_XDe_multiply 7 (some .int) :: G0
def rm_XDe_multiply : Room := { frames := 3, cells := 0, slots := 0, locals := 70 }
abbrev b_XDe_divide : ByteArray := prog_4_method_14_code
def y_XDe_divide : MethodName := ⟨RX_De, "divide", "(LDecimalMachine$Instruction;II)I"⟩
set_option maxRecDepth 20000 in
theorem kc_XDe_divide : Cond.code y_XDe_divide b_XDe_divide 11 (some .int) ∈ G0 := mG 781 rfl rfl
def w_XDe_divide : List Cond := .code y_XDe_divide b_XDe_divide 11 (some .int) :: G0
def rm_XDe_divide : Room := { frames := 3, cells := 0, slots := 0, locals := 70 }
abbrev b_XDe_calculate : ByteArray := prog_4_method_8_code
def y_XDe_calculate : MethodName := ⟨RX_De, "calculate", "(LDecimalMachine$Instruction;)I"⟩
set_option maxRecDepth 20000 in
theorem kc_XDe_calculate : Cond.code y_XDe_calculate b_XDe_calculate 9 (some .int) ∈ G0 := mG 750 rfl rfl
def w_XDe_calculate : List Cond := .code y_XDe_calculate b_XDe_calculate 9 (some .int) :: G0
def rm_XDe_calculate : Room := { frames := 4, cells := 0, slots := 0, locals := 100 }
abbrev b_XIn_place : ByteArray := prog_5_method_4_code
def y_XIn_place : MethodName := ⟨RX_In, "place", "(LDecimalMachine$State;I)I"⟩
set_option maxRecDepth 20000 in
theorem kc_XIn_place : Cond.code y_XIn_place b_XIn_place 4 (some .int) ∈ G0 := mG 536 rfl rfl
def w_XIn_place : List Cond := .code y_XIn_place b_XIn_place 4 (some .int) :: G0
def rm_XIn_place : Room := { frames := 1, cells := 0, slots := 0, locals := 21 }
abbrev b_XIn_findAddresses : ByteArray := prog_5_method_3_code
def y_XIn_findAddresses : MethodName := ⟨RX_In, "findAddresses", "(LDecimalMachine$State;I)V"⟩
set_option maxRecDepth 20000 in
theorem kc_XIn_findAddresses : Cond.code y_XIn_findAddresses b_XIn_findAddresses 4 none ∈ G0 := mG 532 rfl rfl
def w_XIn_findAddresses : List Cond := .code y_XIn_findAddresses b_XIn_findAddresses 4 none :: G0
def rm_XIn_findAddresses : Room := { frames := 2, cells := 0, slots := 0, locals := 44 }
abbrev b_XIn_fetch : ByteArray := prog_5_method_2_code
def y_XIn_fetch : MethodName := ⟨RX_In, "fetch", "(LDecimalMachine$State;)I"⟩
set_option maxRecDepth 20000 in
theorem kc_XIn_fetch : Cond.code y_XIn_fetch b_XIn_fetch 4 (some .int) ∈ G0 := mG 526 rfl rfl
def w_XIn_fetch : List Cond := .code y_XIn_fetch b_XIn_fetch 4 (some .int) :: G0
def rm_XIn_fetch : Room := { frames := 3, cells := 0, slots := 0, locals := 67 }
abbrev b_XMe_store : ByteArray := prog_6_method_8_code
def y_XMe_store : MethodName := ⟨RX_Me, "store", "(IIJ)V"⟩
set_option maxRecDepth 20000 in
theorem kc_XMe_store : Cond.code y_XMe_store b_XMe_store 8 none ∈ G0 := mG 420 rfl rfl
def w_XMe_store : List Cond := .code y_XMe_store b_XMe_store 8 none :: G0
def rm_XMe_store : Room := { frames := 1, cells := 0, slots := 0, locals := 22 }
abbrev b_XOc_testBits : ByteArray := prog_7_method_4_code
def y_XOc_testBits : MethodName := ⟨RX_Oc, "testBits", "(II)V"⟩
set_option maxRecDepth 20000 in
theorem kc_XOc_testBits : Cond.code y_XOc_testBits b_XOc_testBits 4 none ∈ G0 := mG 696 rfl rfl
def w_XOc_testBits : List Cond := .code y_XOc_testBits b_XOc_testBits 4 none :: G0
def rm_XOc_testBits : Room := { frames := 0, cells := 0, slots := 0, locals := 0 }
abbrev b_XOc_putBits : ByteArray := prog_7_method_5_code
def y_XOc_putBits : MethodName := ⟨RX_Oc, "putBits", "(II)I"⟩
set_option maxRecDepth 20000 in
theorem kc_XOc_putBits : Cond.code y_XOc_putBits b_XOc_putBits 3 (some .int) ∈ G0 := mG 701 rfl rfl
def w_XOc_putBits : List Cond := .code y_XOc_putBits b_XOc_putBits 3 (some .int) :: G0
def rm_XOc_putBits : Room := { frames := 1, cells := 0, slots := 0, locals := 22 }
abbrev b_XOc_withImmediate : ByteArray := prog_7_method_2_code
def y_XOc_withImmediate : MethodName := ⟨RX_Oc, "withImmediate", "(LDecimalMachine$Instruction;)I"⟩
set_option maxRecDepth 20000 in
theorem kc_XOc_withImmediate : Cond.code y_XOc_withImmediate b_XOc_withImmediate 3 (some .int) ∈ G0 := mG 690 rfl rfl
def w_XOc_withImmediate : List Cond := .code y_XOc_withImmediate b_XOc_withImmediate 3 (some .int) :: G0
def rm_XOc_withImmediate : Room := { frames := 2, cells := 0, slots := 0, locals := 44 }
abbrev b_XOc_entry : ByteArray := prog_7_method_10_code
def y_XOc_entry : MethodName := ⟨RX_Oc, "entry", "(LDecimalMachine$Instruction;I)I"⟩
set_option maxRecDepth 20000 in
theorem kc_XOc_entry : Cond.code y_XOc_entry b_XOc_entry 3 (some .int) ∈ G0 := mG 715 rfl rfl
def w_XOc_entry : List Cond := .code y_XOc_entry b_XOc_entry 3 (some .int) :: G0
def rm_XOc_entry : Room := { frames := 1, cells := 0, slots := 0, locals := 21 }
abbrev b_XOc_translate : ByteArray := prog_7_method_9_code
def y_XOc_translate : MethodName := ⟨RX_Oc, "translate", "(LDecimalMachine$Instruction;I)I"⟩
set_option maxRecDepth 20000 in
theorem kc_XOc_translate : Cond.code y_XOc_translate b_XOc_translate 4 (some .int) ∈ G0 := mG 711 rfl rfl
def w_XOc_translate : List Cond := .code y_XOc_translate b_XOc_translate 4 (some .int) :: G0
def rm_XOc_translate : Room := { frames := 2, cells := 0, slots := 0, locals := 43 }
abbrev b_XOc_compare : ByteArray := prog_7_method_6_code
def y_XOc_compare : MethodName := ⟨RX_Oc, "compare", "(LDecimalMachine$Instruction;I)I"⟩
set_option maxRecDepth 20000 in
theorem kc_XOc_compare : Cond.code y_XOc_compare b_XOc_compare 5 (some .int) ∈ G0 := mG 720 rfl rfl
def w_XOc_compare : List Cond := .code y_XOc_compare b_XOc_compare 5 (some .int) :: G0
def rm_XOc_compare : Room := { frames := 1, cells := 0, slots := 0, locals := 22 }
abbrev b_XOc_join : ByteArray := prog_7_method_8_code
def y_XOc_join : MethodName := ⟨RX_Oc, "join", "(III)I"⟩
set_option maxRecDepth 20000 in
theorem kc_XOc_join : Cond.code y_XOc_join b_XOc_join 3 (some .int) ∈ G0 := mG 727 rfl rfl
def w_XOc_join : List Cond := .code y_XOc_join b_XOc_join 3 (some .int) :: G0
def rm_XOc_join : Room := { frames := 0, cells := 0, slots := 0, locals := 0 }
abbrev b_XOc_rewrite : ByteArray := prog_7_method_7_code
def y_XOc_rewrite : MethodName := ⟨RX_Oc, "rewrite", "(LDecimalMachine$Instruction;I)I"⟩
set_option maxRecDepth 20000 in
theorem kc_XOc_rewrite : Cond.code y_XOc_rewrite b_XOc_rewrite 6 (some .int) ∈ G0 := mG 724 rfl rfl
def w_XOc_rewrite : List Cond := .code y_XOc_rewrite b_XOc_rewrite 6 (some .int) :: G0
def rm_XOc_rewrite : Room := { frames := 1, cells := 0, slots := 0, locals := 22 }
abbrev b_XOc_withField : ByteArray := prog_7_method_3_code
def y_XOc_withField : MethodName := ⟨RX_Oc, "withField", "(LDecimalMachine$Instruction;)I"⟩
set_option maxRecDepth 20000 in
theorem kc_XOc_withField : Cond.code y_XOc_withField b_XOc_withField 3 (some .int) ∈ G0 := mG 707 rfl rfl
def w_XOc_withField : List Cond := .code y_XOc_withField b_XOc_withField 3 (some .int) :: G0
def rm_XOc_withField : Room := { frames := 3, cells := 0, slots := 0, locals := 66 }
abbrev b_XTr_store : ByteArray := prog_10_method_3_code
def y_XTr_store : MethodName := ⟨RX_Tr, "store", "(LDecimalMachine$Instruction;I)I"⟩
set_option maxRecDepth 20000 in
theorem kc_XTr_store : Cond.code y_XTr_store b_XTr_store 4 (some .int) ∈ G0 := mG 564 rfl rfl
def w_XTr_store : List Cond := .code y_XTr_store b_XTr_store 4 (some .int) :: G0
def rm_XTr_store : Room := { frames := 2, cells := 0, slots := 0, locals := 49 }
abbrev b_XTr_insert : ByteArray := prog_10_method_4_code
def y_XTr_insert : MethodName := ⟨RX_Tr, "insert", "(LDecimalMachine$Instruction;)I"⟩
set_option maxRecDepth 20000 in
theorem kc_XTr_insert : Cond.code y_XTr_insert b_XTr_insert 2 (some .int) ∈ G0 := mG 576 rfl rfl
def w_XTr_insert : List Cond := .code y_XTr_insert b_XTr_insert 2 (some .int) :: G0
def rm_XTr_insert : Room := { frames := 1, cells := 0, slots := 0, locals := 22 }
abbrev b_XTr_several : ByteArray := prog_10_method_5_code
def y_XTr_several : MethodName := ⟨RX_Tr, "several", "(LDecimalMachine$Instruction;)I"⟩
set_option maxRecDepth 20000 in
theorem kc_XTr_several : Cond.code y_XTr_several b_XTr_several 5 (some .int) ∈ G0 := mG 582 rfl rfl
def w_XTr_several : List Cond := .code y_XTr_several b_XTr_several 5 (some .int) :: G0
def rm_XTr_several : Room := { frames := 2, cells := 0, slots := 0, locals := 49 }
abbrev b_XTr_perform : ByteArray := prog_10_method_2_code
def y_XTr_perform : MethodName := ⟨RX_Tr, "perform", "(LDecimalMachine$Instruction;)I"⟩
set_option maxRecDepth 20000 in
theorem kc_XTr_perform : Cond.code y_XTr_perform b_XTr_perform 2 (some .int) ∈ G0 := mG 560 rfl rfl
def w_XTr_perform : List Cond := .code y_XTr_perform b_XTr_perform 2 (some .int) :: G0
def rm_XTr_perform : Room := { frames := 3, cells := 0, slots := 0, locals := 73 }
abbrev b_XPr_performRegular : ByteArray := prog_8_method_4_code
def y_XPr_performRegular : MethodName := ⟨RX_Pr, "performRegular", "(LDecimalMachine$Instruction;)I"⟩
set_option maxRecDepth 20000 in
theorem kc_XPr_performRegular : Cond.code y_XPr_performRegular b_XPr_performRegular 2 (some .int) ∈ G0 := mG 785 rfl rfl
def w_XPr_performRegular : List Cond := .code y_XPr_performRegular b_XPr_performRegular 2 (some .int) :: G0
def rm_XPr_performRegular : Room := { frames := 4, cells := 0, slots := 0, locals := 95 }
abbrev b_XPr_perform : ByteArray := prog_8_method_3_code
def y_XPr_perform : MethodName := ⟨RX_Pr, "perform", "(LDecimalMachine$Instruction;)I"⟩
set_option maxRecDepth 20000 in
theorem kc_XPr_perform : Cond.code y_XPr_perform b_XPr_perform 2 (some .int) ∈ G0 := mG 541 rfl rfl
def w_XPr_perform : List Cond := .code y_XPr_perform b_XPr_perform 2 (some .int) :: G0
def rm_XPr_perform : Room := { frames := 5, cells := 0, slots := 0, locals := 128 }
abbrev b_XPr_step : ByteArray := prog_8_method_2_code
def y_XPr_step : MethodName := ⟨RX_Pr, "step", "()I"⟩
set_option maxRecDepth 20000 in
theorem kc_XPr_step : Cond.code y_XPr_step b_XPr_step 3 (some .int) ∈ G0 := mG 522 rfl rfl
def w_XPr_step : List Cond := .code y_XPr_step b_XPr_step 3 (some .int) :: G0
def rm_XPr_step : Room := { frames := 6, cells := 0, slots := 0, locals := 149 }
set_option maxRecDepth 20000 in
theorem kX_Ar_113 : Cond.constant RX_Ar 113 (-2147483648) ∈ G0 := mG 685 rfl rfl
set_option maxRecDepth 20000 in
theorem kX_Ar_114 : Cond.constant RX_Ar 114 (2147483647) ∈ G0 := mG 686 rfl rfl
set_option maxRecDepth 20000 in
theorem kX_Ar_64 : Cond.constantLong RX_Ar 64 4294967295 ∈ G0 := mG 626 rfl rfl
set_option maxRecDepth 20000 in
theorem kX_Ar_76 : Cond.methodLink RX_Ar 76 Lib.MathLoose.abs_long.x ∈ G0 := mG 603 rfl rfl
set_option maxRecDepth 20000 in
theorem kX_Ar_9 : Cond.fieldLink RX_Ar 9 "DecimalMachine$Arithmetic" "state" "LDecimalMachine$State;" ∈ G0 := mG 215 rfl rfl
set_option maxRecDepth 20000 in
theorem kX_Br_30 : Cond.constant RX_Br 30 (16777215) ∈ G0 := mG 547 rfl rfl
set_option maxRecDepth 20000 in
theorem kX_Br_9 : Cond.fieldLink RX_Br 9 "DecimalMachine$Branches" "state" "LDecimalMachine$State;" ∈ G0 := mG 235 rfl rfl
set_option maxRecDepth 20000 in
theorem kX_De_118 : Cond.constantLong RX_De 118 10 ∈ G0 := mG 767 rfl rfl
set_option maxRecDepth 20000 in
theorem kX_De_120 : Cond.constantLong RX_De 120 100 ∈ G0 := mG 768 rfl rfl
set_option maxRecDepth 20000 in
theorem kX_De_15 : Cond.fieldLink RX_De 15 "DecimalMachine$Decimals" "state" "LDecimalMachine$State;" ∈ G0 := mG 258 rfl rfl
set_option maxRecDepth 20000 in
theorem kX_De_25 : Cond.fieldLink RX_De 25 "DecimalMachine$Decimals" "memory" "LDecimalMachine$Memory;" ∈ G0 := mG 259 rfl rfl
set_option maxRecDepth 20000 in
theorem kX_De_48 : Cond.methodLink RX_De 48 Lib.MathLoose.abs_long.x ∈ G0 := mG 653 rfl rfl
set_option maxRecDepth 20000 in
theorem kX_De_9 : Cond.fieldLink RX_De 9 "DecimalMachine$Decimals" "source" "[I" ∈ G0 := mG 260 rfl rfl
set_option maxRecDepth 20000 in
theorem kX_In_29 : Cond.fieldLink RX_In 29 "DecimalMachine$Instruction" "code" "I" ∈ G0 := mG 167 rfl rfl
set_option maxRecDepth 20000 in
theorem kX_In_34 : Cond.fieldLink RX_In 34 "DecimalMachine$Instruction" "second" "I" ∈ G0 := mG 170 rfl rfl
set_option maxRecDepth 20000 in
theorem kX_In_37 : Cond.fieldLink RX_In 37 "DecimalMachine$Instruction" "r1" "I" ∈ G0 := mG 175 rfl rfl
set_option maxRecDepth 20000 in
theorem kX_In_40 : Cond.fieldLink RX_In 40 "DecimalMachine$Instruction" "r2" "I" ∈ G0 := mG 179 rfl rfl
set_option maxRecDepth 20000 in
theorem kX_In_43 : Cond.fieldLink RX_In 43 "DecimalMachine$Instruction" "behind" "I" ∈ G0 := mG 192 rfl rfl
set_option maxRecDepth 20000 in
theorem kX_In_57 : Cond.constant RX_In 57 (16777215) ∈ G0 := mG 537 rfl rfl
set_option maxRecDepth 20000 in
theorem kX_In_58 : Cond.fieldLink RX_In 58 "DecimalMachine$Instruction" "a1" "I" ∈ G0 := mG 183 rfl rfl
set_option maxRecDepth 20000 in
theorem kX_In_61 : Cond.fieldLink RX_In 61 "DecimalMachine$Instruction" "a2" "I" ∈ G0 := mG 190 rfl rfl
set_option maxRecDepth 20000 in
theorem kX_Me_11 : Cond.fieldLink RX_Me 11 "DecimalMachine$Memory" "octets" "[I" ∈ G0 := mG 109 rfl rfl
set_option maxRecDepth 20000 in
theorem kX_Me_23 : Cond.constantLong RX_Me 23 255 ∈ G0 := mG 421 rfl rfl
set_option maxRecDepth 20000 in
theorem kX_Me_29 : Cond.constantLong RX_Me 29 100 ∈ G0 := mG 659 rfl rfl
set_option maxRecDepth 20000 in
theorem kX_Me_31 : Cond.constantLong RX_Me 31 10 ∈ G0 := mG 658 rfl rfl
set_option maxRecDepth 20000 in
theorem kX_Oc_21 : Cond.fieldLink RX_Oc 21 "DecimalMachine$Octets" "memory" "LDecimalMachine$Memory;" ∈ G0 := mG 246 rfl rfl
set_option maxRecDepth 20000 in
theorem kX_Oc_86 : Cond.constant RX_Oc 86 (16777215) ∈ G0 := mG 716 rfl rfl
set_option maxRecDepth 20000 in
theorem kX_Oc_9 : Cond.fieldLink RX_Oc 9 "DecimalMachine$Octets" "state" "LDecimalMachine$State;" ∈ G0 := mG 245 rfl rfl
set_option maxRecDepth 20000 in
theorem kX_Pr_12 : Cond.fieldLink RX_Pr 12 "DecimalMachine$Processor" "instruction" "LDecimalMachine$Instruction;" ∈ G0 := mG 269 rfl rfl
set_option maxRecDepth 20000 in
theorem kX_Pr_18 : Cond.fieldLink RX_Pr 18 "DecimalMachine$Processor" "done" "I" ∈ G0 := mG 275 rfl rfl
set_option maxRecDepth 20000 in
theorem kX_Pr_22 : Cond.fieldLink RX_Pr 22 "DecimalMachine$Processor" "faults" "I" ∈ G0 := mG 277 rfl rfl
set_option maxRecDepth 20000 in
theorem kX_Pr_25 : Cond.fieldLink RX_Pr 25 "DecimalMachine$Processor" "latestFault" "I" ∈ G0 := mG 279 rfl rfl
set_option maxRecDepth 20000 in
theorem kX_Pr_28 : Cond.fieldLink RX_Pr 28 "DecimalMachine$Processor" "state" "LDecimalMachine$State;" ∈ G0 := mG 268 rfl rfl
set_option maxRecDepth 20000 in
theorem kX_Pr_37 : Cond.fieldLink RX_Pr 37 "DecimalMachine$Processor" "arithmetic" "LDecimalMachine$Arithmetic;" ∈ G0 := mG 270 rfl rfl
set_option maxRecDepth 20000 in
theorem kX_Pr_44 : Cond.fieldLink RX_Pr 44 "DecimalMachine$Processor" "transfers" "LDecimalMachine$Transfers;" ∈ G0 := mG 271 rfl rfl
set_option maxRecDepth 20000 in
theorem kX_Pr_51 : Cond.fieldLink RX_Pr 51 "DecimalMachine$Processor" "branches" "LDecimalMachine$Branches;" ∈ G0 := mG 272 rfl rfl
set_option maxRecDepth 20000 in
theorem kX_Pr_58 : Cond.fieldLink RX_Pr 58 "DecimalMachine$Processor" "octets" "LDecimalMachine$Octets;" ∈ G0 := mG 273 rfl rfl
set_option maxRecDepth 20000 in
theorem kX_Pr_65 : Cond.fieldLink RX_Pr 65 "DecimalMachine$Processor" "decimals" "LDecimalMachine$Decimals;" ∈ G0 := mG 274 rfl rfl
set_option maxRecDepth 20000 in
theorem kX_St_18 : Cond.fieldLink RX_St 18 "DecimalMachine$State" "registers" "[I" ∈ G0 := mG 121 rfl rfl
set_option maxRecDepth 20000 in
theorem kX_St_26 : Cond.fieldLink RX_St 26 "DecimalMachine$State" "condition" "I" ∈ G0 := mG 127 rfl rfl
set_option maxRecDepth 20000 in
theorem kX_St_29 : Cond.fieldLink RX_St 29 "DecimalMachine$State" "mask" "I" ∈ G0 := mG 132 rfl rfl
set_option maxRecDepth 20000 in
theorem kX_Tr_9 : Cond.fieldLink RX_Tr 9 "DecimalMachine$Transfers" "state" "LDecimalMachine$State;" ∈ G0 := mG 225 rfl rfl
def nwX : List Cond := [Cond.fieldLinkNest RX_Ar 110 "DecimalMachine$State" "condition" "I" "DecimalMachine", Cond.fieldLinkNest RX_Ar 15 "DecimalMachine$Instruction" "code" "I" "DecimalMachine", Cond.fieldLinkNest RX_Ar 21 "DecimalMachine$Instruction" "r1" "I" "DecimalMachine", Cond.fieldLinkNest RX_Ar 28 "DecimalMachine$Instruction" "r2" "I" "DecimalMachine", Cond.fieldLinkNest RX_Ar 41 "DecimalMachine$State" "memory" "LDecimalMachine$Memory;" "DecimalMachine", Cond.fieldLinkNest RX_Ar 45 "DecimalMachine$Instruction" "a2" "I" "DecimalMachine", Cond.fieldLinkNest RX_Br 15 "DecimalMachine$Instruction" "code" "I" "DecimalMachine", Cond.fieldLinkNest RX_Br 21 "DecimalMachine$Instruction" "r2" "I" "DecimalMachine", Cond.fieldLinkNest RX_Br 31 "DecimalMachine$Instruction" "a2" "I" "DecimalMachine", Cond.fieldLinkNest RX_Br 38 "DecimalMachine$State" "next" "I" "DecimalMachine", Cond.fieldLinkNest RX_Br 41 "DecimalMachine$Instruction" "r1" "I" "DecimalMachine", Cond.fieldLinkNest RX_Br 44 "DecimalMachine$Instruction" "behind" "I" "DecimalMachine", Cond.fieldLinkNest RX_Br 51 "DecimalMachine$State" "condition" "I" "DecimalMachine", Cond.fieldLinkNest RX_De 26 "DecimalMachine$Instruction" "a2" "I" "DecimalMachine", Cond.fieldLinkNest RX_De 38 "DecimalMachine$Instruction" "code" "I" "DecimalMachine", Cond.fieldLinkNest RX_De 41 "DecimalMachine$Instruction" "r1" "I" "DecimalMachine", Cond.fieldLinkNest RX_De 74 "DecimalMachine$Instruction" "r2" "I" "DecimalMachine", Cond.fieldLinkNest RX_De 77 "DecimalMachine$Instruction" "a1" "I" "DecimalMachine", Cond.fieldLinkNest RX_In 15 "DecimalMachine$State" "memory" "LDecimalMachine$Memory;" "DecimalMachine", Cond.fieldLinkNest RX_In 9 "DecimalMachine$State" "next" "I" "DecimalMachine", Cond.fieldLinkNest RX_Oc 22 "DecimalMachine$Instruction" "a1" "I" "DecimalMachine", Cond.fieldLinkNest RX_Oc 38 "DecimalMachine$Instruction" "code" "I" "DecimalMachine", Cond.fieldLinkNest RX_Oc 41 "DecimalMachine$Instruction" "second" "I" "DecimalMachine", Cond.fieldLinkNest RX_Oc 63 "DecimalMachine$Instruction" "a2" "I" "DecimalMachine", Cond.fieldLinkNest RX_Oc 72 "DecimalMachine$State" "condition" "I" "DecimalMachine", Cond.fieldLinkNest RX_Pr 69 "DecimalMachine$State" "next" "I" "DecimalMachine", Cond.fieldLinkNest RX_Pr 78 "DecimalMachine$Instruction" "behind" "I" "DecimalMachine", Cond.fieldLinkNest RX_Pr 85 "DecimalMachine$Instruction" "code" "I" "DecimalMachine", Cond.fieldLinkNest RX_Pr 88 "DecimalMachine$Instruction" "second" "I" "DecimalMachine", Cond.fieldLinkNest RX_Pr 91 "DecimalMachine$State" "halt" "I" "DecimalMachine", Cond.fieldLinkNest RX_Tr 15 "DecimalMachine$Instruction" "code" "I" "DecimalMachine", Cond.fieldLinkNest RX_Tr 25 "DecimalMachine$Instruction" "r1" "I" "DecimalMachine", Cond.fieldLinkNest RX_Tr 28 "DecimalMachine$Instruction" "a2" "I" "DecimalMachine", Cond.fieldLinkNest RX_Tr 44 "DecimalMachine$State" "memory" "LDecimalMachine$Memory;" "DecimalMachine", Cond.fieldLinkNest RX_Tr 68 "DecimalMachine$Instruction" "r2" "I" "DecimalMachine"]
theorem kX_Ar_110 : Cond.fieldLinkNest RX_Ar 110 "DecimalMachine$State" "condition" "I" "DecimalMachine" ∈ nwX := List.mem_of_getElem? (i := 0) rfl
theorem kX_Ar_15 : Cond.fieldLinkNest RX_Ar 15 "DecimalMachine$Instruction" "code" "I" "DecimalMachine" ∈ nwX := List.mem_of_getElem? (i := 1) rfl
theorem kX_Ar_21 : Cond.fieldLinkNest RX_Ar 21 "DecimalMachine$Instruction" "r1" "I" "DecimalMachine" ∈ nwX := List.mem_of_getElem? (i := 2) rfl
theorem kX_Ar_28 : Cond.fieldLinkNest RX_Ar 28 "DecimalMachine$Instruction" "r2" "I" "DecimalMachine" ∈ nwX := List.mem_of_getElem? (i := 3) rfl
theorem kX_Ar_41 : Cond.fieldLinkNest RX_Ar 41 "DecimalMachine$State" "memory" "LDecimalMachine$Memory;" "DecimalMachine" ∈ nwX := List.mem_of_getElem? (i := 4) rfl
theorem kX_Ar_45 : Cond.fieldLinkNest RX_Ar 45 "DecimalMachine$Instruction" "a2" "I" "DecimalMachine" ∈ nwX := List.mem_of_getElem? (i := 5) rfl
theorem kX_Br_15 : Cond.fieldLinkNest RX_Br 15 "DecimalMachine$Instruction" "code" "I" "DecimalMachine" ∈ nwX := List.mem_of_getElem? (i := 6) rfl
theorem kX_Br_21 : Cond.fieldLinkNest RX_Br 21 "DecimalMachine$Instruction" "r2" "I" "DecimalMachine" ∈ nwX := List.mem_of_getElem? (i := 7) rfl
theorem kX_Br_31 : Cond.fieldLinkNest RX_Br 31 "DecimalMachine$Instruction" "a2" "I" "DecimalMachine" ∈ nwX := List.mem_of_getElem? (i := 8) rfl
theorem kX_Br_38 : Cond.fieldLinkNest RX_Br 38 "DecimalMachine$State" "next" "I" "DecimalMachine" ∈ nwX := List.mem_of_getElem? (i := 9) rfl
theorem kX_Br_41 : Cond.fieldLinkNest RX_Br 41 "DecimalMachine$Instruction" "r1" "I" "DecimalMachine" ∈ nwX := List.mem_of_getElem? (i := 10) rfl
theorem kX_Br_44 : Cond.fieldLinkNest RX_Br 44 "DecimalMachine$Instruction" "behind" "I" "DecimalMachine" ∈ nwX := List.mem_of_getElem? (i := 11) rfl
theorem kX_Br_51 : Cond.fieldLinkNest RX_Br 51 "DecimalMachine$State" "condition" "I" "DecimalMachine" ∈ nwX := List.mem_of_getElem? (i := 12) rfl
theorem kX_De_26 : Cond.fieldLinkNest RX_De 26 "DecimalMachine$Instruction" "a2" "I" "DecimalMachine" ∈ nwX := List.mem_of_getElem? (i := 13) rfl
theorem kX_De_38 : Cond.fieldLinkNest RX_De 38 "DecimalMachine$Instruction" "code" "I" "DecimalMachine" ∈ nwX := List.mem_of_getElem? (i := 14) rfl
theorem kX_De_41 : Cond.fieldLinkNest RX_De 41 "DecimalMachine$Instruction" "r1" "I" "DecimalMachine" ∈ nwX := List.mem_of_getElem? (i := 15) rfl
theorem kX_De_74 : Cond.fieldLinkNest RX_De 74 "DecimalMachine$Instruction" "r2" "I" "DecimalMachine" ∈ nwX := List.mem_of_getElem? (i := 16) rfl
theorem kX_De_77 : Cond.fieldLinkNest RX_De 77 "DecimalMachine$Instruction" "a1" "I" "DecimalMachine" ∈ nwX := List.mem_of_getElem? (i := 17) rfl
theorem kX_In_15 : Cond.fieldLinkNest RX_In 15 "DecimalMachine$State" "memory" "LDecimalMachine$Memory;" "DecimalMachine" ∈ nwX := List.mem_of_getElem? (i := 18) rfl
theorem kX_In_9 : Cond.fieldLinkNest RX_In 9 "DecimalMachine$State" "next" "I" "DecimalMachine" ∈ nwX := List.mem_of_getElem? (i := 19) rfl
theorem kX_Oc_22 : Cond.fieldLinkNest RX_Oc 22 "DecimalMachine$Instruction" "a1" "I" "DecimalMachine" ∈ nwX := List.mem_of_getElem? (i := 20) rfl
theorem kX_Oc_38 : Cond.fieldLinkNest RX_Oc 38 "DecimalMachine$Instruction" "code" "I" "DecimalMachine" ∈ nwX := List.mem_of_getElem? (i := 21) rfl
theorem kX_Oc_41 : Cond.fieldLinkNest RX_Oc 41 "DecimalMachine$Instruction" "second" "I" "DecimalMachine" ∈ nwX := List.mem_of_getElem? (i := 22) rfl
theorem kX_Oc_63 : Cond.fieldLinkNest RX_Oc 63 "DecimalMachine$Instruction" "a2" "I" "DecimalMachine" ∈ nwX := List.mem_of_getElem? (i := 23) rfl
theorem kX_Oc_72 : Cond.fieldLinkNest RX_Oc 72 "DecimalMachine$State" "condition" "I" "DecimalMachine" ∈ nwX := List.mem_of_getElem? (i := 24) rfl
theorem kX_Pr_69 : Cond.fieldLinkNest RX_Pr 69 "DecimalMachine$State" "next" "I" "DecimalMachine" ∈ nwX := List.mem_of_getElem? (i := 25) rfl
theorem kX_Pr_78 : Cond.fieldLinkNest RX_Pr 78 "DecimalMachine$Instruction" "behind" "I" "DecimalMachine" ∈ nwX := List.mem_of_getElem? (i := 26) rfl
theorem kX_Pr_85 : Cond.fieldLinkNest RX_Pr 85 "DecimalMachine$Instruction" "code" "I" "DecimalMachine" ∈ nwX := List.mem_of_getElem? (i := 27) rfl
theorem kX_Pr_88 : Cond.fieldLinkNest RX_Pr 88 "DecimalMachine$Instruction" "second" "I" "DecimalMachine" ∈ nwX := List.mem_of_getElem? (i := 28) rfl
theorem kX_Pr_91 : Cond.fieldLinkNest RX_Pr 91 "DecimalMachine$State" "halt" "I" "DecimalMachine" ∈ nwX := List.mem_of_getElem? (i := 29) rfl
theorem kX_Tr_15 : Cond.fieldLinkNest RX_Tr 15 "DecimalMachine$Instruction" "code" "I" "DecimalMachine" ∈ nwX := List.mem_of_getElem? (i := 30) rfl
theorem kX_Tr_25 : Cond.fieldLinkNest RX_Tr 25 "DecimalMachine$Instruction" "r1" "I" "DecimalMachine" ∈ nwX := List.mem_of_getElem? (i := 31) rfl
theorem kX_Tr_28 : Cond.fieldLinkNest RX_Tr 28 "DecimalMachine$Instruction" "a2" "I" "DecimalMachine" ∈ nwX := List.mem_of_getElem? (i := 32) rfl
theorem kX_Tr_44 : Cond.fieldLinkNest RX_Tr 44 "DecimalMachine$State" "memory" "LDecimalMachine$Memory;" "DecimalMachine" ∈ nwX := List.mem_of_getElem? (i := 33) rfl
theorem kX_Tr_68 : Cond.fieldLinkNest RX_Tr 68 "DecimalMachine$Instruction" "r2" "I" "DecimalMachine" ∈ nwX := List.mem_of_getElem? (i := 34) rfl
theorem nwX_in : ∀ w ∈ nwX, w ∈ lw_tbl := zInL _ [131, 164, 172, 178, 120, 188, 162, 177, 186, 125, 176, 193, 128, 185, 165, 173, 180, 184, 117, 123, 182, 166, 169, 189, 129, 124, 191, 168, 171, 135, 163, 174, 187, 119, 181] (by decide +kernel)
theorem nwX_ok : ∀ w ∈ nwX, zNest w = true := by decide +kernel
set_option maxRecDepth 20000 in
theorem kwX_0 : Cond.methodLink RX_Ar 102 y_XSt_conditionByBits ∈ G0 := mG 622 rfl rfl
set_option maxRecDepth 20000 in
theorem kwX_1 : Cond.initialized RX_St ∈ G0 := mG 71 rfl rfl
set_option maxRecDepth 20000 in
theorem kwX_2 : Cond.instanceMethod y_XSt_conditionByBits ∈ G0 := mG 623 rfl rfl
set_option maxRecDepth 20000 in
theorem kwX_3 : Cond.selects RX_St y_XSt_conditionByBits y_XSt_conditionByBits ∈ G0 := mG 624 rfl rfl
theorem qX_Ar_102 {R : Room} {s : State} {args : Array Value} (hts : ∀ w ∈ G0, w.before args s = true) (hR : (rm_XSt_conditionByBits).frames + 1 ≤ R.frames ∧ 8 + (2 + 11) + (rm_XSt_conditionByBits).locals ≤ R.locals) : CallW R s args RX_Ar RX_St 102 y_XSt_conditionByBits b_XSt_conditionByBits 2 none w_XSt_conditionByBits rm_XSt_conditionByBits 0 0 1 := cwV 1 hts (zgV kwX_0 kwX_2 kwX_3 kwX_1 kc_XSt_conditionByBits) rfl rfl rfl (by decide +kernel) hR
set_option maxRecDepth 20000 in
theorem kwX_4 : Cond.methodLink RX_Ar 106 y_XSt_fixedOverflow ∈ G0 := mG 614 rfl rfl
set_option maxRecDepth 20000 in
theorem kwX_5 : Cond.instanceMethod y_XSt_fixedOverflow ∈ G0 := mG 615 rfl rfl
set_option maxRecDepth 20000 in
theorem kwX_6 : Cond.selects RX_St y_XSt_fixedOverflow y_XSt_fixedOverflow ∈ G0 := mG 616 rfl rfl
theorem qX_Ar_106 {R : Room} {s : State} {args : Array Value} (hts : ∀ w ∈ G0, w.before args s = true) (hR : (rm_XSt_fixedOverflow).frames + 1 ≤ R.frames ∧ 8 + (1 + 11) + (rm_XSt_fixedOverflow).locals ≤ R.locals) : CallW R s args RX_Ar RX_St 106 y_XSt_fixedOverflow b_XSt_fixedOverflow 1 (some .int) w_XSt_fixedOverflow rm_XSt_fixedOverflow 0 0 0 := cwV 0 hts (zgV kwX_4 kwX_5 kwX_6 kwX_1 kc_XSt_fixedOverflow) rfl rfl rfl (by decide +kernel) hR
set_option maxRecDepth 20000 in
theorem kwX_7 : Cond.methodLink RX_Ar 24 y_XAr_lacksPair ∈ G0 := mG 790 rfl rfl
set_option maxRecDepth 20000 in
theorem kwX_8 : Cond.initialized RX_Ar ∈ G0 := mG 75 rfl rfl
set_option maxRecDepth 20000 in
theorem kwX_9 : Cond.static y_XAr_lacksPair ∈ G0 := mG 791 rfl rfl
theorem qX_Ar_24 {R : Room} {s : State} {args : Array Value} (hts : ∀ w ∈ G0, w.before args s = true) (hR : (rm_XAr_lacksPair).frames + 1 ≤ R.frames ∧ 8 + (2 + 11) + (rm_XAr_lacksPair).locals ≤ R.locals) : CallB R s args RX_Ar 24 y_XAr_lacksPair b_XAr_lacksPair 2 (some .boolean) w_XAr_lacksPair rm_XAr_lacksPair 0 0 2 ∧ (Cond.static y_XAr_lacksPair).before args s = true := cwS 2 hts (zgS kwX_7 kwX_9 kwX_8 kc_XAr_lacksPair) rfl rfl rfl (by decide +kernel) hR
set_option maxRecDepth 20000 in
theorem kwX_10 : Cond.methodLink RX_Ar 31 y_XSt_value ∈ G0 := mG 597 rfl rfl
set_option maxRecDepth 20000 in
theorem kwX_11 : Cond.instanceMethod y_XSt_value ∈ G0 := mG 448 rfl rfl
set_option maxRecDepth 20000 in
theorem kwX_12 : Cond.selects RX_St y_XSt_value y_XSt_value ∈ G0 := mG 449 rfl rfl
theorem qX_Ar_31 {R : Room} {s : State} {args : Array Value} (hts : ∀ w ∈ G0, w.before args s = true) (hR : (rm_XSt_value).frames + 1 ≤ R.frames ∧ 8 + (2 + 11) + (rm_XSt_value).locals ≤ R.locals) : CallW R s args RX_Ar RX_St 31 y_XSt_value b_XSt_value 2 (some .int) w_XSt_value rm_XSt_value 0 0 1 := cwV 1 hts (zgV kwX_10 kwX_11 kwX_12 kwX_1 kc_XSt_value) rfl rfl rfl (by decide +kernel) hR
set_option maxRecDepth 20000 in
theorem kwX_13 : Cond.methodLink RX_Ar 37 y_XAr_apply ∈ G0 := mG 599 rfl rfl
set_option maxRecDepth 20000 in
theorem kwX_14 : Cond.instanceMethod y_XAr_apply ∈ G0 := mG 601 rfl rfl
set_option maxRecDepth 20000 in
theorem kwX_15 : Cond.selects RX_Ar y_XAr_apply y_XAr_apply ∈ G0 := mG 9 rfl rfl
theorem qX_Ar_37 {R : Room} {s : State} {args : Array Value} (hts : ∀ w ∈ G0, w.before args s = true) (hR : (rm_XAr_apply).frames + 1 ≤ R.frames ∧ 8 + (5 + 11) + (rm_XAr_apply).locals ≤ R.locals) : CallW R s args RX_Ar RX_Ar 37 y_XAr_apply b_XAr_apply 5 (some .int) w_XAr_apply rm_XAr_apply 0 0 3 := cwV 3 hts (zgV kwX_13 kwX_14 kwX_15 kwX_8 kc_XAr_apply) rfl rfl rfl (by decide +kernel) hR
set_option maxRecDepth 20000 in
theorem kwX_16 : Cond.methodLink RX_Ar 48 y_XMe_faultOf ∈ G0 := mG 592 rfl rfl
set_option maxRecDepth 20000 in
theorem kwX_17 : Cond.initialized RX_Me ∈ G0 := mG 72 rfl rfl
set_option maxRecDepth 20000 in
theorem kwX_18 : Cond.instanceMethod y_XMe_faultOf ∈ G0 := mG 566 rfl rfl
set_option maxRecDepth 20000 in
theorem kwX_19 : Cond.selects RX_Me y_XMe_faultOf y_XMe_faultOf ∈ G0 := mG 567 rfl rfl
theorem qX_Ar_48 {R : Room} {s : State} {args : Array Value} (hts : ∀ w ∈ G0, w.before args s = true) (hR : (rm_XMe_faultOf).frames + 1 ≤ R.frames ∧ 8 + (3 + 11) + (rm_XMe_faultOf).locals ≤ R.locals) : CallW R s args RX_Ar RX_Me 48 y_XMe_faultOf b_XMe_faultOf 3 (some .int) w_XMe_faultOf rm_XMe_faultOf 0 0 2 := cwV 2 hts (zgV kwX_16 kwX_18 kwX_19 kwX_17 kc_XMe_faultOf) rfl rfl rfl (by decide +kernel) hR
set_option maxRecDepth 20000 in
theorem kwX_20 : Cond.methodLink RX_Ar 54 y_XMe_word ∈ G0 := mG 797 rfl rfl
set_option maxRecDepth 20000 in
theorem kwX_21 : Cond.instanceMethod y_XMe_word ∈ G0 := mG 584 rfl rfl
set_option maxRecDepth 20000 in
theorem kwX_22 : Cond.selects RX_Me y_XMe_word y_XMe_word ∈ G0 := mG 585 rfl rfl
theorem qX_Ar_54 {R : Room} {s : State} {args : Array Value} (hts : ∀ w ∈ G0, w.before args s = true) (hR : (rm_XMe_word).frames + 1 ≤ R.frames ∧ 8 + (2 + 11) + (rm_XMe_word).locals ≤ R.locals) : CallW R s args RX_Ar RX_Me 54 y_XMe_word b_XMe_word 2 (some .int) w_XMe_word rm_XMe_word 0 0 1 := cwV 1 hts (zgV kwX_20 kwX_21 kwX_22 kwX_17 kc_XMe_word) rfl rfl rfl (by decide +kernel) hR
set_option maxRecDepth 20000 in
theorem kwX_23 : Cond.methodLink RX_Ar 57 y_XMe_half ∈ G0 := mG 593 rfl rfl
set_option maxRecDepth 20000 in
theorem kwX_24 : Cond.instanceMethod y_XMe_half ∈ G0 := mG 594 rfl rfl
set_option maxRecDepth 20000 in
theorem kwX_25 : Cond.selects RX_Me y_XMe_half y_XMe_half ∈ G0 := mG 595 rfl rfl
theorem qX_Ar_57 {R : Room} {s : State} {args : Array Value} (hts : ∀ w ∈ G0, w.before args s = true) (hR : (rm_XMe_half).frames + 1 ≤ R.frames ∧ 8 + (2 + 11) + (rm_XMe_half).locals ≤ R.locals) : CallW R s args RX_Ar RX_Me 57 y_XMe_half b_XMe_half 2 (some .int) w_XMe_half rm_XMe_half 0 0 1 := cwV 1 hts (zgV kwX_23 kwX_24 kwX_25 kwX_17 kc_XMe_half) rfl rfl rfl (by decide +kernel) hR
set_option maxRecDepth 20000 in
theorem kwX_26 : Cond.methodLink RX_Ar 60 y_XSt_put ∈ G0 := mG 598 rfl rfl
set_option maxRecDepth 20000 in
theorem kwX_27 : Cond.instanceMethod y_XSt_put ∈ G0 := mG 452 rfl rfl
set_option maxRecDepth 20000 in
theorem kwX_28 : Cond.selects RX_St y_XSt_put y_XSt_put ∈ G0 := mG 453 rfl rfl
theorem qX_Ar_60 {R : Room} {s : State} {args : Array Value} (hts : ∀ w ∈ G0, w.before args s = true) (hR : (rm_XSt_put).frames + 1 ≤ R.frames ∧ 8 + (3 + 11) + (rm_XSt_put).locals ≤ R.locals) : CallW R s args RX_Ar RX_St 60 y_XSt_put b_XSt_put 3 none w_XSt_put rm_XSt_put 0 0 2 := cwV 2 hts (zgV kwX_26 kwX_27 kwX_28 kwX_1 kc_XSt_put) rfl rfl rfl (by decide +kernel) hR
set_option maxRecDepth 20000 in
theorem kwX_29 : Cond.methodLink RX_Ar 66 y_XAr_load ∈ G0 := mG 631 rfl rfl
set_option maxRecDepth 20000 in
theorem kwX_30 : Cond.instanceMethod y_XAr_load ∈ G0 := mG 633 rfl rfl
set_option maxRecDepth 20000 in
theorem kwX_31 : Cond.selects RX_Ar y_XAr_load y_XAr_load ∈ G0 := mG 13 rfl rfl
theorem qX_Ar_66 {R : Room} {s : State} {args : Array Value} (hts : ∀ w ∈ G0, w.before args s = true) (hR : (rm_XAr_load).frames + 1 ≤ R.frames ∧ 8 + (3 + 11) + (rm_XAr_load).locals ≤ R.locals) : CallW R s args RX_Ar RX_Ar 66 y_XAr_load b_XAr_load 3 (some .int) w_XAr_load rm_XAr_load 0 0 2 := cwV 2 hts (zgV kwX_29 kwX_30 kwX_31 kwX_8 kc_XAr_load) rfl rfl rfl (by decide +kernel) hR
set_option maxRecDepth 20000 in
theorem kwX_32 : Cond.methodLink RX_Ar 69 y_XAr_putSigned ∈ G0 := mG 606 rfl rfl
set_option maxRecDepth 20000 in
theorem kwX_33 : Cond.instanceMethod y_XAr_putSigned ∈ G0 := mG 608 rfl rfl
set_option maxRecDepth 20000 in
theorem kwX_34 : Cond.selects RX_Ar y_XAr_putSigned y_XAr_putSigned ∈ G0 := mG 10 rfl rfl
theorem qX_Ar_69 {R : Room} {s : State} {args : Array Value} (hts : ∀ w ∈ G0, w.before args s = true) (hR : (rm_XAr_putSigned).frames + 1 ≤ R.frames ∧ 8 + (5 + 11) + (rm_XAr_putSigned).locals ≤ R.locals) : CallW R s args RX_Ar RX_Ar 69 y_XAr_putSigned b_XAr_putSigned 5 (some .int) w_XAr_putSigned rm_XAr_putSigned 0 0 2 := cwV 2 hts (zgV kwX_32 kwX_33 kwX_34 kwX_8 kc_XAr_putSigned) rfl rfl rfl (by decide +kernel) hR
set_option maxRecDepth 20000 in
theorem kwX_35 : Cond.methodLink RX_Ar 73 y_XAr_shiftLeftBelowSign ∈ G0 := mG 681 rfl rfl
set_option maxRecDepth 20000 in
theorem kwX_36 : Cond.instanceMethod y_XAr_shiftLeftBelowSign ∈ G0 := mG 683 rfl rfl
set_option maxRecDepth 20000 in
theorem kwX_37 : Cond.selects RX_Ar y_XAr_shiftLeftBelowSign y_XAr_shiftLeftBelowSign ∈ G0 := mG 18 rfl rfl
theorem qX_Ar_73 {R : Room} {s : State} {args : Array Value} (hts : ∀ w ∈ G0, w.before args s = true) (hR : (rm_XAr_shiftLeftBelowSign).frames + 1 ≤ R.frames ∧ 8 + (8 + 11) + (rm_XAr_shiftLeftBelowSign).locals ≤ R.locals) : CallW R s args RX_Ar RX_Ar 73 y_XAr_shiftLeftBelowSign b_XAr_shiftLeftBelowSign 8 (some .int) w_XAr_shiftLeftBelowSign rm_XAr_shiftLeftBelowSign 0 0 2 := cwV 2 hts (zgV kwX_35 kwX_36 kwX_37 kwX_8 kc_XAr_shiftLeftBelowSign) rfl rfl rfl (by decide +kernel) hR
set_option maxRecDepth 20000 in
theorem kwX_38 : Cond.methodLink RX_Ar 82 y_XAr_putBits ∈ G0 := mG 618 rfl rfl
set_option maxRecDepth 20000 in
theorem kwX_39 : Cond.instanceMethod y_XAr_putBits ∈ G0 := mG 620 rfl rfl
set_option maxRecDepth 20000 in
theorem kwX_40 : Cond.selects RX_Ar y_XAr_putBits y_XAr_putBits ∈ G0 := mG 11 rfl rfl
theorem qX_Ar_82 {R : Room} {s : State} {args : Array Value} (hts : ∀ w ∈ G0, w.before args s = true) (hR : (rm_XAr_putBits).frames + 1 ≤ R.frames ∧ 8 + (3 + 11) + (rm_XAr_putBits).locals ≤ R.locals) : CallW R s args RX_Ar RX_Ar 82 y_XAr_putBits b_XAr_putBits 3 (some .int) w_XAr_putBits rm_XAr_putBits 0 0 2 := cwV 2 hts (zgV kwX_38 kwX_39 kwX_40 kwX_8 kc_XAr_putBits) rfl rfl rfl (by decide +kernel) hR
set_option maxRecDepth 20000 in
theorem kwX_41 : Cond.methodLink RX_Ar 85 y_XAr_compare ∈ G0 := mG 627 rfl rfl
set_option maxRecDepth 20000 in
theorem kwX_42 : Cond.instanceMethod y_XAr_compare ∈ G0 := mG 629 rfl rfl
set_option maxRecDepth 20000 in
theorem kwX_43 : Cond.selects RX_Ar y_XAr_compare y_XAr_compare ∈ G0 := mG 12 rfl rfl
theorem qX_Ar_85 {R : Room} {s : State} {args : Array Value} (hts : ∀ w ∈ G0, w.before args s = true) (hR : (rm_XAr_compare).frames + 1 ≤ R.frames ∧ 8 + (5 + 11) + (rm_XAr_compare).locals ≤ R.locals) : CallW R s args RX_Ar RX_Ar 85 y_XAr_compare b_XAr_compare 5 (some .int) w_XAr_compare rm_XAr_compare 0 0 2 := cwV 2 hts (zgV kwX_41 kwX_42 kwX_43 kwX_8 kc_XAr_compare) rfl rfl rfl (by decide +kernel) hR
set_option maxRecDepth 20000 in
theorem kwX_44 : Cond.methodLink RX_Ar 89 y_XAr_multiply ∈ G0 := mG 635 rfl rfl
set_option maxRecDepth 20000 in
theorem kwX_45 : Cond.instanceMethod y_XAr_multiply ∈ G0 := mG 637 rfl rfl
set_option maxRecDepth 20000 in
theorem kwX_46 : Cond.selects RX_Ar y_XAr_multiply y_XAr_multiply ∈ G0 := mG 14 rfl rfl
theorem qX_Ar_89 {R : Room} {s : State} {args : Array Value} (hts : ∀ w ∈ G0, w.before args s = true) (hR : (rm_XAr_multiply).frames + 1 ≤ R.frames ∧ 8 + (5 + 11) + (rm_XAr_multiply).locals ≤ R.locals) : CallW R s args RX_Ar RX_Ar 89 y_XAr_multiply b_XAr_multiply 5 (some .int) w_XAr_multiply rm_XAr_multiply 0 0 2 := cwV 2 hts (zgV kwX_44 kwX_45 kwX_46 kwX_8 kc_XAr_multiply) rfl rfl rfl (by decide +kernel) hR
set_option maxRecDepth 20000 in
theorem kwX_47 : Cond.methodLink RX_Ar 92 y_XAr_divide ∈ G0 := mG 639 rfl rfl
set_option maxRecDepth 20000 in
theorem kwX_48 : Cond.instanceMethod y_XAr_divide ∈ G0 := mG 641 rfl rfl
set_option maxRecDepth 20000 in
theorem kwX_49 : Cond.selects RX_Ar y_XAr_divide y_XAr_divide ∈ G0 := mG 15 rfl rfl
theorem qX_Ar_92 {R : Room} {s : State} {args : Array Value} (hts : ∀ w ∈ G0, w.before args s = true) (hR : (rm_XAr_divide).frames + 1 ≤ R.frames ∧ 8 + (7 + 11) + (rm_XAr_divide).locals ≤ R.locals) : CallW R s args RX_Ar RX_Ar 92 y_XAr_divide b_XAr_divide 7 (some .int) w_XAr_divide rm_XAr_divide 0 0 2 := cwV 2 hts (zgV kwX_47 kwX_48 kwX_49 kwX_8 kc_XAr_divide) rfl rfl rfl (by decide +kernel) hR
set_option maxRecDepth 20000 in
theorem kwX_50 : Cond.methodLink RX_Ar 95 y_XAr_putUnsigned ∈ G0 := mG 643 rfl rfl
set_option maxRecDepth 20000 in
theorem kwX_51 : Cond.instanceMethod y_XAr_putUnsigned ∈ G0 := mG 645 rfl rfl
set_option maxRecDepth 20000 in
theorem kwX_52 : Cond.selects RX_Ar y_XAr_putUnsigned y_XAr_putUnsigned ∈ G0 := mG 16 rfl rfl
theorem qX_Ar_95 {R : Room} {s : State} {args : Array Value} (hts : ∀ w ∈ G0, w.before args s = true) (hR : (rm_XAr_putUnsigned).frames + 1 ≤ R.frames ∧ 8 + (5 + 11) + (rm_XAr_putUnsigned).locals ≤ R.locals) : CallW R s args RX_Ar RX_Ar 95 y_XAr_putUnsigned b_XAr_putUnsigned 5 (some .int) w_XAr_putUnsigned rm_XAr_putUnsigned 0 0 2 := cwV 2 hts (zgV kwX_50 kwX_51 kwX_52 kwX_8 kc_XAr_putUnsigned) rfl rfl rfl (by decide +kernel) hR
set_option maxRecDepth 20000 in
theorem kwX_53 : Cond.methodLink RX_Ar 98 y_XSt_conditionBySign ∈ G0 := mG 610 rfl rfl
set_option maxRecDepth 20000 in
theorem kwX_54 : Cond.instanceMethod y_XSt_conditionBySign ∈ G0 := mG 611 rfl rfl
set_option maxRecDepth 20000 in
theorem kwX_55 : Cond.selects RX_St y_XSt_conditionBySign y_XSt_conditionBySign ∈ G0 := mG 612 rfl rfl
theorem qX_Ar_98 {R : Room} {s : State} {args : Array Value} (hts : ∀ w ∈ G0, w.before args s = true) (hR : (rm_XSt_conditionBySign).frames + 1 ≤ R.frames ∧ 8 + (3 + 11) + (rm_XSt_conditionBySign).locals ≤ R.locals) : CallW R s args RX_Ar RX_St 98 y_XSt_conditionBySign b_XSt_conditionBySign 3 none w_XSt_conditionBySign rm_XSt_conditionBySign 0 0 1 := cwV 1 hts (zgV kwX_53 kwX_54 kwX_55 kwX_1 kc_XSt_conditionBySign) rfl rfl rfl (by decide +kernel) hR
set_option maxRecDepth 20000 in
theorem kwX_56 : Cond.methodLink RX_Br 24 y_XSt_value ∈ G0 := mG 546 rfl rfl
theorem qX_Br_24 {R : Room} {s : State} {args : Array Value} (hts : ∀ w ∈ G0, w.before args s = true) (hR : (rm_XSt_value).frames + 1 ≤ R.frames ∧ 8 + (2 + 11) + (rm_XSt_value).locals ≤ R.locals) : CallW R s args RX_Br RX_St 24 y_XSt_value b_XSt_value 2 (some .int) w_XSt_value rm_XSt_value 0 0 1 := cwV 1 hts (zgV kwX_56 kwX_11 kwX_12 kwX_1 kc_XSt_value) rfl rfl rfl (by decide +kernel) hR
set_option maxRecDepth 20000 in
theorem kwX_57 : Cond.methodLink RX_Br 34 y_XBr_decide ∈ G0 := mG 548 rfl rfl
set_option maxRecDepth 20000 in
theorem kwX_58 : Cond.initialized RX_Br ∈ G0 := mG 77 rfl rfl
set_option maxRecDepth 20000 in
theorem kwX_59 : Cond.instanceMethod y_XBr_decide ∈ G0 := mG 550 rfl rfl
set_option maxRecDepth 20000 in
theorem kwX_60 : Cond.selects RX_Br y_XBr_decide y_XBr_decide ∈ G0 := mG 4 rfl rfl
theorem qX_Br_34 {R : Room} {s : State} {args : Array Value} (hts : ∀ w ∈ G0, w.before args s = true) (hR : (rm_XBr_decide).frames + 1 ≤ R.frames ∧ 8 + (2 + 11) + (rm_XBr_decide).locals ≤ R.locals) : CallW R s args RX_Br RX_Br 34 y_XBr_decide b_XBr_decide 2 (some .boolean) w_XBr_decide rm_XBr_decide 0 0 1 := cwV 1 hts (zgV kwX_57 kwX_59 kwX_60 kwX_58 kc_XBr_decide) rfl rfl rfl (by decide +kernel) hR
set_option maxRecDepth 20000 in
theorem kwX_61 : Cond.methodLink RX_Br 47 y_XSt_put ∈ G0 := mG 552 rfl rfl
theorem qX_Br_47 {R : Room} {s : State} {args : Array Value} (hts : ∀ w ∈ G0, w.before args s = true) (hR : (rm_XSt_put).frames + 1 ≤ R.frames ∧ 8 + (3 + 11) + (rm_XSt_put).locals ≤ R.locals) : CallW R s args RX_Br RX_St 47 y_XSt_put b_XSt_put 3 none w_XSt_put rm_XSt_put 0 0 2 := cwV 2 hts (zgV kwX_61 kwX_27 kwX_28 kwX_1 kc_XSt_put) rfl rfl rfl (by decide +kernel) hR
set_option maxRecDepth 20000 in
theorem kwX_62 : Cond.methodLink RX_Br 54 y_XBr_isAboveAfterStep ∈ G0 := mG 553 rfl rfl
set_option maxRecDepth 20000 in
theorem kwX_63 : Cond.instanceMethod y_XBr_isAboveAfterStep ∈ G0 := mG 555 rfl rfl
set_option maxRecDepth 20000 in
theorem kwX_64 : Cond.selects RX_Br y_XBr_isAboveAfterStep y_XBr_isAboveAfterStep ∈ G0 := mG 5 rfl rfl
theorem qX_Br_54 {R : Room} {s : State} {args : Array Value} (hts : ∀ w ∈ G0, w.before args s = true) (hR : (rm_XBr_isAboveAfterStep).frames + 1 ≤ R.frames ∧ 8 + (4 + 11) + (rm_XBr_isAboveAfterStep).locals ≤ R.locals) : CallW R s args RX_Br RX_Br 54 y_XBr_isAboveAfterStep b_XBr_isAboveAfterStep 4 (some .boolean) w_XBr_isAboveAfterStep rm_XBr_isAboveAfterStep 0 0 1 := cwV 1 hts (zgV kwX_62 kwX_63 kwX_64 kwX_58 kc_XBr_isAboveAfterStep) rfl rfl rfl (by decide +kernel) hR
set_option maxRecDepth 20000 in
theorem kwX_65 : Cond.methodLink RX_DM 25 y_XDM_isWithin ∈ G0 := mG 318 rfl rfl
set_option maxRecDepth 20000 in
theorem kwX_66 : Cond.initialized RX_DM ∈ G0 := mG 70 rfl rfl
set_option maxRecDepth 20000 in
theorem kwX_67 : Cond.static y_XDM_isWithin ∈ G0 := mG 319 rfl rfl
theorem qX_DM_25 {R : Room} {s : State} {args : Array Value} (hts : ∀ w ∈ G0, w.before args s = true) (hR : (rm_XDM_isWithin).frames + 1 ≤ R.frames ∧ 8 + (3 + 11) + (rm_XDM_isWithin).locals ≤ R.locals) : CallB R s args RX_DM 25 y_XDM_isWithin b_XDM_isWithin 3 (some .boolean) w_XDM_isWithin rm_XDM_isWithin 0 0 3 ∧ (Cond.static y_XDM_isWithin).before args s = true := cwS 3 hts (zgS kwX_65 kwX_67 kwX_66 kc_XDM_isWithin) rfl rfl rfl (by decide +kernel) hR
set_option maxRecDepth 20000 in
theorem kwX_68 : Cond.methodLink RX_DM 51 y_XDM_isNibble ∈ G0 := mG 444 rfl rfl
set_option maxRecDepth 20000 in
theorem kwX_69 : Cond.static y_XDM_isNibble ∈ G0 := mG 445 rfl rfl
theorem qX_DM_51 {R : Room} {s : State} {args : Array Value} (hts : ∀ w ∈ G0, w.before args s = true) (hR : (rm_XDM_isNibble).frames + 1 ≤ R.frames ∧ 8 + (1 + 11) + (rm_XDM_isNibble).locals ≤ R.locals) : CallB R s args RX_DM 51 y_XDM_isNibble b_XDM_isNibble 1 (some .boolean) w_XDM_isNibble rm_XDM_isNibble 0 0 1 ∧ (Cond.static y_XDM_isNibble).before args s = true := cwS 1 hts (zgS kwX_68 kwX_69 kwX_66 kc_XDM_isNibble) rfl rfl rfl (by decide +kernel) hR
set_option maxRecDepth 20000 in
theorem kwX_70 : Cond.methodLink RX_De 101 y_XDe_putSum ∈ G0 := mG 759 rfl rfl
set_option maxRecDepth 20000 in
theorem kwX_71 : Cond.initialized RX_De ∈ G0 := mG 79 rfl rfl
set_option maxRecDepth 20000 in
theorem kwX_72 : Cond.instanceMethod y_XDe_putSum ∈ G0 := mG 761 rfl rfl
set_option maxRecDepth 20000 in
theorem kwX_73 : Cond.selects RX_De y_XDe_putSum y_XDe_putSum ∈ G0 := mG 30 rfl rfl
theorem qX_De_101 {R : Room} {s : State} {args : Array Value} (hts : ∀ w ∈ G0, w.before args s = true) (hR : (rm_XDe_putSum).frames + 1 ≤ R.frames ∧ 8 + (7 + 11) + (rm_XDe_putSum).locals ≤ R.locals) : CallW R s args RX_De RX_De 101 y_XDe_putSum b_XDe_putSum 7 (some .int) w_XDe_putSum rm_XDe_putSum 0 0 3 := cwV 3 hts (zgV kwX_70 kwX_72 kwX_73 kwX_71 kc_XDe_putSum) rfl rfl rfl (by decide +kernel) hR
set_option maxRecDepth 20000 in
theorem kwX_74 : Cond.methodLink RX_De 105 y_XSt_conditionBySign ∈ G0 := mG 763 rfl rfl
theorem qX_De_105 {R : Room} {s : State} {args : Array Value} (hts : ∀ w ∈ G0, w.before args s = true) (hR : (rm_XSt_conditionBySign).frames + 1 ≤ R.frames ∧ 8 + (3 + 11) + (rm_XSt_conditionBySign).locals ≤ R.locals) : CallW R s args RX_De RX_St 105 y_XSt_conditionBySign b_XSt_conditionBySign 3 none w_XSt_conditionBySign rm_XSt_conditionBySign 0 0 1 := cwV 1 hts (zgV kwX_74 kwX_54 kwX_55 kwX_1 kc_XSt_conditionBySign) rfl rfl rfl (by decide +kernel) hR
set_option maxRecDepth 20000 in
theorem kwX_75 : Cond.methodLink RX_De 109 y_XDe_multiply ∈ G0 := mG 773 rfl rfl
set_option maxRecDepth 20000 in
theorem kwX_76 : Cond.instanceMethod y_XDe_multiply ∈ G0 := mG 775 rfl rfl
set_option maxRecDepth 20000 in
theorem kwX_77 : Cond.selects RX_De y_XDe_multiply y_XDe_multiply ∈ G0 := mG 31 rfl rfl
theorem qX_De_109 {R : Room} {s : State} {args : Array Value} (hts : ∀ w ∈ G0, w.before args s = true) (hR : (rm_XDe_multiply).frames + 1 ≤ R.frames ∧ 8 + (7 + 11) + (rm_XDe_multiply).locals ≤ R.locals) : CallW R s args RX_De RX_De 109 y_XDe_multiply b_XDe_multiply 7 (some .int) w_XDe_multiply rm_XDe_multiply 0 0 3 := cwV 3 hts (zgV kwX_75 kwX_76 kwX_77 kwX_71 kc_XDe_multiply) rfl rfl rfl (by decide +kernel) hR
set_option maxRecDepth 20000 in
theorem kwX_78 : Cond.methodLink RX_De 112 y_XDe_divide ∈ G0 := mG 778 rfl rfl
set_option maxRecDepth 20000 in
theorem kwX_79 : Cond.instanceMethod y_XDe_divide ∈ G0 := mG 780 rfl rfl
set_option maxRecDepth 20000 in
theorem kwX_80 : Cond.selects RX_De y_XDe_divide y_XDe_divide ∈ G0 := mG 32 rfl rfl
theorem qX_De_112 {R : Room} {s : State} {args : Array Value} (hts : ∀ w ∈ G0, w.before args s = true) (hR : (rm_XDe_divide).frames + 1 ≤ R.frames ∧ 8 + (11 + 11) + (rm_XDe_divide).locals ≤ R.locals) : CallW R s args RX_De RX_De 112 y_XDe_divide b_XDe_divide 11 (some .int) w_XDe_divide rm_XDe_divide 0 0 3 := cwV 3 hts (zgV kwX_78 kwX_79 kwX_80 kwX_71 kc_XDe_divide) rfl rfl rfl (by decide +kernel) hR
set_option maxRecDepth 20000 in
theorem kwX_81 : Cond.methodLink RX_De 115 y_XDe_startsWithZeros ∈ G0 := mG 755 rfl rfl
set_option maxRecDepth 20000 in
theorem kwX_82 : Cond.instanceMethod y_XDe_startsWithZeros ∈ G0 := mG 757 rfl rfl
set_option maxRecDepth 20000 in
theorem kwX_83 : Cond.selects RX_De y_XDe_startsWithZeros y_XDe_startsWithZeros ∈ G0 := mG 29 rfl rfl
theorem qX_De_115 {R : Room} {s : State} {args : Array Value} (hts : ∀ w ∈ G0, w.before args s = true) (hR : (rm_XDe_startsWithZeros).frames + 1 ≤ R.frames ∧ 8 + (5 + 11) + (rm_XDe_startsWithZeros).locals ≤ R.locals) : CallW R s args RX_De RX_De 115 y_XDe_startsWithZeros b_XDe_startsWithZeros 5 (some .boolean) w_XDe_startsWithZeros rm_XDe_startsWithZeros 0 0 2 := cwV 2 hts (zgV kwX_81 kwX_82 kwX_83 kwX_71 kc_XDe_startsWithZeros) rfl rfl rfl (by decide +kernel) hR
set_option maxRecDepth 20000 in
theorem kwX_84 : Cond.methodLink RX_De 122 y_XDe_hasRoom ∈ G0 := mG 764 rfl rfl
set_option maxRecDepth 20000 in
theorem kwX_85 : Cond.static y_XDe_hasRoom ∈ G0 := mG 765 rfl rfl
theorem qX_De_122 {R : Room} {s : State} {args : Array Value} (hts : ∀ w ∈ G0, w.before args s = true) (hR : (rm_XDe_hasRoom).frames + 1 ≤ R.frames ∧ 8 + (6 + 11) + (rm_XDe_hasRoom).locals ≤ R.locals) : CallB R s args RX_De 122 y_XDe_hasRoom b_XDe_hasRoom 6 (some .boolean) w_XDe_hasRoom rm_XDe_hasRoom 0 0 2 ∧ (Cond.static y_XDe_hasRoom).before args s = true := cwS 2 hts (zgS kwX_84 kwX_85 kwX_71 kc_XDe_hasRoom) rfl rfl rfl (by decide +kernel) hR
set_option maxRecDepth 20000 in
theorem kwX_86 : Cond.methodLink RX_De 126 y_XSt_decimalOverflow ∈ G0 := mG 769 rfl rfl
set_option maxRecDepth 20000 in
theorem kwX_87 : Cond.instanceMethod y_XSt_decimalOverflow ∈ G0 := mG 770 rfl rfl
set_option maxRecDepth 20000 in
theorem kwX_88 : Cond.selects RX_St y_XSt_decimalOverflow y_XSt_decimalOverflow ∈ G0 := mG 771 rfl rfl
theorem qX_De_126 {R : Room} {s : State} {args : Array Value} (hts : ∀ w ∈ G0, w.before args s = true) (hR : (rm_XSt_decimalOverflow).frames + 1 ≤ R.frames ∧ 8 + (1 + 11) + (rm_XSt_decimalOverflow).locals ≤ R.locals) : CallW R s args RX_De RX_St 126 y_XSt_decimalOverflow b_XSt_decimalOverflow 1 (some .int) w_XSt_decimalOverflow rm_XSt_decimalOverflow 0 0 0 := cwV 0 hts (zgV kwX_86 kwX_87 kwX_88 kwX_1 kc_XSt_decimalOverflow) rfl rfl rfl (by decide +kernel) hR
set_option maxRecDepth 20000 in
theorem kwX_89 : Cond.methodLink RX_De 130 y_XMe_isMinus ∈ G0 := mG 777 rfl rfl
set_option maxRecDepth 20000 in
theorem kwX_90 : Cond.instanceMethod y_XMe_isMinus ∈ G0 := mG 673 rfl rfl
set_option maxRecDepth 20000 in
theorem kwX_91 : Cond.selects RX_Me y_XMe_isMinus y_XMe_isMinus ∈ G0 := mG 674 rfl rfl
theorem qX_De_130 {R : Room} {s : State} {args : Array Value} (hts : ∀ w ∈ G0, w.before args s = true) (hR : (rm_XMe_isMinus).frames + 1 ≤ R.frames ∧ 8 + (4 + 11) + (rm_XMe_isMinus).locals ≤ R.locals) : CallW R s args RX_De RX_Me 130 y_XMe_isMinus b_XMe_isMinus 4 (some .boolean) w_XMe_isMinus rm_XMe_isMinus 0 0 2 := cwV 2 hts (zgV kwX_89 kwX_90 kwX_91 kwX_17 kc_XMe_isMinus) rfl rfl rfl (by decide +kernel) hR
set_option maxRecDepth 20000 in
theorem kwX_92 : Cond.methodLink RX_De 32 y_XMe_faultOf ∈ G0 := mG 651 rfl rfl
theorem qX_De_32 {R : Room} {s : State} {args : Array Value} (hts : ∀ w ∈ G0, w.before args s = true) (hR : (rm_XMe_faultOf).frames + 1 ≤ R.frames ∧ 8 + (3 + 11) + (rm_XMe_faultOf).locals ≤ R.locals) : CallW R s args RX_De RX_Me 32 y_XMe_faultOf b_XMe_faultOf 3 (some .int) w_XMe_faultOf rm_XMe_faultOf 0 0 2 := cwV 2 hts (zgV kwX_92 kwX_18 kwX_19 kwX_17 kc_XMe_faultOf) rfl rfl rfl (by decide +kernel) hR
set_option maxRecDepth 20000 in
theorem kwX_93 : Cond.methodLink RX_De 44 y_XSt_value ∈ G0 := mG 652 rfl rfl
theorem qX_De_44 {R : Room} {s : State} {args : Array Value} (hts : ∀ w ∈ G0, w.before args s = true) (hR : (rm_XSt_value).frames + 1 ≤ R.frames ∧ 8 + (2 + 11) + (rm_XSt_value).locals ≤ R.locals) : CallW R s args RX_De RX_St 44 y_XSt_value b_XSt_value 2 (some .int) w_XSt_value rm_XSt_value 0 0 1 := cwV 1 hts (zgV kwX_93 kwX_11 kwX_12 kwX_1 kc_XSt_value) rfl rfl rfl (by decide +kernel) hR
set_option maxRecDepth 20000 in
theorem kwX_94 : Cond.methodLink RX_De 54 y_XMe_putDecimal ∈ G0 := mG 654 rfl rfl
set_option maxRecDepth 20000 in
theorem kwX_95 : Cond.instanceMethod y_XMe_putDecimal ∈ G0 := mG 655 rfl rfl
set_option maxRecDepth 20000 in
theorem kwX_96 : Cond.selects RX_Me y_XMe_putDecimal y_XMe_putDecimal ∈ G0 := mG 656 rfl rfl
theorem qX_De_54 {R : Room} {s : State} {args : Array Value} (hts : ∀ w ∈ G0, w.before args s = true) (hR : (rm_XMe_putDecimal).frames + 1 ≤ R.frames ∧ 8 + (10 + 11) + (rm_XMe_putDecimal).locals ≤ R.locals) : CallW R s args RX_De RX_Me 54 y_XMe_putDecimal b_XMe_putDecimal 10 none w_XMe_putDecimal rm_XMe_putDecimal 0 0 4 := cwV 4 hts (zgV kwX_94 kwX_95 kwX_96 kwX_17 kc_XMe_putDecimal) rfl rfl rfl (by decide +kernel) hR
set_option maxRecDepth 20000 in
theorem kwX_97 : Cond.methodLink RX_De 58 y_XDe_convertToBinary ∈ G0 := mG 660 rfl rfl
set_option maxRecDepth 20000 in
theorem kwX_98 : Cond.instanceMethod y_XDe_convertToBinary ∈ G0 := mG 662 rfl rfl
set_option maxRecDepth 20000 in
theorem kwX_99 : Cond.selects RX_De y_XDe_convertToBinary y_XDe_convertToBinary ∈ G0 := mG 17 rfl rfl
theorem qX_De_58 {R : Room} {s : State} {args : Array Value} (hts : ∀ w ∈ G0, w.before args s = true) (hR : (rm_XDe_convertToBinary).frames + 1 ≤ R.frames ∧ 8 + (4 + 11) + (rm_XDe_convertToBinary).locals ≤ R.locals) : CallW R s args RX_De RX_De 58 y_XDe_convertToBinary b_XDe_convertToBinary 4 (some .int) w_XDe_convertToBinary rm_XDe_convertToBinary 0 0 1 := cwV 1 hts (zgV kwX_97 kwX_98 kwX_99 kwX_71 kc_XDe_convertToBinary) rfl rfl rfl (by decide +kernel) hR
set_option maxRecDepth 20000 in
theorem kwX_100 : Cond.methodLink RX_De 62 y_XMe_isPacked ∈ G0 := mG 664 rfl rfl
set_option maxRecDepth 20000 in
theorem kwX_101 : Cond.instanceMethod y_XMe_isPacked ∈ G0 := mG 665 rfl rfl
set_option maxRecDepth 20000 in
theorem kwX_102 : Cond.selects RX_Me y_XMe_isPacked y_XMe_isPacked ∈ G0 := mG 666 rfl rfl
theorem qX_De_62 {R : Room} {s : State} {args : Array Value} (hts : ∀ w ∈ G0, w.before args s = true) (hR : (rm_XMe_isPacked).frames + 1 ≤ R.frames ∧ 8 + (7 + 11) + (rm_XMe_isPacked).locals ≤ R.locals) : CallW R s args RX_De RX_Me 62 y_XMe_isPacked b_XMe_isPacked 7 (some .boolean) w_XMe_isPacked rm_XMe_isPacked 0 0 2 := cwV 2 hts (zgV kwX_100 kwX_101 kwX_102 kwX_17 kc_XMe_isPacked) rfl rfl rfl (by decide +kernel) hR
set_option maxRecDepth 20000 in
theorem kwX_103 : Cond.methodLink RX_De 66 y_XMe_decimal ∈ G0 := mG 668 rfl rfl
set_option maxRecDepth 20000 in
theorem kwX_104 : Cond.instanceMethod y_XMe_decimal ∈ G0 := mG 669 rfl rfl
set_option maxRecDepth 20000 in
theorem kwX_105 : Cond.selects RX_Me y_XMe_decimal y_XMe_decimal ∈ G0 := mG 670 rfl rfl
theorem qX_De_66 {R : Room} {s : State} {args : Array Value} (hts : ∀ w ∈ G0, w.before args s = true) (hR : (rm_XMe_decimal).frames + 1 ≤ R.frames ∧ 8 + (7 + 11) + (rm_XMe_decimal).locals ≤ R.locals) : CallW R s args RX_De RX_Me 66 y_XMe_decimal b_XMe_decimal 7 (some .long) w_XMe_decimal rm_XMe_decimal 0 0 2 := cwV 2 hts (zgV kwX_103 kwX_104 kwX_105 kwX_17 kc_XMe_decimal) rfl rfl rfl (by decide +kernel) hR
set_option maxRecDepth 20000 in
theorem kwX_106 : Cond.methodLink RX_De 70 y_XSt_put ∈ G0 := mG 676 rfl rfl
theorem qX_De_70 {R : Room} {s : State} {args : Array Value} (hts : ∀ w ∈ G0, w.before args s = true) (hR : (rm_XSt_put).frames + 1 ≤ R.frames ∧ 8 + (3 + 11) + (rm_XSt_put).locals ≤ R.locals) : CallW R s args RX_De RX_St 70 y_XSt_put b_XSt_put 3 none w_XSt_put rm_XSt_put 0 0 2 := cwV 2 hts (zgV kwX_106 kwX_27 kwX_28 kwX_1 kc_XSt_put) rfl rfl rfl (by decide +kernel) hR
set_option maxRecDepth 20000 in
theorem kwX_107 : Cond.methodLink RX_De 80 y_XMe_holds ∈ G0 := mG 732 rfl rfl
set_option maxRecDepth 20000 in
theorem kwX_108 : Cond.instanceMethod y_XMe_holds ∈ G0 := mG 398 rfl rfl
set_option maxRecDepth 20000 in
theorem kwX_109 : Cond.selects RX_Me y_XMe_holds y_XMe_holds ∈ G0 := mG 399 rfl rfl
theorem qX_De_80 {R : Room} {s : State} {args : Array Value} (hts : ∀ w ∈ G0, w.before args s = true) (hR : (rm_XMe_holds).frames + 1 ≤ R.frames ∧ 8 + (3 + 11) + (rm_XMe_holds).locals ≤ R.locals) : CallW R s args RX_De RX_Me 80 y_XMe_holds b_XMe_holds 3 (some .boolean) w_XMe_holds rm_XMe_holds 0 0 2 := cwV 2 hts (zgV kwX_107 kwX_108 kwX_109 kwX_17 kc_XMe_holds) rfl rfl rfl (by decide +kernel) hR
set_option maxRecDepth 20000 in
theorem kwX_110 : Cond.methodLink RX_De 83 y_XMe_get ∈ G0 := mG 733 rfl rfl
set_option maxRecDepth 20000 in
theorem kwX_111 : Cond.instanceMethod y_XMe_get ∈ G0 := mG 434 rfl rfl
set_option maxRecDepth 20000 in
theorem kwX_112 : Cond.selects RX_Me y_XMe_get y_XMe_get ∈ G0 := mG 435 rfl rfl
theorem qX_De_83 {R : Room} {s : State} {args : Array Value} (hts : ∀ w ∈ G0, w.before args s = true) (hR : (rm_XMe_get).frames + 1 ≤ R.frames ∧ 8 + (2 + 11) + (rm_XMe_get).locals ≤ R.locals) : CallW R s args RX_De RX_Me 83 y_XMe_get b_XMe_get 2 (some .int) w_XMe_get rm_XMe_get 0 0 1 := cwV 1 hts (zgV kwX_110 kwX_111 kwX_112 kwX_17 kc_XMe_get) rfl rfl rfl (by decide +kernel) hR
set_option maxRecDepth 20000 in
theorem kwX_113 : Cond.methodLink RX_De 86 y_XDe_sourceOctet ∈ G0 := mG 734 rfl rfl
set_option maxRecDepth 20000 in
theorem kwX_114 : Cond.instanceMethod y_XDe_sourceOctet ∈ G0 := mG 736 rfl rfl
set_option maxRecDepth 20000 in
theorem kwX_115 : Cond.selects RX_De y_XDe_sourceOctet y_XDe_sourceOctet ∈ G0 := mG 25 rfl rfl
theorem qX_De_86 {R : Room} {s : State} {args : Array Value} (hts : ∀ w ∈ G0, w.before args s = true) (hR : (rm_XDe_sourceOctet).frames + 1 ≤ R.frames ∧ 8 + (2 + 11) + (rm_XDe_sourceOctet).locals ≤ R.locals) : CallW R s args RX_De RX_De 86 y_XDe_sourceOctet b_XDe_sourceOctet 2 (some .int) w_XDe_sourceOctet rm_XDe_sourceOctet 0 0 1 := cwV 1 hts (zgV kwX_113 kwX_114 kwX_115 kwX_71 kc_XDe_sourceOctet) rfl rfl rfl (by decide +kernel) hR
set_option maxRecDepth 20000 in
theorem kwX_116 : Cond.methodLink RX_De 89 y_XMe_put ∈ G0 := mG 738 rfl rfl
set_option maxRecDepth 20000 in
theorem kwX_117 : Cond.instanceMethod y_XMe_put ∈ G0 := mG 423 rfl rfl
set_option maxRecDepth 20000 in
theorem kwX_118 : Cond.selects RX_Me y_XMe_put y_XMe_put ∈ G0 := mG 424 rfl rfl
theorem qX_De_89 {R : Room} {s : State} {args : Array Value} (hts : ∀ w ∈ G0, w.before args s = true) (hR : (rm_XMe_put).frames + 1 ≤ R.frames ∧ 8 + (3 + 11) + (rm_XMe_put).locals ≤ R.locals) : CallW R s args RX_De RX_Me 89 y_XMe_put b_XMe_put 3 none w_XMe_put rm_XMe_put 0 0 2 := cwV 2 hts (zgV kwX_116 kwX_117 kwX_118 kwX_17 kc_XMe_put) rfl rfl rfl (by decide +kernel) hR
set_option maxRecDepth 20000 in
theorem kwX_119 : Cond.methodLink RX_De 90 y_XDe_packRest ∈ G0 := mG 739 rfl rfl
set_option maxRecDepth 20000 in
theorem kwX_120 : Cond.instanceMethod y_XDe_packRest ∈ G0 := mG 741 rfl rfl
set_option maxRecDepth 20000 in
theorem kwX_121 : Cond.selects RX_De y_XDe_packRest y_XDe_packRest ∈ G0 := mG 26 rfl rfl
theorem qX_De_90 {R : Room} {s : State} {args : Array Value} (hts : ∀ w ∈ G0, w.before args s = true) (hR : (rm_XDe_packRest).frames + 1 ≤ R.frames ∧ 8 + (8 + 11) + (rm_XDe_packRest).locals ≤ R.locals) : CallW R s args RX_De RX_De 90 y_XDe_packRest b_XDe_packRest 8 none w_XDe_packRest rm_XDe_packRest 0 0 3 := cwV 3 hts (zgV kwX_119 kwX_120 kwX_121 kwX_71 kc_XDe_packRest) rfl rfl rfl (by decide +kernel) hR
set_option maxRecDepth 20000 in
theorem kwX_122 : Cond.methodLink RX_De 94 y_XDe_unpackRest ∈ G0 := mG 743 rfl rfl
set_option maxRecDepth 20000 in
theorem kwX_123 : Cond.instanceMethod y_XDe_unpackRest ∈ G0 := mG 745 rfl rfl
set_option maxRecDepth 20000 in
theorem kwX_124 : Cond.selects RX_De y_XDe_unpackRest y_XDe_unpackRest ∈ G0 := mG 27 rfl rfl
theorem qX_De_94 {R : Room} {s : State} {args : Array Value} (hts : ∀ w ∈ G0, w.before args s = true) (hR : (rm_XDe_unpackRest).frames + 1 ≤ R.frames ∧ 8 + (7 + 11) + (rm_XDe_unpackRest).locals ≤ R.locals) : CallW R s args RX_De RX_De 94 y_XDe_unpackRest b_XDe_unpackRest 7 none w_XDe_unpackRest rm_XDe_unpackRest 0 0 3 := cwV 3 hts (zgV kwX_122 kwX_123 kwX_124 kwX_71 kc_XDe_unpackRest) rfl rfl rfl (by decide +kernel) hR
set_option maxRecDepth 20000 in
theorem kwX_125 : Cond.methodLink RX_De 97 y_XDe_faultOfFields ∈ G0 := mG 751 rfl rfl
set_option maxRecDepth 20000 in
theorem kwX_126 : Cond.instanceMethod y_XDe_faultOfFields ∈ G0 := mG 753 rfl rfl
set_option maxRecDepth 20000 in
theorem kwX_127 : Cond.selects RX_De y_XDe_faultOfFields y_XDe_faultOfFields ∈ G0 := mG 28 rfl rfl
theorem qX_De_97 {R : Room} {s : State} {args : Array Value} (hts : ∀ w ∈ G0, w.before args s = true) (hR : (rm_XDe_faultOfFields).frames + 1 ≤ R.frames ∧ 8 + (6 + 11) + (rm_XDe_faultOfFields).locals ≤ R.locals) : CallW R s args RX_De RX_De 97 y_XDe_faultOfFields b_XDe_faultOfFields 6 (some .int) w_XDe_faultOfFields rm_XDe_faultOfFields 0 0 3 := cwV 3 hts (zgV kwX_125 kwX_126 kwX_127 kwX_71 kc_XDe_faultOfFields) rfl rfl rfl (by decide +kernel) hR
set_option maxRecDepth 20000 in
theorem kwX_128 : Cond.methodLink RX_In 19 y_XMe_holds ∈ G0 := mG 527 rfl rfl
theorem qX_In_19 {R : Room} {s : State} {args : Array Value} (hts : ∀ w ∈ G0, w.before args s = true) (hR : (rm_XMe_holds).frames + 1 ≤ R.frames ∧ 8 + (3 + 11) + (rm_XMe_holds).locals ≤ R.locals) : CallW R s args RX_In RX_Me 19 y_XMe_holds b_XMe_holds 3 (some .boolean) w_XMe_holds rm_XMe_holds 0 0 2 := cwV 2 hts (zgV kwX_128 kwX_108 kwX_109 kwX_17 kc_XMe_holds) rfl rfl rfl (by decide +kernel) hR
set_option maxRecDepth 20000 in
theorem kwX_129 : Cond.methodLink RX_In 25 y_XMe_get ∈ G0 := mG 528 rfl rfl
theorem qX_In_25 {R : Room} {s : State} {args : Array Value} (hts : ∀ w ∈ G0, w.before args s = true) (hR : (rm_XMe_get).frames + 1 ≤ R.frames ∧ 8 + (2 + 11) + (rm_XMe_get).locals ≤ R.locals) : CallW R s args RX_In RX_Me 25 y_XMe_get b_XMe_get 2 (some .int) w_XMe_get rm_XMe_get 0 0 1 := cwV 1 hts (zgV kwX_129 kwX_111 kwX_112 kwX_17 kc_XMe_get) rfl rfl rfl (by decide +kernel) hR
set_option maxRecDepth 20000 in
theorem kwX_130 : Cond.methodLink RX_In 46 y_XIn_findAddresses ∈ G0 := mG 529 rfl rfl
set_option maxRecDepth 20000 in
theorem kwX_131 : Cond.initialized RX_In ∈ G0 := mG 74 rfl rfl
set_option maxRecDepth 20000 in
theorem kwX_132 : Cond.instanceMethod y_XIn_findAddresses ∈ G0 := mG 531 rfl rfl
set_option maxRecDepth 20000 in
theorem kwX_133 : Cond.selects RX_In y_XIn_findAddresses y_XIn_findAddresses ∈ G0 := mG 2 rfl rfl
theorem qX_In_46 {R : Room} {s : State} {args : Array Value} (hts : ∀ w ∈ G0, w.before args s = true) (hR : (rm_XIn_findAddresses).frames + 1 ≤ R.frames ∧ 8 + (4 + 11) + (rm_XIn_findAddresses).locals ≤ R.locals) : CallW R s args RX_In RX_In 46 y_XIn_findAddresses b_XIn_findAddresses 4 none w_XIn_findAddresses rm_XIn_findAddresses 0 0 2 := cwV 2 hts (zgV kwX_130 kwX_132 kwX_133 kwX_131 kc_XIn_findAddresses) rfl rfl rfl (by decide +kernel) hR
set_option maxRecDepth 20000 in
theorem kwX_134 : Cond.methodLink RX_In 50 y_XSt_value ∈ G0 := mG 533 rfl rfl
theorem qX_In_50 {R : Room} {s : State} {args : Array Value} (hts : ∀ w ∈ G0, w.before args s = true) (hR : (rm_XSt_value).frames + 1 ≤ R.frames ∧ 8 + (2 + 11) + (rm_XSt_value).locals ≤ R.locals) : CallW R s args RX_In RX_St 50 y_XSt_value b_XSt_value 2 (some .int) w_XSt_value rm_XSt_value 0 0 1 := cwV 1 hts (zgV kwX_134 kwX_11 kwX_12 kwX_1 kc_XSt_value) rfl rfl rfl (by decide +kernel) hR
set_option maxRecDepth 20000 in
theorem kwX_135 : Cond.methodLink RX_In 53 y_XIn_place ∈ G0 := mG 534 rfl rfl
set_option maxRecDepth 20000 in
theorem kwX_136 : Cond.static y_XIn_place ∈ G0 := mG 535 rfl rfl
theorem qX_In_53 {R : Room} {s : State} {args : Array Value} (hts : ∀ w ∈ G0, w.before args s = true) (hR : (rm_XIn_place).frames + 1 ≤ R.frames ∧ 8 + (4 + 11) + (rm_XIn_place).locals ≤ R.locals) : CallB R s args RX_In 53 y_XIn_place b_XIn_place 4 (some .int) w_XIn_place rm_XIn_place 0 0 2 ∧ (Cond.static y_XIn_place).before args s = true := cwS 2 hts (zgS kwX_135 kwX_136 kwX_131 kc_XIn_place) rfl rfl rfl (by decide +kernel) hR
set_option maxRecDepth 20000 in
theorem kwX_137 : Cond.methodLink RX_Me 15 y_XMe_holds ∈ G0 := mG 569 rfl rfl
theorem qX_Me_15 {R : Room} {s : State} {args : Array Value} (hts : ∀ w ∈ G0, w.before args s = true) (hR : (rm_XMe_holds).frames + 1 ≤ R.frames ∧ 8 + (3 + 11) + (rm_XMe_holds).locals ≤ R.locals) : CallW R s args RX_Me RX_Me 15 y_XMe_holds b_XMe_holds 3 (some .boolean) w_XMe_holds rm_XMe_holds 0 0 2 := cwV 2 hts (zgV kwX_137 kwX_108 kwX_109 kwX_17 kc_XMe_holds) rfl rfl rfl (by decide +kernel) hR
set_option maxRecDepth 20000 in
theorem kwX_138 : Cond.methodLink RX_Me 19 y_XMe_get ∈ G0 := mG 587 rfl rfl
theorem qX_Me_19 {R : Room} {s : State} {args : Array Value} (hts : ∀ w ∈ G0, w.before args s = true) (hR : (rm_XMe_get).frames + 1 ≤ R.frames ∧ 8 + (2 + 11) + (rm_XMe_get).locals ≤ R.locals) : CallW R s args RX_Me RX_Me 19 y_XMe_get b_XMe_get 2 (some .int) w_XMe_get rm_XMe_get 0 0 1 := cwV 1 hts (zgV kwX_138 kwX_111 kwX_112 kwX_17 kc_XMe_get) rfl rfl rfl (by decide +kernel) hR
set_option maxRecDepth 20000 in
theorem kwX_139 : Cond.methodLink RX_Me 25 y_XMe_put ∈ G0 := mG 422 rfl rfl
theorem qX_Me_25 {R : Room} {s : State} {args : Array Value} (hts : ∀ w ∈ G0, w.before args s = true) (hR : (rm_XMe_put).frames + 1 ≤ R.frames ∧ 8 + (3 + 11) + (rm_XMe_put).locals ≤ R.locals) : CallW R s args RX_Me RX_Me 25 y_XMe_put b_XMe_put 3 none w_XMe_put rm_XMe_put 0 0 2 := cwV 2 hts (zgV kwX_139 kwX_117 kwX_118 kwX_17 kc_XMe_put) rfl rfl rfl (by decide +kernel) hR
set_option maxRecDepth 20000 in
theorem kwX_140 : Cond.methodLink RX_Me 33 y_XMe_isMinus ∈ G0 := mG 672 rfl rfl
theorem qX_Me_33 {R : Room} {s : State} {args : Array Value} (hts : ∀ w ∈ G0, w.before args s = true) (hR : (rm_XMe_isMinus).frames + 1 ≤ R.frames ∧ 8 + (4 + 11) + (rm_XMe_isMinus).locals ≤ R.locals) : CallW R s args RX_Me RX_Me 33 y_XMe_isMinus b_XMe_isMinus 4 (some .boolean) w_XMe_isMinus rm_XMe_isMinus 0 0 2 := cwV 2 hts (zgV kwX_140 kwX_90 kwX_91 kwX_17 kc_XMe_isMinus) rfl rfl rfl (by decide +kernel) hR
set_option maxRecDepth 20000 in
theorem kwX_141 : Cond.methodLink RX_Oc 28 y_XMe_holds ∈ G0 := mG 691 rfl rfl
theorem qX_Oc_28 {R : Room} {s : State} {args : Array Value} (hts : ∀ w ∈ G0, w.before args s = true) (hR : (rm_XMe_holds).frames + 1 ≤ R.frames ∧ 8 + (3 + 11) + (rm_XMe_holds).locals ≤ R.locals) : CallW R s args RX_Oc RX_Me 28 y_XMe_holds b_XMe_holds 3 (some .boolean) w_XMe_holds rm_XMe_holds 0 0 2 := cwV 2 hts (zgV kwX_141 kwX_108 kwX_109 kwX_17 kc_XMe_holds) rfl rfl rfl (by decide +kernel) hR
set_option maxRecDepth 20000 in
theorem kwX_142 : Cond.methodLink RX_Oc 34 y_XMe_get ∈ G0 := mG 692 rfl rfl
theorem qX_Oc_34 {R : Room} {s : State} {args : Array Value} (hts : ∀ w ∈ G0, w.before args s = true) (hR : (rm_XMe_get).frames + 1 ≤ R.frames ∧ 8 + (2 + 11) + (rm_XMe_get).locals ≤ R.locals) : CallW R s args RX_Oc RX_Me 34 y_XMe_get b_XMe_get 2 (some .int) w_XMe_get rm_XMe_get 0 0 1 := cwV 1 hts (zgV kwX_142 kwX_111 kwX_112 kwX_17 kc_XMe_get) rfl rfl rfl (by decide +kernel) hR
set_option maxRecDepth 20000 in
theorem kwX_143 : Cond.methodLink RX_Oc 44 y_XOc_testBits ∈ G0 := mG 693 rfl rfl
set_option maxRecDepth 20000 in
theorem kwX_144 : Cond.initialized RX_Oc ∈ G0 := mG 78 rfl rfl
set_option maxRecDepth 20000 in
theorem kwX_145 : Cond.instanceMethod y_XOc_testBits ∈ G0 := mG 695 rfl rfl
set_option maxRecDepth 20000 in
theorem kwX_146 : Cond.selects RX_Oc y_XOc_testBits y_XOc_testBits ∈ G0 := mG 19 rfl rfl
theorem qX_Oc_44 {R : Room} {s : State} {args : Array Value} (hts : ∀ w ∈ G0, w.before args s = true) (hR : (rm_XOc_testBits).frames + 1 ≤ R.frames ∧ 8 + (4 + 11) + (rm_XOc_testBits).locals ≤ R.locals) : CallW R s args RX_Oc RX_Oc 44 y_XOc_testBits b_XOc_testBits 4 none w_XOc_testBits rm_XOc_testBits 0 0 2 := cwV 2 hts (zgV kwX_143 kwX_145 kwX_146 kwX_144 kc_XOc_testBits) rfl rfl rfl (by decide +kernel) hR
set_option maxRecDepth 20000 in
theorem kwX_147 : Cond.methodLink RX_Oc 48 y_XMe_put ∈ G0 := mG 697 rfl rfl
theorem qX_Oc_48 {R : Room} {s : State} {args : Array Value} (hts : ∀ w ∈ G0, w.before args s = true) (hR : (rm_XMe_put).frames + 1 ≤ R.frames ∧ 8 + (3 + 11) + (rm_XMe_put).locals ≤ R.locals) : CallW R s args RX_Oc RX_Me 48 y_XMe_put b_XMe_put 3 none w_XMe_put rm_XMe_put 0 0 2 := cwV 2 hts (zgV kwX_147 kwX_117 kwX_118 kwX_17 kc_XMe_put) rfl rfl rfl (by decide +kernel) hR
set_option maxRecDepth 20000 in
theorem kwX_148 : Cond.methodLink RX_Oc 51 y_XOc_putBits ∈ G0 := mG 698 rfl rfl
set_option maxRecDepth 20000 in
theorem kwX_149 : Cond.instanceMethod y_XOc_putBits ∈ G0 := mG 700 rfl rfl
set_option maxRecDepth 20000 in
theorem kwX_150 : Cond.selects RX_Oc y_XOc_putBits y_XOc_putBits ∈ G0 := mG 20 rfl rfl
theorem qX_Oc_51 {R : Room} {s : State} {args : Array Value} (hts : ∀ w ∈ G0, w.before args s = true) (hR : (rm_XOc_putBits).frames + 1 ≤ R.frames ∧ 8 + (3 + 11) + (rm_XOc_putBits).locals ≤ R.locals) : CallW R s args RX_Oc RX_Oc 51 y_XOc_putBits b_XOc_putBits 3 (some .int) w_XOc_putBits rm_XOc_putBits 0 0 2 := cwV 2 hts (zgV kwX_148 kwX_149 kwX_150 kwX_144 kc_XOc_putBits) rfl rfl rfl (by decide +kernel) hR
set_option maxRecDepth 20000 in
theorem kwX_151 : Cond.methodLink RX_Oc 55 y_XSt_conditionBySign ∈ G0 := mG 703 rfl rfl
theorem qX_Oc_55 {R : Room} {s : State} {args : Array Value} (hts : ∀ w ∈ G0, w.before args s = true) (hR : (rm_XSt_conditionBySign).frames + 1 ≤ R.frames ∧ 8 + (3 + 11) + (rm_XSt_conditionBySign).locals ≤ R.locals) : CallW R s args RX_Oc RX_St 55 y_XSt_conditionBySign b_XSt_conditionBySign 3 none w_XSt_conditionBySign rm_XSt_conditionBySign 0 0 1 := cwV 1 hts (zgV kwX_151 kwX_54 kwX_55 kwX_1 kc_XSt_conditionBySign) rfl rfl rfl (by decide +kernel) hR
set_option maxRecDepth 20000 in
theorem kwX_152 : Cond.methodLink RX_Oc 59 y_XOc_translate ∈ G0 := mG 708 rfl rfl
set_option maxRecDepth 20000 in
theorem kwX_153 : Cond.instanceMethod y_XOc_translate ∈ G0 := mG 710 rfl rfl
set_option maxRecDepth 20000 in
theorem kwX_154 : Cond.selects RX_Oc y_XOc_translate y_XOc_translate ∈ G0 := mG 21 rfl rfl
theorem qX_Oc_59 {R : Room} {s : State} {args : Array Value} (hts : ∀ w ∈ G0, w.before args s = true) (hR : (rm_XOc_translate).frames + 1 ≤ R.frames ∧ 8 + (4 + 11) + (rm_XOc_translate).locals ≤ R.locals) : CallW R s args RX_Oc RX_Oc 59 y_XOc_translate b_XOc_translate 4 (some .int) w_XOc_translate rm_XOc_translate 0 0 2 := cwV 2 hts (zgV kwX_152 kwX_153 kwX_154 kwX_144 kc_XOc_translate) rfl rfl rfl (by decide +kernel) hR
set_option maxRecDepth 20000 in
theorem kwX_155 : Cond.methodLink RX_Oc 66 y_XOc_compare ∈ G0 := mG 717 rfl rfl
set_option maxRecDepth 20000 in
theorem kwX_156 : Cond.instanceMethod y_XOc_compare ∈ G0 := mG 719 rfl rfl
set_option maxRecDepth 20000 in
theorem kwX_157 : Cond.selects RX_Oc y_XOc_compare y_XOc_compare ∈ G0 := mG 23 rfl rfl
theorem qX_Oc_66 {R : Room} {s : State} {args : Array Value} (hts : ∀ w ∈ G0, w.before args s = true) (hR : (rm_XOc_compare).frames + 1 ≤ R.frames ∧ 8 + (5 + 11) + (rm_XOc_compare).locals ≤ R.locals) : CallW R s args RX_Oc RX_Oc 66 y_XOc_compare b_XOc_compare 5 (some .int) w_XOc_compare rm_XOc_compare 0 0 2 := cwV 2 hts (zgV kwX_155 kwX_156 kwX_157 kwX_144 kc_XOc_compare) rfl rfl rfl (by decide +kernel) hR
set_option maxRecDepth 20000 in
theorem kwX_158 : Cond.methodLink RX_Oc 69 y_XOc_rewrite ∈ G0 := mG 721 rfl rfl
set_option maxRecDepth 20000 in
theorem kwX_159 : Cond.instanceMethod y_XOc_rewrite ∈ G0 := mG 723 rfl rfl
set_option maxRecDepth 20000 in
theorem kwX_160 : Cond.selects RX_Oc y_XOc_rewrite y_XOc_rewrite ∈ G0 := mG 24 rfl rfl
theorem qX_Oc_69 {R : Room} {s : State} {args : Array Value} (hts : ∀ w ∈ G0, w.before args s = true) (hR : (rm_XOc_rewrite).frames + 1 ≤ R.frames ∧ 8 + (6 + 11) + (rm_XOc_rewrite).locals ≤ R.locals) : CallW R s args RX_Oc RX_Oc 69 y_XOc_rewrite b_XOc_rewrite 6 (some .int) w_XOc_rewrite rm_XOc_rewrite 0 0 2 := cwV 2 hts (zgV kwX_158 kwX_159 kwX_160 kwX_144 kc_XOc_rewrite) rfl rfl rfl (by decide +kernel) hR
set_option maxRecDepth 20000 in
theorem kwX_161 : Cond.methodLink RX_Oc 75 y_XSt_conditionByBits ∈ G0 := mG 702 rfl rfl
theorem qX_Oc_75 {R : Room} {s : State} {args : Array Value} (hts : ∀ w ∈ G0, w.before args s = true) (hR : (rm_XSt_conditionByBits).frames + 1 ≤ R.frames ∧ 8 + (2 + 11) + (rm_XSt_conditionByBits).locals ≤ R.locals) : CallW R s args RX_Oc RX_St 75 y_XSt_conditionByBits b_XSt_conditionByBits 2 none w_XSt_conditionByBits rm_XSt_conditionByBits 0 0 1 := cwV 1 hts (zgV kwX_161 kwX_2 kwX_3 kwX_1 kc_XSt_conditionByBits) rfl rfl rfl (by decide +kernel) hR
set_option maxRecDepth 20000 in
theorem kwX_162 : Cond.methodLink RX_Oc 79 y_XOc_join ∈ G0 := mG 725 rfl rfl
set_option maxRecDepth 20000 in
theorem kwX_163 : Cond.static y_XOc_join ∈ G0 := mG 726 rfl rfl
theorem qX_Oc_79 {R : Room} {s : State} {args : Array Value} (hts : ∀ w ∈ G0, w.before args s = true) (hR : (rm_XOc_join).frames + 1 ≤ R.frames ∧ 8 + (3 + 11) + (rm_XOc_join).locals ≤ R.locals) : CallB R s args RX_Oc 79 y_XOc_join b_XOc_join 3 (some .int) w_XOc_join rm_XOc_join 0 0 3 ∧ (Cond.static y_XOc_join).before args s = true := cwS 3 hts (zgS kwX_162 kwX_163 kwX_144 kc_XOc_join) rfl rfl rfl (by decide +kernel) hR
set_option maxRecDepth 20000 in
theorem kwX_164 : Cond.methodLink RX_Oc 83 y_XOc_entry ∈ G0 := mG 712 rfl rfl
set_option maxRecDepth 20000 in
theorem kwX_165 : Cond.instanceMethod y_XOc_entry ∈ G0 := mG 714 rfl rfl
set_option maxRecDepth 20000 in
theorem kwX_166 : Cond.selects RX_Oc y_XOc_entry y_XOc_entry ∈ G0 := mG 22 rfl rfl
theorem qX_Oc_83 {R : Room} {s : State} {args : Array Value} (hts : ∀ w ∈ G0, w.before args s = true) (hR : (rm_XOc_entry).frames + 1 ≤ R.frames ∧ 8 + (3 + 11) + (rm_XOc_entry).locals ≤ R.locals) : CallW R s args RX_Oc RX_Oc 83 y_XOc_entry b_XOc_entry 3 (some .int) w_XOc_entry rm_XOc_entry 0 0 2 := cwV 2 hts (zgV kwX_164 kwX_165 kwX_166 kwX_144 kc_XOc_entry) rfl rfl rfl (by decide +kernel) hR
set_option maxRecDepth 20000 in
theorem kwX_167 : Cond.methodLink RX_Pr 102 y_XAr_shift ∈ G0 := mG 677 rfl rfl
set_option maxRecDepth 20000 in
theorem kwX_168 : Cond.instanceMethod y_XAr_shift ∈ G0 := mG 678 rfl rfl
set_option maxRecDepth 20000 in
theorem kwX_169 : Cond.selects RX_Ar y_XAr_shift y_XAr_shift ∈ G0 := mG 679 rfl rfl
theorem qX_Pr_102 {R : Room} {s : State} {args : Array Value} (hts : ∀ w ∈ G0, w.before args s = true) (hR : (rm_XAr_shift).frames + 1 ≤ R.frames ∧ 8 + (4 + 11) + (rm_XAr_shift).locals ≤ R.locals) : CallW R s args RX_Pr RX_Ar 102 y_XAr_shift b_XAr_shift 4 (some .int) w_XAr_shift rm_XAr_shift 0 0 1 := cwV 1 hts (zgV kwX_167 kwX_168 kwX_169 kwX_8 kc_XAr_shift) rfl rfl rfl (by decide +kernel) hR
set_option maxRecDepth 20000 in
theorem kwX_170 : Cond.methodLink RX_Pr 105 y_XOc_withImmediate ∈ G0 := mG 687 rfl rfl
set_option maxRecDepth 20000 in
theorem kwX_171 : Cond.instanceMethod y_XOc_withImmediate ∈ G0 := mG 688 rfl rfl
set_option maxRecDepth 20000 in
theorem kwX_172 : Cond.selects RX_Oc y_XOc_withImmediate y_XOc_withImmediate ∈ G0 := mG 689 rfl rfl
theorem qX_Pr_105 {R : Room} {s : State} {args : Array Value} (hts : ∀ w ∈ G0, w.before args s = true) (hR : (rm_XOc_withImmediate).frames + 1 ≤ R.frames ∧ 8 + (3 + 11) + (rm_XOc_withImmediate).locals ≤ R.locals) : CallW R s args RX_Pr RX_Oc 105 y_XOc_withImmediate b_XOc_withImmediate 3 (some .int) w_XOc_withImmediate rm_XOc_withImmediate 0 0 1 := cwV 1 hts (zgV kwX_170 kwX_171 kwX_172 kwX_144 kc_XOc_withImmediate) rfl rfl rfl (by decide +kernel) hR
set_option maxRecDepth 20000 in
theorem kwX_173 : Cond.methodLink RX_Pr 108 y_XOc_withField ∈ G0 := mG 704 rfl rfl
set_option maxRecDepth 20000 in
theorem kwX_174 : Cond.instanceMethod y_XOc_withField ∈ G0 := mG 705 rfl rfl
set_option maxRecDepth 20000 in
theorem kwX_175 : Cond.selects RX_Oc y_XOc_withField y_XOc_withField ∈ G0 := mG 706 rfl rfl
theorem qX_Pr_108 {R : Room} {s : State} {args : Array Value} (hts : ∀ w ∈ G0, w.before args s = true) (hR : (rm_XOc_withField).frames + 1 ≤ R.frames ∧ 8 + (3 + 11) + (rm_XOc_withField).locals ≤ R.locals) : CallW R s args RX_Pr RX_Oc 108 y_XOc_withField b_XOc_withField 3 (some .int) w_XOc_withField rm_XOc_withField 0 0 1 := cwV 1 hts (zgV kwX_173 kwX_174 kwX_175 kwX_144 kc_XOc_withField) rfl rfl rfl (by decide +kernel) hR
set_option maxRecDepth 20000 in
theorem kwX_176 : Cond.methodLink RX_Pr 111 y_XDe_changeForm ∈ G0 := mG 728 rfl rfl
set_option maxRecDepth 20000 in
theorem kwX_177 : Cond.instanceMethod y_XDe_changeForm ∈ G0 := mG 729 rfl rfl
set_option maxRecDepth 20000 in
theorem kwX_178 : Cond.selects RX_De y_XDe_changeForm y_XDe_changeForm ∈ G0 := mG 730 rfl rfl
theorem qX_Pr_111 {R : Room} {s : State} {args : Array Value} (hts : ∀ w ∈ G0, w.before args s = true) (hR : (rm_XDe_changeForm).frames + 1 ≤ R.frames ∧ 8 + (5 + 11) + (rm_XDe_changeForm).locals ≤ R.locals) : CallW R s args RX_Pr RX_De 111 y_XDe_changeForm b_XDe_changeForm 5 (some .int) w_XDe_changeForm rm_XDe_changeForm 0 0 1 := cwV 1 hts (zgV kwX_176 kwX_177 kwX_178 kwX_71 kc_XDe_changeForm) rfl rfl rfl (by decide +kernel) hR
set_option maxRecDepth 20000 in
theorem kwX_179 : Cond.methodLink RX_Pr 114 y_XDe_calculate ∈ G0 := mG 747 rfl rfl
set_option maxRecDepth 20000 in
theorem kwX_180 : Cond.instanceMethod y_XDe_calculate ∈ G0 := mG 748 rfl rfl
set_option maxRecDepth 20000 in
theorem kwX_181 : Cond.selects RX_De y_XDe_calculate y_XDe_calculate ∈ G0 := mG 749 rfl rfl
theorem qX_Pr_114 {R : Room} {s : State} {args : Array Value} (hts : ∀ w ∈ G0, w.before args s = true) (hR : (rm_XDe_calculate).frames + 1 ≤ R.frames ∧ 8 + (9 + 11) + (rm_XDe_calculate).locals ≤ R.locals) : CallW R s args RX_Pr RX_De 114 y_XDe_calculate b_XDe_calculate 9 (some .int) w_XDe_calculate rm_XDe_calculate 0 0 1 := cwV 1 hts (zgV kwX_179 kwX_180 kwX_181 kwX_71 kc_XDe_calculate) rfl rfl rfl (by decide +kernel) hR
set_option maxRecDepth 20000 in
theorem kwX_182 : Cond.methodLink RX_Pr 117 y_XPr_performRegular ∈ G0 := mG 782 rfl rfl
set_option maxRecDepth 20000 in
theorem kwX_183 : Cond.initialized RX_Pr ∈ G0 := mG 73 rfl rfl
set_option maxRecDepth 20000 in
theorem kwX_184 : Cond.instanceMethod y_XPr_performRegular ∈ G0 := mG 784 rfl rfl
set_option maxRecDepth 20000 in
theorem kwX_185 : Cond.selects RX_Pr y_XPr_performRegular y_XPr_performRegular ∈ G0 := mG 33 rfl rfl
theorem qX_Pr_117 {R : Room} {s : State} {args : Array Value} (hts : ∀ w ∈ G0, w.before args s = true) (hR : (rm_XPr_performRegular).frames + 1 ≤ R.frames ∧ 8 + (2 + 11) + (rm_XPr_performRegular).locals ≤ R.locals) : CallW R s args RX_Pr RX_Pr 117 y_XPr_performRegular b_XPr_performRegular 2 (some .int) w_XPr_performRegular rm_XPr_performRegular 0 0 1 := cwV 1 hts (zgV kwX_182 kwX_184 kwX_185 kwX_183 kc_XPr_performRegular) rfl rfl rfl (by decide +kernel) hR
set_option maxRecDepth 20000 in
theorem kwX_186 : Cond.methodLink RX_Pr 120 y_XAr_withRegister ∈ G0 := mG 786 rfl rfl
set_option maxRecDepth 20000 in
theorem kwX_187 : Cond.instanceMethod y_XAr_withRegister ∈ G0 := mG 787 rfl rfl
set_option maxRecDepth 20000 in
theorem kwX_188 : Cond.selects RX_Ar y_XAr_withRegister y_XAr_withRegister ∈ G0 := mG 788 rfl rfl
theorem qX_Pr_120 {R : Room} {s : State} {args : Array Value} (hts : ∀ w ∈ G0, w.before args s = true) (hR : (rm_XAr_withRegister).frames + 1 ≤ R.frames ∧ 8 + (2 + 11) + (rm_XAr_withRegister).locals ≤ R.locals) : CallW R s args RX_Pr RX_Ar 120 y_XAr_withRegister b_XAr_withRegister 2 (some .int) w_XAr_withRegister rm_XAr_withRegister 0 0 1 := cwV 1 hts (zgV kwX_186 kwX_187 kwX_188 kwX_8 kc_XAr_withRegister) rfl rfl rfl (by decide +kernel) hR
set_option maxRecDepth 20000 in
theorem kwX_189 : Cond.methodLink RX_Pr 123 y_XAr_withWord ∈ G0 := mG 793 rfl rfl
set_option maxRecDepth 20000 in
theorem kwX_190 : Cond.instanceMethod y_XAr_withWord ∈ G0 := mG 794 rfl rfl
set_option maxRecDepth 20000 in
theorem kwX_191 : Cond.selects RX_Ar y_XAr_withWord y_XAr_withWord ∈ G0 := mG 795 rfl rfl
theorem qX_Pr_123 {R : Room} {s : State} {args : Array Value} (hts : ∀ w ∈ G0, w.before args s = true) (hR : (rm_XAr_withWord).frames + 1 ≤ R.frames ∧ 8 + (4 + 11) + (rm_XAr_withWord).locals ≤ R.locals) : CallW R s args RX_Pr RX_Ar 123 y_XAr_withWord b_XAr_withWord 4 (some .int) w_XAr_withWord rm_XAr_withWord 0 0 1 := cwV 1 hts (zgV kwX_189 kwX_190 kwX_191 kwX_8 kc_XAr_withWord) rfl rfl rfl (by decide +kernel) hR
set_option maxRecDepth 20000 in
theorem kwX_192 : Cond.methodLink RX_Pr 74 y_XIn_fetch ∈ G0 := mG 523 rfl rfl
set_option maxRecDepth 20000 in
theorem kwX_193 : Cond.instanceMethod y_XIn_fetch ∈ G0 := mG 524 rfl rfl
set_option maxRecDepth 20000 in
theorem kwX_194 : Cond.selects RX_In y_XIn_fetch y_XIn_fetch ∈ G0 := mG 525 rfl rfl
theorem qX_Pr_74 {R : Room} {s : State} {args : Array Value} (hts : ∀ w ∈ G0, w.before args s = true) (hR : (rm_XIn_fetch).frames + 1 ≤ R.frames ∧ 8 + (4 + 11) + (rm_XIn_fetch).locals ≤ R.locals) : CallW R s args RX_Pr RX_In 74 y_XIn_fetch b_XIn_fetch 4 (some .int) w_XIn_fetch rm_XIn_fetch 0 0 1 := cwV 1 hts (zgV kwX_192 kwX_193 kwX_194 kwX_131 kc_XIn_fetch) rfl rfl rfl (by decide +kernel) hR
set_option maxRecDepth 20000 in
theorem kwX_195 : Cond.methodLink RX_Pr 81 y_XPr_perform ∈ G0 := mG 538 rfl rfl
set_option maxRecDepth 20000 in
theorem kwX_196 : Cond.instanceMethod y_XPr_perform ∈ G0 := mG 540 rfl rfl
set_option maxRecDepth 20000 in
theorem kwX_197 : Cond.selects RX_Pr y_XPr_perform y_XPr_perform ∈ G0 := mG 3 rfl rfl
theorem qX_Pr_81 {R : Room} {s : State} {args : Array Value} (hts : ∀ w ∈ G0, w.before args s = true) (hR : (rm_XPr_perform).frames + 1 ≤ R.frames ∧ 8 + (2 + 11) + (rm_XPr_perform).locals ≤ R.locals) : CallW R s args RX_Pr RX_Pr 81 y_XPr_perform b_XPr_perform 2 (some .int) w_XPr_perform rm_XPr_perform 0 0 1 := cwV 1 hts (zgV kwX_195 kwX_196 kwX_197 kwX_183 kc_XPr_perform) rfl rfl rfl (by decide +kernel) hR
set_option maxRecDepth 20000 in
theorem kwX_198 : Cond.methodLink RX_Pr 94 y_XBr_perform ∈ G0 := mG 542 rfl rfl
set_option maxRecDepth 20000 in
theorem kwX_199 : Cond.instanceMethod y_XBr_perform ∈ G0 := mG 543 rfl rfl
set_option maxRecDepth 20000 in
theorem kwX_200 : Cond.selects RX_Br y_XBr_perform y_XBr_perform ∈ G0 := mG 544 rfl rfl
theorem qX_Pr_94 {R : Room} {s : State} {args : Array Value} (hts : ∀ w ∈ G0, w.before args s = true) (hR : (rm_XBr_perform).frames + 1 ≤ R.frames ∧ 8 + (5 + 11) + (rm_XBr_perform).locals ≤ R.locals) : CallW R s args RX_Pr RX_Br 94 y_XBr_perform b_XBr_perform 5 (some .int) w_XBr_perform rm_XBr_perform 0 0 1 := cwV 1 hts (zgV kwX_198 kwX_199 kwX_200 kwX_58 kc_XBr_perform) rfl rfl rfl (by decide +kernel) hR
set_option maxRecDepth 20000 in
theorem kwX_201 : Cond.methodLink RX_Pr 95 y_XTr_perform ∈ G0 := mG 557 rfl rfl
set_option maxRecDepth 20000 in
theorem kwX_202 : Cond.initialized RX_Tr ∈ G0 := mG 76 rfl rfl
set_option maxRecDepth 20000 in
theorem kwX_203 : Cond.instanceMethod y_XTr_perform ∈ G0 := mG 558 rfl rfl
set_option maxRecDepth 20000 in
theorem kwX_204 : Cond.selects RX_Tr y_XTr_perform y_XTr_perform ∈ G0 := mG 559 rfl rfl
theorem qX_Pr_95 {R : Room} {s : State} {args : Array Value} (hts : ∀ w ∈ G0, w.before args s = true) (hR : (rm_XTr_perform).frames + 1 ≤ R.frames ∧ 8 + (2 + 11) + (rm_XTr_perform).locals ≤ R.locals) : CallW R s args RX_Pr RX_Tr 95 y_XTr_perform b_XTr_perform 2 (some .int) w_XTr_perform rm_XTr_perform 0 0 1 := cwV 1 hts (zgV kwX_201 kwX_203 kwX_204 kwX_202 kc_XTr_perform) rfl rfl rfl (by decide +kernel) hR
set_option maxRecDepth 20000 in
theorem kwX_205 : Cond.methodLink RX_Pr 96 y_XAr_withHalf ∈ G0 := mG 588 rfl rfl
set_option maxRecDepth 20000 in
theorem kwX_206 : Cond.instanceMethod y_XAr_withHalf ∈ G0 := mG 589 rfl rfl
set_option maxRecDepth 20000 in
theorem kwX_207 : Cond.selects RX_Ar y_XAr_withHalf y_XAr_withHalf ∈ G0 := mG 590 rfl rfl
theorem qX_Pr_96 {R : Room} {s : State} {args : Array Value} (hts : ∀ w ∈ G0, w.before args s = true) (hR : (rm_XAr_withHalf).frames + 1 ≤ R.frames ∧ 8 + (4 + 11) + (rm_XAr_withHalf).locals ≤ R.locals) : CallW R s args RX_Pr RX_Ar 96 y_XAr_withHalf b_XAr_withHalf 4 (some .int) w_XAr_withHalf rm_XAr_withHalf 0 0 1 := cwV 1 hts (zgV kwX_205 kwX_206 kwX_207 kwX_8 kc_XAr_withHalf) rfl rfl rfl (by decide +kernel) hR
set_option maxRecDepth 20000 in
theorem kwX_208 : Cond.methodLink RX_Pr 99 y_XDe_convert ∈ G0 := mG 647 rfl rfl
set_option maxRecDepth 20000 in
theorem kwX_209 : Cond.instanceMethod y_XDe_convert ∈ G0 := mG 648 rfl rfl
set_option maxRecDepth 20000 in
theorem kwX_210 : Cond.selects RX_De y_XDe_convert y_XDe_convert ∈ G0 := mG 649 rfl rfl
theorem qX_Pr_99 {R : Room} {s : State} {args : Array Value} (hts : ∀ w ∈ G0, w.before args s = true) (hR : (rm_XDe_convert).frames + 1 ≤ R.frames ∧ 8 + (5 + 11) + (rm_XDe_convert).locals ≤ R.locals) : CallW R s args RX_Pr RX_De 99 y_XDe_convert b_XDe_convert 5 (some .int) w_XDe_convert rm_XDe_convert 0 0 1 := cwV 1 hts (zgV kwX_208 kwX_209 kwX_210 kwX_71 kc_XDe_convert) rfl rfl rfl (by decide +kernel) hR
set_option maxRecDepth 20000 in
theorem kwX_211 : Cond.methodLink RX_Tr 21 y_XTr_store ∈ G0 := mG 561 rfl rfl
set_option maxRecDepth 20000 in
theorem kwX_212 : Cond.instanceMethod y_XTr_store ∈ G0 := mG 563 rfl rfl
set_option maxRecDepth 20000 in
theorem kwX_213 : Cond.selects RX_Tr y_XTr_store y_XTr_store ∈ G0 := mG 6 rfl rfl
theorem qX_Tr_21 {R : Room} {s : State} {args : Array Value} (hts : ∀ w ∈ G0, w.before args s = true) (hR : (rm_XTr_store).frames + 1 ≤ R.frames ∧ 8 + (4 + 11) + (rm_XTr_store).locals ≤ R.locals) : CallW R s args RX_Tr RX_Tr 21 y_XTr_store b_XTr_store 4 (some .int) w_XTr_store rm_XTr_store 0 0 2 := cwV 2 hts (zgV kwX_211 kwX_212 kwX_213 kwX_202 kc_XTr_store) rfl rfl rfl (by decide +kernel) hR
set_option maxRecDepth 20000 in
theorem kwX_214 : Cond.methodLink RX_Tr 31 y_XSt_put ∈ G0 := mG 572 rfl rfl
theorem qX_Tr_31 {R : Room} {s : State} {args : Array Value} (hts : ∀ w ∈ G0, w.before args s = true) (hR : (rm_XSt_put).frames + 1 ≤ R.frames ∧ 8 + (3 + 11) + (rm_XSt_put).locals ≤ R.locals) : CallW R s args RX_Tr RX_St 31 y_XSt_put b_XSt_put 3 none w_XSt_put rm_XSt_put 0 0 2 := cwV 2 hts (zgV kwX_214 kwX_27 kwX_28 kwX_1 kc_XSt_put) rfl rfl rfl (by decide +kernel) hR
set_option maxRecDepth 20000 in
theorem kwX_215 : Cond.methodLink RX_Tr 37 y_XTr_insert ∈ G0 := mG 573 rfl rfl
set_option maxRecDepth 20000 in
theorem kwX_216 : Cond.instanceMethod y_XTr_insert ∈ G0 := mG 575 rfl rfl
set_option maxRecDepth 20000 in
theorem kwX_217 : Cond.selects RX_Tr y_XTr_insert y_XTr_insert ∈ G0 := mG 7 rfl rfl
theorem qX_Tr_37 {R : Room} {s : State} {args : Array Value} (hts : ∀ w ∈ G0, w.before args s = true) (hR : (rm_XTr_insert).frames + 1 ≤ R.frames ∧ 8 + (2 + 11) + (rm_XTr_insert).locals ≤ R.locals) : CallW R s args RX_Tr RX_Tr 37 y_XTr_insert b_XTr_insert 2 (some .int) w_XTr_insert rm_XTr_insert 0 0 1 := cwV 1 hts (zgV kwX_215 kwX_216 kwX_217 kwX_202 kc_XTr_insert) rfl rfl rfl (by decide +kernel) hR
set_option maxRecDepth 20000 in
theorem kwX_218 : Cond.methodLink RX_Tr 41 y_XTr_several ∈ G0 := mG 579 rfl rfl
set_option maxRecDepth 20000 in
theorem kwX_219 : Cond.instanceMethod y_XTr_several ∈ G0 := mG 581 rfl rfl
set_option maxRecDepth 20000 in
theorem kwX_220 : Cond.selects RX_Tr y_XTr_several y_XTr_several ∈ G0 := mG 8 rfl rfl
theorem qX_Tr_41 {R : Room} {s : State} {args : Array Value} (hts : ∀ w ∈ G0, w.before args s = true) (hR : (rm_XTr_several).frames + 1 ≤ R.frames ∧ 8 + (5 + 11) + (rm_XTr_several).locals ≤ R.locals) : CallW R s args RX_Tr RX_Tr 41 y_XTr_several b_XTr_several 5 (some .int) w_XTr_several rm_XTr_several 0 0 1 := cwV 1 hts (zgV kwX_218 kwX_219 kwX_220 kwX_202 kc_XTr_several) rfl rfl rfl (by decide +kernel) hR
set_option maxRecDepth 20000 in
theorem kwX_221 : Cond.methodLink RX_Tr 48 y_XMe_faultOf ∈ G0 := mG 565 rfl rfl
theorem qX_Tr_48 {R : Room} {s : State} {args : Array Value} (hts : ∀ w ∈ G0, w.before args s = true) (hR : (rm_XMe_faultOf).frames + 1 ≤ R.frames ∧ 8 + (3 + 11) + (rm_XMe_faultOf).locals ≤ R.locals) : CallW R s args RX_Tr RX_Me 48 y_XMe_faultOf b_XMe_faultOf 3 (some .int) w_XMe_faultOf rm_XMe_faultOf 0 0 2 := cwV 2 hts (zgV kwX_221 kwX_18 kwX_19 kwX_17 kc_XMe_faultOf) rfl rfl rfl (by decide +kernel) hR
set_option maxRecDepth 20000 in
theorem kwX_222 : Cond.methodLink RX_Tr 54 y_XSt_value ∈ G0 := mG 570 rfl rfl
theorem qX_Tr_54 {R : Room} {s : State} {args : Array Value} (hts : ∀ w ∈ G0, w.before args s = true) (hR : (rm_XSt_value).frames + 1 ≤ R.frames ∧ 8 + (2 + 11) + (rm_XSt_value).locals ≤ R.locals) : CallW R s args RX_Tr RX_St 54 y_XSt_value b_XSt_value 2 (some .int) w_XSt_value rm_XSt_value 0 0 1 := cwV 1 hts (zgV kwX_222 kwX_11 kwX_12 kwX_1 kc_XSt_value) rfl rfl rfl (by decide +kernel) hR
set_option maxRecDepth 20000 in
theorem kwX_223 : Cond.methodLink RX_Tr 58 y_XMe_store ∈ G0 := mG 571 rfl rfl
set_option maxRecDepth 20000 in
theorem kwX_224 : Cond.instanceMethod y_XMe_store ∈ G0 := mG 418 rfl rfl
set_option maxRecDepth 20000 in
theorem kwX_225 : Cond.selects RX_Me y_XMe_store y_XMe_store ∈ G0 := mG 419 rfl rfl
theorem qX_Tr_58 {R : Room} {s : State} {args : Array Value} (hts : ∀ w ∈ G0, w.before args s = true) (hR : (rm_XMe_store).frames + 1 ≤ R.frames ∧ 8 + (8 + 11) + (rm_XMe_store).locals ≤ R.locals) : CallW R s args RX_Tr RX_Me 58 y_XMe_store b_XMe_store 8 none w_XMe_store rm_XMe_store 0 0 3 := cwV 3 hts (zgV kwX_223 kwX_224 kwX_225 kwX_17 kc_XMe_store) rfl rfl rfl (by decide +kernel) hR
set_option maxRecDepth 20000 in
theorem kwX_226 : Cond.methodLink RX_Tr 61 y_XMe_holds ∈ G0 := mG 577 rfl rfl
theorem qX_Tr_61 {R : Room} {s : State} {args : Array Value} (hts : ∀ w ∈ G0, w.before args s = true) (hR : (rm_XMe_holds).frames + 1 ≤ R.frames ∧ 8 + (3 + 11) + (rm_XMe_holds).locals ≤ R.locals) : CallW R s args RX_Tr RX_Me 61 y_XMe_holds b_XMe_holds 3 (some .boolean) w_XMe_holds rm_XMe_holds 0 0 2 := cwV 2 hts (zgV kwX_226 kwX_108 kwX_109 kwX_17 kc_XMe_holds) rfl rfl rfl (by decide +kernel) hR
set_option maxRecDepth 20000 in
theorem kwX_227 : Cond.methodLink RX_Tr 65 y_XMe_get ∈ G0 := mG 578 rfl rfl
theorem qX_Tr_65 {R : Room} {s : State} {args : Array Value} (hts : ∀ w ∈ G0, w.before args s = true) (hR : (rm_XMe_get).frames + 1 ≤ R.frames ∧ 8 + (2 + 11) + (rm_XMe_get).locals ≤ R.locals) : CallW R s args RX_Tr RX_Me 65 y_XMe_get b_XMe_get 2 (some .int) w_XMe_get rm_XMe_get 0 0 1 := cwV 1 hts (zgV kwX_227 kwX_111 kwX_112 kwX_17 kc_XMe_get) rfl rfl rfl (by decide +kernel) hR
set_option maxRecDepth 20000 in
theorem kwX_228 : Cond.methodLink RX_Tr 71 y_XMe_word ∈ G0 := mG 583 rfl rfl
theorem qX_Tr_71 {R : Room} {s : State} {args : Array Value} (hts : ∀ w ∈ G0, w.before args s = true) (hR : (rm_XMe_word).frames + 1 ≤ R.frames ∧ 8 + (2 + 11) + (rm_XMe_word).locals ≤ R.locals) : CallW R s args RX_Tr RX_Me 71 y_XMe_word b_XMe_word 2 (some .int) w_XMe_word rm_XMe_word 0 0 1 := cwV 1 hts (zgV kwX_228 kwX_21 kwX_22 kwX_17 kc_XMe_word) rfl rfl rfl (by decide +kernel) hR
set_option maxRecDepth 20000 in
theorem kX_abs_static : Cond.static Lib.MathLoose.abs_long.x ∈ G0 := mG 604 rfl rfl
set_option maxRecDepth 20000 in
theorem kX_abs_ini : Cond.initialized "java/lang/Math" ∈ G0 := mG 87 rfl rfl
set_option maxRecDepth 20000 in
theorem kX_abs_code : Cond.code Lib.MathLoose.abs_long.x Lib.MathLoose.abs_long.code 2 (some .long) ∈ G0 := mG 605 rfl rfl
end
section
theorem d_XDM_isWithin_0 : decode b_XDM_isWithin 0 = .ok (.iload_n 0, 1) := by decide +kernel
theorem d_XDM_isWithin_1 : decode b_XDM_isWithin 1 = .ok (.iload_n 1, 1) := by decide +kernel
theorem d_XDM_isWithin_2 : decode b_XDM_isWithin 2 = .ok (.if_icmp .lt 12, 3) := by decide +kernel
theorem d_XDM_isWithin_5 : decode b_XDM_isWithin 5 = .ok (.iload_n 0, 1) := by decide +kernel
theorem d_XDM_isWithin_6 : decode b_XDM_isWithin 6 = .ok (.iload_n 2, 1) := by decide +kernel
theorem d_XDM_isWithin_7 : decode b_XDM_isWithin 7 = .ok (.if_icmp .gt 7, 3) := by decide +kernel
theorem d_XDM_isWithin_10 : decode b_XDM_isWithin 10 = .ok (.iconst 1, 1) := by decide +kernel
theorem d_XDM_isWithin_11 : decode b_XDM_isWithin 11 = .ok (.goto 4, 3) := by decide +kernel
theorem d_XDM_isWithin_14 : decode b_XDM_isWithin 14 = .ok (.iconst 0, 1) := by decide +kernel
theorem d_XDM_isWithin_15 : decode b_XDM_isWithin 15 = .ok (.ireturn, 1) := by decide +kernel
theorem d_XDM_isNibble_0 : decode b_XDM_isNibble 0 = .ok (.iload_n 0, 1) := by decide +kernel
theorem d_XDM_isNibble_1 : decode b_XDM_isNibble 1 = .ok (.iconst 0, 1) := by decide +kernel
theorem d_XDM_isNibble_2 : decode b_XDM_isNibble 2 = .ok (.bipush 15, 2) := by decide +kernel
theorem d_XDM_isNibble_4 : decode b_XDM_isNibble 4 = .ok (.invokestatic 25, 3) := by decide +kernel
theorem d_XDM_isNibble_7 : decode b_XDM_isNibble 7 = .ok (.ireturn, 1) := by decide +kernel
theorem d_XDM_isPlace_0 : decode b_XDM_isPlace 0 = .ok (.iload_n 0, 1) := by decide +kernel
theorem d_XDM_isPlace_1 : decode b_XDM_isPlace 1 = .ok (.invokestatic 51, 3) := by decide +kernel
theorem d_XDM_isPlace_4 : decode b_XDM_isPlace 4 = .ok (.ifCond .eq 18, 3) := by decide +kernel
theorem d_XDM_isPlace_7 : decode b_XDM_isPlace 7 = .ok (.iload_n 1, 1) := by decide +kernel
theorem d_XDM_isPlace_8 : decode b_XDM_isPlace 8 = .ok (.iconst 0, 1) := by decide +kernel
theorem d_XDM_isPlace_9 : decode b_XDM_isPlace 9 = .ok (.sipush 4095, 3) := by decide +kernel
theorem d_XDM_isPlace_12 : decode b_XDM_isPlace 12 = .ok (.invokestatic 25, 3) := by decide +kernel
theorem d_XDM_isPlace_15 : decode b_XDM_isPlace 15 = .ok (.ifCond .eq 7, 3) := by decide +kernel
theorem d_XDM_isPlace_18 : decode b_XDM_isPlace 18 = .ok (.iconst 1, 1) := by decide +kernel
theorem d_XDM_isPlace_19 : decode b_XDM_isPlace 19 = .ok (.goto 4, 3) := by decide +kernel
theorem d_XDM_isPlace_22 : decode b_XDM_isPlace 22 = .ok (.iconst 0, 1) := by decide +kernel
theorem d_XDM_isPlace_23 : decode b_XDM_isPlace 23 = .ok (.ireturn, 1) := by decide +kernel
theorem d_XAr_lacksPair_0 : decode b_XAr_lacksPair 0 = .ok (.iload_n 0, 1) := by decide +kernel
theorem d_XAr_lacksPair_1 : decode b_XAr_lacksPair 1 = .ok (.bipush 28, 2) := by decide +kernel
theorem d_XAr_lacksPair_3 : decode b_XAr_lacksPair 3 = .ok (.if_icmp .eq 9, 3) := by decide +kernel
theorem d_XAr_lacksPair_6 : decode b_XAr_lacksPair 6 = .ok (.iload_n 0, 1) := by decide +kernel
theorem d_XAr_lacksPair_7 : decode b_XAr_lacksPair 7 = .ok (.bipush 29, 2) := by decide +kernel
theorem d_XAr_lacksPair_9 : decode b_XAr_lacksPair 9 = .ok (.if_icmp .ne 13, 3) := by decide +kernel
theorem d_XAr_lacksPair_12 : decode b_XAr_lacksPair 12 = .ok (.iload_n 1, 1) := by decide +kernel
theorem d_XAr_lacksPair_13 : decode b_XAr_lacksPair 13 = .ok (.iconst 1, 1) := by decide +kernel
theorem d_XAr_lacksPair_14 : decode b_XAr_lacksPair 14 = .ok (.iand, 1) := by decide +kernel
theorem d_XAr_lacksPair_15 : decode b_XAr_lacksPair 15 = .ok (.ifCond .eq 7, 3) := by decide +kernel
theorem d_XAr_lacksPair_18 : decode b_XAr_lacksPair 18 = .ok (.iconst 1, 1) := by decide +kernel
theorem d_XAr_lacksPair_19 : decode b_XAr_lacksPair 19 = .ok (.goto 4, 3) := by decide +kernel
theorem d_XAr_lacksPair_22 : decode b_XAr_lacksPair 22 = .ok (.iconst 0, 1) := by decide +kernel
theorem d_XAr_lacksPair_23 : decode b_XAr_lacksPair 23 = .ok (.ireturn, 1) := by decide +kernel
theorem d_XSt_value_0 : decode b_XSt_value 0 = .ok (.aload_n 0, 1) := by decide +kernel
theorem d_XSt_value_1 : decode b_XSt_value 1 = .ok (.getfield 18, 3) := by decide +kernel
theorem d_XSt_value_4 : decode b_XSt_value 4 = .ok (.iload_n 1, 1) := by decide +kernel
theorem d_XSt_value_5 : decode b_XSt_value 5 = .ok (.bipush 15, 2) := by decide +kernel
theorem d_XSt_value_7 : decode b_XSt_value 7 = .ok (.iand, 1) := by decide +kernel
theorem d_XSt_value_8 : decode b_XSt_value 8 = .ok (.iaload, 1) := by decide +kernel
theorem d_XSt_value_9 : decode b_XSt_value 9 = .ok (.ireturn, 1) := by decide +kernel
theorem d_XSt_put_0 : decode b_XSt_put 0 = .ok (.aload_n 0, 1) := by decide +kernel
theorem d_XSt_put_1 : decode b_XSt_put 1 = .ok (.getfield 18, 3) := by decide +kernel
theorem d_XSt_put_4 : decode b_XSt_put 4 = .ok (.iload_n 1, 1) := by decide +kernel
theorem d_XSt_put_5 : decode b_XSt_put 5 = .ok (.bipush 15, 2) := by decide +kernel
theorem d_XSt_put_7 : decode b_XSt_put 7 = .ok (.iand, 1) := by decide +kernel
theorem d_XSt_put_8 : decode b_XSt_put 8 = .ok (.iload_n 2, 1) := by decide +kernel
theorem d_XSt_put_9 : decode b_XSt_put 9 = .ok (.iastore, 1) := by decide +kernel
theorem d_XSt_put_10 : decode b_XSt_put 10 = .ok (.return_, 1) := by decide +kernel
theorem d_XSt_conditionBySign_0 : decode b_XSt_conditionBySign 0 = .ok (.aload_n 0, 1) := by decide +kernel
theorem d_XSt_conditionBySign_1 : decode b_XSt_conditionBySign 1 = .ok (.lload_n 1, 1) := by decide +kernel
theorem d_XSt_conditionBySign_2 : decode b_XSt_conditionBySign 2 = .ok (.lconst 0, 1) := by decide +kernel
theorem d_XSt_conditionBySign_3 : decode b_XSt_conditionBySign 3 = .ok (.lcmp, 1) := by decide +kernel
theorem d_XSt_conditionBySign_4 : decode b_XSt_conditionBySign 4 = .ok (.ifCond .ne 7, 3) := by decide +kernel
theorem d_XSt_conditionBySign_7 : decode b_XSt_conditionBySign 7 = .ok (.iconst 0, 1) := by decide +kernel
theorem d_XSt_conditionBySign_8 : decode b_XSt_conditionBySign 8 = .ok (.goto 14, 3) := by decide +kernel
theorem d_XSt_conditionBySign_11 : decode b_XSt_conditionBySign 11 = .ok (.lload_n 1, 1) := by decide +kernel
theorem d_XSt_conditionBySign_12 : decode b_XSt_conditionBySign 12 = .ok (.lconst 0, 1) := by decide +kernel
theorem d_XSt_conditionBySign_13 : decode b_XSt_conditionBySign 13 = .ok (.lcmp, 1) := by decide +kernel
theorem d_XSt_conditionBySign_14 : decode b_XSt_conditionBySign 14 = .ok (.ifCond .ge 7, 3) := by decide +kernel
theorem d_XSt_conditionBySign_17 : decode b_XSt_conditionBySign 17 = .ok (.iconst 1, 1) := by decide +kernel
theorem d_XSt_conditionBySign_18 : decode b_XSt_conditionBySign 18 = .ok (.goto 4, 3) := by decide +kernel
theorem d_XSt_conditionBySign_21 : decode b_XSt_conditionBySign 21 = .ok (.iconst 2, 1) := by decide +kernel
theorem d_XSt_conditionBySign_22 : decode b_XSt_conditionBySign 22 = .ok (.putfield 26, 3) := by decide +kernel
theorem d_XSt_conditionBySign_25 : decode b_XSt_conditionBySign 25 = .ok (.return_, 1) := by decide +kernel
theorem d_XSt_fixedOverflow_0 : decode b_XSt_fixedOverflow 0 = .ok (.aload_n 0, 1) := by decide +kernel
theorem d_XSt_fixedOverflow_1 : decode b_XSt_fixedOverflow 1 = .ok (.iconst 3, 1) := by decide +kernel
theorem d_XSt_fixedOverflow_2 : decode b_XSt_fixedOverflow 2 = .ok (.putfield 26, 3) := by decide +kernel
theorem d_XSt_fixedOverflow_5 : decode b_XSt_fixedOverflow 5 = .ok (.aload_n 0, 1) := by decide +kernel
theorem d_XSt_fixedOverflow_6 : decode b_XSt_fixedOverflow 6 = .ok (.getfield 29, 3) := by decide +kernel
theorem d_XSt_fixedOverflow_9 : decode b_XSt_fixedOverflow 9 = .ok (.iconst 1, 1) := by decide +kernel
theorem d_XSt_fixedOverflow_10 : decode b_XSt_fixedOverflow 10 = .ok (.iand, 1) := by decide +kernel
theorem d_XSt_fixedOverflow_11 : decode b_XSt_fixedOverflow 11 = .ok (.ifCond .eq 8, 3) := by decide +kernel
theorem d_XSt_fixedOverflow_14 : decode b_XSt_fixedOverflow 14 = .ok (.bipush 8, 2) := by decide +kernel
theorem d_XSt_fixedOverflow_16 : decode b_XSt_fixedOverflow 16 = .ok (.goto 4, 3) := by decide +kernel
theorem d_XSt_fixedOverflow_19 : decode b_XSt_fixedOverflow 19 = .ok (.iconst 0, 1) := by decide +kernel
theorem d_XSt_fixedOverflow_20 : decode b_XSt_fixedOverflow 20 = .ok (.ireturn, 1) := by decide +kernel
theorem d_XAr_putSigned_0 : decode b_XAr_putSigned 0 = .ok (.lload_n 2, 1) := by decide +kernel
theorem d_XAr_putSigned_1 : decode b_XAr_putSigned 1 = .ok (.l2i, 1) := by decide +kernel
theorem d_XAr_putSigned_2 : decode b_XAr_putSigned 2 = .ok (.istore 4, 2) := by decide +kernel
theorem d_XAr_putSigned_4 : decode b_XAr_putSigned 4 = .ok (.aload_n 0, 1) := by decide +kernel
theorem d_XAr_putSigned_5 : decode b_XAr_putSigned 5 = .ok (.getfield 9, 3) := by decide +kernel
theorem d_XAr_putSigned_8 : decode b_XAr_putSigned 8 = .ok (.iload_n 1, 1) := by decide +kernel
theorem d_XAr_putSigned_9 : decode b_XAr_putSigned 9 = .ok (.iload 4, 2) := by decide +kernel
theorem d_XAr_putSigned_11 : decode b_XAr_putSigned 11 = .ok (.invokevirtual 60, 3) := by decide +kernel
theorem d_XAr_putSigned_14 : decode b_XAr_putSigned 14 = .ok (.aload_n 0, 1) := by decide +kernel
theorem d_XAr_putSigned_15 : decode b_XAr_putSigned 15 = .ok (.getfield 9, 3) := by decide +kernel
theorem d_XAr_putSigned_18 : decode b_XAr_putSigned 18 = .ok (.iload 4, 2) := by decide +kernel
theorem d_XAr_putSigned_20 : decode b_XAr_putSigned 20 = .ok (.i2l, 1) := by decide +kernel
theorem d_XAr_putSigned_21 : decode b_XAr_putSigned 21 = .ok (.invokevirtual 98, 3) := by decide +kernel
theorem d_XAr_putSigned_24 : decode b_XAr_putSigned 24 = .ok (.iload 4, 2) := by decide +kernel
theorem d_XAr_putSigned_26 : decode b_XAr_putSigned 26 = .ok (.i2l, 1) := by decide +kernel
theorem d_XAr_putSigned_27 : decode b_XAr_putSigned 27 = .ok (.lload_n 2, 1) := by decide +kernel
theorem d_XAr_putSigned_28 : decode b_XAr_putSigned 28 = .ok (.lcmp, 1) := by decide +kernel
theorem d_XAr_putSigned_29 : decode b_XAr_putSigned 29 = .ok (.ifCond .ne 7, 3) := by decide +kernel
theorem d_XAr_putSigned_32 : decode b_XAr_putSigned 32 = .ok (.iconst 0, 1) := by decide +kernel
theorem d_XAr_putSigned_33 : decode b_XAr_putSigned 33 = .ok (.goto 10, 3) := by decide +kernel
theorem d_XAr_putSigned_36 : decode b_XAr_putSigned 36 = .ok (.aload_n 0, 1) := by decide +kernel
theorem d_XAr_putSigned_37 : decode b_XAr_putSigned 37 = .ok (.getfield 9, 3) := by decide +kernel
theorem d_XAr_putSigned_40 : decode b_XAr_putSigned 40 = .ok (.invokevirtual 106, 3) := by decide +kernel
theorem d_XAr_putSigned_43 : decode b_XAr_putSigned 43 = .ok (.ireturn, 1) := by decide +kernel
theorem d_XSt_conditionByBits_0 : decode b_XSt_conditionByBits 0 = .ok (.aload_n 0, 1) := by decide +kernel
theorem d_XSt_conditionByBits_1 : decode b_XSt_conditionByBits 1 = .ok (.iload_n 1, 1) := by decide +kernel
theorem d_XSt_conditionByBits_2 : decode b_XSt_conditionByBits 2 = .ok (.ifCond .ne 7, 3) := by decide +kernel
theorem d_XSt_conditionByBits_5 : decode b_XSt_conditionByBits 5 = .ok (.iconst 0, 1) := by decide +kernel
theorem d_XSt_conditionByBits_6 : decode b_XSt_conditionByBits 6 = .ok (.goto 4, 3) := by decide +kernel
theorem d_XSt_conditionByBits_9 : decode b_XSt_conditionByBits 9 = .ok (.iconst 1, 1) := by decide +kernel
theorem d_XSt_conditionByBits_10 : decode b_XSt_conditionByBits 10 = .ok (.putfield 26, 3) := by decide +kernel
theorem d_XSt_conditionByBits_13 : decode b_XSt_conditionByBits 13 = .ok (.return_, 1) := by decide +kernel
theorem d_XAr_putBits_0 : decode b_XAr_putBits 0 = .ok (.aload_n 0, 1) := by decide +kernel
theorem d_XAr_putBits_1 : decode b_XAr_putBits 1 = .ok (.getfield 9, 3) := by decide +kernel
theorem d_XAr_putBits_4 : decode b_XAr_putBits 4 = .ok (.iload_n 1, 1) := by decide +kernel
theorem d_XAr_putBits_5 : decode b_XAr_putBits 5 = .ok (.iload_n 2, 1) := by decide +kernel
theorem d_XAr_putBits_6 : decode b_XAr_putBits 6 = .ok (.invokevirtual 60, 3) := by decide +kernel
theorem d_XAr_putBits_9 : decode b_XAr_putBits 9 = .ok (.aload_n 0, 1) := by decide +kernel
theorem d_XAr_putBits_10 : decode b_XAr_putBits 10 = .ok (.getfield 9, 3) := by decide +kernel
theorem d_XAr_putBits_13 : decode b_XAr_putBits 13 = .ok (.iload_n 2, 1) := by decide +kernel
theorem d_XAr_putBits_14 : decode b_XAr_putBits 14 = .ok (.invokevirtual 102, 3) := by decide +kernel
theorem d_XAr_putBits_17 : decode b_XAr_putBits 17 = .ok (.iconst 0, 1) := by decide +kernel
theorem d_XAr_putBits_18 : decode b_XAr_putBits 18 = .ok (.ireturn, 1) := by decide +kernel
theorem d_XAr_compare_0 : decode b_XAr_compare 0 = .ok (.aload_n 0, 1) := by decide +kernel
theorem d_XAr_compare_1 : decode b_XAr_compare 1 = .ok (.getfield 9, 3) := by decide +kernel
theorem d_XAr_compare_4 : decode b_XAr_compare 4 = .ok (.lload_n 1, 1) := by decide +kernel
theorem d_XAr_compare_5 : decode b_XAr_compare 5 = .ok (.lload_n 3, 1) := by decide +kernel
theorem d_XAr_compare_6 : decode b_XAr_compare 6 = .ok (.lsub, 1) := by decide +kernel
theorem d_XAr_compare_7 : decode b_XAr_compare 7 = .ok (.invokevirtual 98, 3) := by decide +kernel
theorem d_XAr_compare_10 : decode b_XAr_compare 10 = .ok (.iconst 0, 1) := by decide +kernel
theorem d_XAr_compare_11 : decode b_XAr_compare 11 = .ok (.ireturn, 1) := by decide +kernel
theorem d_XAr_load_0 : decode b_XAr_load 0 = .ok (.aload_n 0, 1) := by decide +kernel
theorem d_XAr_load_1 : decode b_XAr_load 1 = .ok (.getfield 9, 3) := by decide +kernel
theorem d_XAr_load_4 : decode b_XAr_load 4 = .ok (.iload_n 1, 1) := by decide +kernel
theorem d_XAr_load_5 : decode b_XAr_load 5 = .ok (.iload_n 2, 1) := by decide +kernel
theorem d_XAr_load_6 : decode b_XAr_load 6 = .ok (.invokevirtual 60, 3) := by decide +kernel
theorem d_XAr_load_9 : decode b_XAr_load 9 = .ok (.iconst 0, 1) := by decide +kernel
theorem d_XAr_load_10 : decode b_XAr_load 10 = .ok (.ireturn, 1) := by decide +kernel
theorem d_XAr_multiply_0 : decode b_XAr_multiply 0 = .ok (.aload_n 0, 1) := by decide +kernel
theorem d_XAr_multiply_1 : decode b_XAr_multiply 1 = .ok (.getfield 9, 3) := by decide +kernel
theorem d_XAr_multiply_4 : decode b_XAr_multiply 4 = .ok (.iload_n 1, 1) := by decide +kernel
theorem d_XAr_multiply_5 : decode b_XAr_multiply 5 = .ok (.iconst 1, 1) := by decide +kernel
theorem d_XAr_multiply_6 : decode b_XAr_multiply 6 = .ok (.iadd, 1) := by decide +kernel
theorem d_XAr_multiply_7 : decode b_XAr_multiply 7 = .ok (.invokevirtual 31, 3) := by decide +kernel
theorem d_XAr_multiply_10 : decode b_XAr_multiply 10 = .ok (.i2l, 1) := by decide +kernel
theorem d_XAr_multiply_11 : decode b_XAr_multiply 11 = .ok (.iload_n 2, 1) := by decide +kernel
theorem d_XAr_multiply_12 : decode b_XAr_multiply 12 = .ok (.i2l, 1) := by decide +kernel
theorem d_XAr_multiply_13 : decode b_XAr_multiply 13 = .ok (.lmul, 1) := by decide +kernel
theorem d_XAr_multiply_14 : decode b_XAr_multiply 14 = .ok (.lstore_n 3, 1) := by decide +kernel
theorem d_XAr_multiply_15 : decode b_XAr_multiply 15 = .ok (.aload_n 0, 1) := by decide +kernel
theorem d_XAr_multiply_16 : decode b_XAr_multiply 16 = .ok (.getfield 9, 3) := by decide +kernel
theorem d_XAr_multiply_19 : decode b_XAr_multiply 19 = .ok (.iload_n 1, 1) := by decide +kernel
theorem d_XAr_multiply_20 : decode b_XAr_multiply 20 = .ok (.lload_n 3, 1) := by decide +kernel
theorem d_XAr_multiply_21 : decode b_XAr_multiply 21 = .ok (.bipush 32, 2) := by decide +kernel
theorem d_XAr_multiply_23 : decode b_XAr_multiply 23 = .ok (.lshr, 1) := by decide +kernel
theorem d_XAr_multiply_24 : decode b_XAr_multiply 24 = .ok (.l2i, 1) := by decide +kernel
theorem d_XAr_multiply_25 : decode b_XAr_multiply 25 = .ok (.invokevirtual 60, 3) := by decide +kernel
theorem d_XAr_multiply_28 : decode b_XAr_multiply 28 = .ok (.aload_n 0, 1) := by decide +kernel
theorem d_XAr_multiply_29 : decode b_XAr_multiply 29 = .ok (.getfield 9, 3) := by decide +kernel
theorem d_XAr_multiply_32 : decode b_XAr_multiply 32 = .ok (.iload_n 1, 1) := by decide +kernel
theorem d_XAr_multiply_33 : decode b_XAr_multiply 33 = .ok (.iconst 1, 1) := by decide +kernel
theorem d_XAr_multiply_34 : decode b_XAr_multiply 34 = .ok (.iadd, 1) := by decide +kernel
theorem d_XAr_multiply_35 : decode b_XAr_multiply 35 = .ok (.lload_n 3, 1) := by decide +kernel
theorem d_XAr_multiply_36 : decode b_XAr_multiply 36 = .ok (.l2i, 1) := by decide +kernel
theorem d_XAr_multiply_37 : decode b_XAr_multiply 37 = .ok (.invokevirtual 60, 3) := by decide +kernel
theorem d_XAr_multiply_40 : decode b_XAr_multiply 40 = .ok (.iconst 0, 1) := by decide +kernel
theorem d_XAr_multiply_41 : decode b_XAr_multiply 41 = .ok (.ireturn, 1) := by decide +kernel
theorem d_XAr_divide_0 : decode b_XAr_divide 0 = .ok (.iload_n 2, 1) := by decide +kernel
theorem d_XAr_divide_1 : decode b_XAr_divide 1 = .ok (.ifCond .ne 6, 3) := by decide +kernel
theorem d_XAr_divide_4 : decode b_XAr_divide 4 = .ok (.bipush 9, 2) := by decide +kernel
theorem d_XAr_divide_6 : decode b_XAr_divide 6 = .ok (.ireturn, 1) := by decide +kernel
theorem d_XAr_divide_7 : decode b_XAr_divide 7 = .ok (.aload_n 0, 1) := by decide +kernel
theorem d_XAr_divide_8 : decode b_XAr_divide 8 = .ok (.getfield 9, 3) := by decide +kernel
theorem d_XAr_divide_11 : decode b_XAr_divide 11 = .ok (.iload_n 1, 1) := by decide +kernel
theorem d_XAr_divide_12 : decode b_XAr_divide 12 = .ok (.invokevirtual 31, 3) := by decide +kernel
theorem d_XAr_divide_15 : decode b_XAr_divide 15 = .ok (.i2l, 1) := by decide +kernel
theorem d_XAr_divide_16 : decode b_XAr_divide 16 = .ok (.bipush 32, 2) := by decide +kernel
theorem d_XAr_divide_18 : decode b_XAr_divide 18 = .ok (.lshl, 1) := by decide +kernel
theorem d_XAr_divide_19 : decode b_XAr_divide 19 = .ok (.aload_n 0, 1) := by decide +kernel
theorem d_XAr_divide_20 : decode b_XAr_divide 20 = .ok (.getfield 9, 3) := by decide +kernel
theorem d_XAr_divide_23 : decode b_XAr_divide 23 = .ok (.iload_n 1, 1) := by decide +kernel
theorem d_XAr_divide_24 : decode b_XAr_divide 24 = .ok (.iconst 1, 1) := by decide +kernel
theorem d_XAr_divide_25 : decode b_XAr_divide 25 = .ok (.iadd, 1) := by decide +kernel
theorem d_XAr_divide_26 : decode b_XAr_divide 26 = .ok (.invokevirtual 31, 3) := by decide +kernel
theorem d_XAr_divide_29 : decode b_XAr_divide 29 = .ok (.i2l, 1) := by decide +kernel
theorem d_XAr_divide_30 : decode b_XAr_divide 30 = .ok (.ldc2_w 64, 3) := by decide +kernel
theorem d_XAr_divide_33 : decode b_XAr_divide 33 = .ok (.land, 1) := by decide +kernel
theorem d_XAr_divide_34 : decode b_XAr_divide 34 = .ok (.lor, 1) := by decide +kernel
theorem d_XAr_divide_35 : decode b_XAr_divide 35 = .ok (.lstore_n 3, 1) := by decide +kernel
theorem d_XAr_divide_36 : decode b_XAr_divide 36 = .ok (.lload_n 3, 1) := by decide +kernel
theorem d_XAr_divide_37 : decode b_XAr_divide 37 = .ok (.iload_n 2, 1) := by decide +kernel
theorem d_XAr_divide_38 : decode b_XAr_divide 38 = .ok (.i2l, 1) := by decide +kernel
theorem d_XAr_divide_39 : decode b_XAr_divide 39 = .ok (.ldiv, 1) := by decide +kernel
theorem d_XAr_divide_40 : decode b_XAr_divide 40 = .ok (.lstore 5, 2) := by decide +kernel
theorem d_XAr_divide_42 : decode b_XAr_divide 42 = .ok (.lload 5, 2) := by decide +kernel
theorem d_XAr_divide_44 : decode b_XAr_divide 44 = .ok (.lload 5, 2) := by decide +kernel
theorem d_XAr_divide_46 : decode b_XAr_divide 46 = .ok (.l2i, 1) := by decide +kernel
theorem d_XAr_divide_47 : decode b_XAr_divide 47 = .ok (.i2l, 1) := by decide +kernel
theorem d_XAr_divide_48 : decode b_XAr_divide 48 = .ok (.lcmp, 1) := by decide +kernel
theorem d_XAr_divide_49 : decode b_XAr_divide 49 = .ok (.ifCond .eq 6, 3) := by decide +kernel
theorem d_XAr_divide_52 : decode b_XAr_divide 52 = .ok (.bipush 9, 2) := by decide +kernel
theorem d_XAr_divide_54 : decode b_XAr_divide 54 = .ok (.ireturn, 1) := by decide +kernel
theorem d_XAr_divide_55 : decode b_XAr_divide 55 = .ok (.aload_n 0, 1) := by decide +kernel
theorem d_XAr_divide_56 : decode b_XAr_divide 56 = .ok (.getfield 9, 3) := by decide +kernel
theorem d_XAr_divide_59 : decode b_XAr_divide 59 = .ok (.iload_n 1, 1) := by decide +kernel
theorem d_XAr_divide_60 : decode b_XAr_divide 60 = .ok (.lload_n 3, 1) := by decide +kernel
theorem d_XAr_divide_61 : decode b_XAr_divide 61 = .ok (.iload_n 2, 1) := by decide +kernel
theorem d_XAr_divide_62 : decode b_XAr_divide 62 = .ok (.i2l, 1) := by decide +kernel
theorem d_XAr_divide_63 : decode b_XAr_divide 63 = .ok (.lrem, 1) := by decide +kernel
theorem d_XAr_divide_64 : decode b_XAr_divide 64 = .ok (.l2i, 1) := by decide +kernel
theorem d_XAr_divide_65 : decode b_XAr_divide 65 = .ok (.invokevirtual 60, 3) := by decide +kernel
theorem d_XAr_divide_68 : decode b_XAr_divide 68 = .ok (.aload_n 0, 1) := by decide +kernel
theorem d_XAr_divide_69 : decode b_XAr_divide 69 = .ok (.getfield 9, 3) := by decide +kernel
theorem d_XAr_divide_72 : decode b_XAr_divide 72 = .ok (.iload_n 1, 1) := by decide +kernel
theorem d_XAr_divide_73 : decode b_XAr_divide 73 = .ok (.iconst 1, 1) := by decide +kernel
theorem d_XAr_divide_74 : decode b_XAr_divide 74 = .ok (.iadd, 1) := by decide +kernel
theorem d_XAr_divide_75 : decode b_XAr_divide 75 = .ok (.lload 5, 2) := by decide +kernel
theorem d_XAr_divide_77 : decode b_XAr_divide 77 = .ok (.l2i, 1) := by decide +kernel
theorem d_XAr_divide_78 : decode b_XAr_divide 78 = .ok (.invokevirtual 60, 3) := by decide +kernel
theorem d_XAr_divide_81 : decode b_XAr_divide 81 = .ok (.iconst 0, 1) := by decide +kernel
theorem d_XAr_divide_82 : decode b_XAr_divide 82 = .ok (.ireturn, 1) := by decide +kernel
theorem d_XAr_putUnsigned_0 : decode b_XAr_putUnsigned 0 = .ok (.lload_n 2, 1) := by decide +kernel
theorem d_XAr_putUnsigned_1 : decode b_XAr_putUnsigned 1 = .ok (.l2i, 1) := by decide +kernel
theorem d_XAr_putUnsigned_2 : decode b_XAr_putUnsigned 2 = .ok (.istore 4, 2) := by decide +kernel
theorem d_XAr_putUnsigned_4 : decode b_XAr_putUnsigned 4 = .ok (.aload_n 0, 1) := by decide +kernel
theorem d_XAr_putUnsigned_5 : decode b_XAr_putUnsigned 5 = .ok (.getfield 9, 3) := by decide +kernel
theorem d_XAr_putUnsigned_8 : decode b_XAr_putUnsigned 8 = .ok (.iload_n 1, 1) := by decide +kernel
theorem d_XAr_putUnsigned_9 : decode b_XAr_putUnsigned 9 = .ok (.iload 4, 2) := by decide +kernel
theorem d_XAr_putUnsigned_11 : decode b_XAr_putUnsigned 11 = .ok (.invokevirtual 60, 3) := by decide +kernel
theorem d_XAr_putUnsigned_14 : decode b_XAr_putUnsigned 14 = .ok (.aload_n 0, 1) := by decide +kernel
theorem d_XAr_putUnsigned_15 : decode b_XAr_putUnsigned 15 = .ok (.getfield 9, 3) := by decide +kernel
theorem d_XAr_putUnsigned_18 : decode b_XAr_putUnsigned 18 = .ok (.lload_n 2, 1) := by decide +kernel
theorem d_XAr_putUnsigned_19 : decode b_XAr_putUnsigned 19 = .ok (.ldc2_w 64, 3) := by decide +kernel
theorem d_XAr_putUnsigned_22 : decode b_XAr_putUnsigned 22 = .ok (.lcmp, 1) := by decide +kernel
theorem d_XAr_putUnsigned_23 : decode b_XAr_putUnsigned 23 = .ok (.ifCond .le 7, 3) := by decide +kernel
theorem d_XAr_putUnsigned_26 : decode b_XAr_putUnsigned 26 = .ok (.iconst 2, 1) := by decide +kernel
theorem d_XAr_putUnsigned_27 : decode b_XAr_putUnsigned 27 = .ok (.goto 4, 3) := by decide +kernel
theorem d_XAr_putUnsigned_30 : decode b_XAr_putUnsigned 30 = .ok (.iconst 0, 1) := by decide +kernel
theorem d_XAr_putUnsigned_31 : decode b_XAr_putUnsigned 31 = .ok (.iload 4, 2) := by decide +kernel
theorem d_XAr_putUnsigned_33 : decode b_XAr_putUnsigned 33 = .ok (.ifCond .eq 7, 3) := by decide +kernel
theorem d_XAr_putUnsigned_36 : decode b_XAr_putUnsigned 36 = .ok (.iconst 1, 1) := by decide +kernel
theorem d_XAr_putUnsigned_37 : decode b_XAr_putUnsigned 37 = .ok (.goto 4, 3) := by decide +kernel
theorem d_XAr_putUnsigned_40 : decode b_XAr_putUnsigned 40 = .ok (.iconst 0, 1) := by decide +kernel
theorem d_XAr_putUnsigned_41 : decode b_XAr_putUnsigned 41 = .ok (.iadd, 1) := by decide +kernel
theorem d_XAr_putUnsigned_42 : decode b_XAr_putUnsigned 42 = .ok (.putfield 110, 3) := by decide +kernel
theorem d_XAr_putUnsigned_45 : decode b_XAr_putUnsigned 45 = .ok (.iconst 0, 1) := by decide +kernel
theorem d_XAr_putUnsigned_46 : decode b_XAr_putUnsigned 46 = .ok (.ireturn, 1) := by decide +kernel
theorem d_XAr_apply_0 : decode b_XAr_apply 0 = .ok (.aload_n 0, 1) := by decide +kernel
theorem d_XAr_apply_1 : decode b_XAr_apply 1 = .ok (.getfield 9, 3) := by decide +kernel
theorem d_XAr_apply_4 : decode b_XAr_apply 4 = .ok (.iload_n 2, 1) := by decide +kernel
theorem d_XAr_apply_5 : decode b_XAr_apply 5 = .ok (.invokevirtual 31, 3) := by decide +kernel
theorem d_XAr_apply_8 : decode b_XAr_apply 8 = .ok (.istore 4, 2) := by decide +kernel
theorem d_XAr_apply_10 : decode b_XAr_apply 10 = .ok (.iload_n 1, 1) := by decide +kernel
theorem d_XAr_apply_11 : decode b_XAr_apply 11 = .ok (.tableswitch 264 16 31 #[77, 88, 100, 108, 117, 127, 145, 155, 165, 172, 182, 194, 206, 213, 220, 240], 77) := by decide +kernel
theorem d_XAr_apply_88 : decode b_XAr_apply 88 = .ok (.aload_n 0, 1) := by decide +kernel
theorem d_XAr_apply_89 : decode b_XAr_apply 89 = .ok (.iload_n 2, 1) := by decide +kernel
theorem d_XAr_apply_90 : decode b_XAr_apply 90 = .ok (.iload_n 3, 1) := by decide +kernel
theorem d_XAr_apply_91 : decode b_XAr_apply 91 = .ok (.i2l, 1) := by decide +kernel
theorem d_XAr_apply_92 : decode b_XAr_apply 92 = .ok (.invokestatic 76, 3) := by decide +kernel
theorem d_XAr_apply_95 : decode b_XAr_apply 95 = .ok (.invokevirtual 69, 3) := by decide +kernel
theorem d_XAr_apply_98 : decode b_XAr_apply 98 = .ok (.ireturn, 1) := by decide +kernel
theorem d_XAr_apply_99 : decode b_XAr_apply 99 = .ok (.aload_n 0, 1) := by decide +kernel
theorem d_XAr_apply_100 : decode b_XAr_apply 100 = .ok (.iload_n 2, 1) := by decide +kernel
theorem d_XAr_apply_101 : decode b_XAr_apply 101 = .ok (.iload_n 3, 1) := by decide +kernel
theorem d_XAr_apply_102 : decode b_XAr_apply 102 = .ok (.i2l, 1) := by decide +kernel
theorem d_XAr_apply_103 : decode b_XAr_apply 103 = .ok (.invokestatic 76, 3) := by decide +kernel
theorem d_XAr_apply_106 : decode b_XAr_apply 106 = .ok (.lneg, 1) := by decide +kernel
theorem d_XAr_apply_107 : decode b_XAr_apply 107 = .ok (.invokevirtual 69, 3) := by decide +kernel
theorem d_XAr_apply_110 : decode b_XAr_apply 110 = .ok (.ireturn, 1) := by decide +kernel
theorem d_XAr_apply_111 : decode b_XAr_apply 111 = .ok (.aload_n 0, 1) := by decide +kernel
theorem d_XAr_apply_112 : decode b_XAr_apply 112 = .ok (.iload_n 2, 1) := by decide +kernel
theorem d_XAr_apply_113 : decode b_XAr_apply 113 = .ok (.iload_n 3, 1) := by decide +kernel
theorem d_XAr_apply_114 : decode b_XAr_apply 114 = .ok (.i2l, 1) := by decide +kernel
theorem d_XAr_apply_115 : decode b_XAr_apply 115 = .ok (.invokevirtual 69, 3) := by decide +kernel
theorem d_XAr_apply_118 : decode b_XAr_apply 118 = .ok (.ireturn, 1) := by decide +kernel
theorem d_XAr_apply_119 : decode b_XAr_apply 119 = .ok (.aload_n 0, 1) := by decide +kernel
theorem d_XAr_apply_120 : decode b_XAr_apply 120 = .ok (.iload_n 2, 1) := by decide +kernel
theorem d_XAr_apply_121 : decode b_XAr_apply 121 = .ok (.iload_n 3, 1) := by decide +kernel
theorem d_XAr_apply_122 : decode b_XAr_apply 122 = .ok (.i2l, 1) := by decide +kernel
theorem d_XAr_apply_123 : decode b_XAr_apply 123 = .ok (.lneg, 1) := by decide +kernel
theorem d_XAr_apply_124 : decode b_XAr_apply 124 = .ok (.invokevirtual 69, 3) := by decide +kernel
theorem d_XAr_apply_127 : decode b_XAr_apply 127 = .ok (.ireturn, 1) := by decide +kernel
theorem d_XAr_apply_128 : decode b_XAr_apply 128 = .ok (.aload_n 0, 1) := by decide +kernel
theorem d_XAr_apply_129 : decode b_XAr_apply 129 = .ok (.iload_n 2, 1) := by decide +kernel
theorem d_XAr_apply_130 : decode b_XAr_apply 130 = .ok (.iload 4, 2) := by decide +kernel
theorem d_XAr_apply_132 : decode b_XAr_apply 132 = .ok (.iload_n 3, 1) := by decide +kernel
theorem d_XAr_apply_133 : decode b_XAr_apply 133 = .ok (.iand, 1) := by decide +kernel
theorem d_XAr_apply_134 : decode b_XAr_apply 134 = .ok (.invokevirtual 82, 3) := by decide +kernel
theorem d_XAr_apply_137 : decode b_XAr_apply 137 = .ok (.ireturn, 1) := by decide +kernel
theorem d_XAr_apply_138 : decode b_XAr_apply 138 = .ok (.aload_n 0, 1) := by decide +kernel
theorem d_XAr_apply_139 : decode b_XAr_apply 139 = .ok (.iload 4, 2) := by decide +kernel
theorem d_XAr_apply_141 : decode b_XAr_apply 141 = .ok (.i2l, 1) := by decide +kernel
theorem d_XAr_apply_142 : decode b_XAr_apply 142 = .ok (.ldc2_w 64, 3) := by decide +kernel
theorem d_XAr_apply_145 : decode b_XAr_apply 145 = .ok (.land, 1) := by decide +kernel
theorem d_XAr_apply_146 : decode b_XAr_apply 146 = .ok (.iload_n 3, 1) := by decide +kernel
theorem d_XAr_apply_147 : decode b_XAr_apply 147 = .ok (.i2l, 1) := by decide +kernel
theorem d_XAr_apply_148 : decode b_XAr_apply 148 = .ok (.ldc2_w 64, 3) := by decide +kernel
theorem d_XAr_apply_151 : decode b_XAr_apply 151 = .ok (.land, 1) := by decide +kernel
theorem d_XAr_apply_152 : decode b_XAr_apply 152 = .ok (.invokevirtual 85, 3) := by decide +kernel
theorem d_XAr_apply_155 : decode b_XAr_apply 155 = .ok (.ireturn, 1) := by decide +kernel
theorem d_XAr_apply_156 : decode b_XAr_apply 156 = .ok (.aload_n 0, 1) := by decide +kernel
theorem d_XAr_apply_157 : decode b_XAr_apply 157 = .ok (.iload_n 2, 1) := by decide +kernel
theorem d_XAr_apply_158 : decode b_XAr_apply 158 = .ok (.iload 4, 2) := by decide +kernel
theorem d_XAr_apply_160 : decode b_XAr_apply 160 = .ok (.iload_n 3, 1) := by decide +kernel
theorem d_XAr_apply_161 : decode b_XAr_apply 161 = .ok (.ior, 1) := by decide +kernel
theorem d_XAr_apply_162 : decode b_XAr_apply 162 = .ok (.invokevirtual 82, 3) := by decide +kernel
theorem d_XAr_apply_165 : decode b_XAr_apply 165 = .ok (.ireturn, 1) := by decide +kernel
theorem d_XAr_apply_166 : decode b_XAr_apply 166 = .ok (.aload_n 0, 1) := by decide +kernel
theorem d_XAr_apply_167 : decode b_XAr_apply 167 = .ok (.iload_n 2, 1) := by decide +kernel
theorem d_XAr_apply_168 : decode b_XAr_apply 168 = .ok (.iload 4, 2) := by decide +kernel
theorem d_XAr_apply_170 : decode b_XAr_apply 170 = .ok (.iload_n 3, 1) := by decide +kernel
theorem d_XAr_apply_171 : decode b_XAr_apply 171 = .ok (.ixor, 1) := by decide +kernel
theorem d_XAr_apply_172 : decode b_XAr_apply 172 = .ok (.invokevirtual 82, 3) := by decide +kernel
theorem d_XAr_apply_175 : decode b_XAr_apply 175 = .ok (.ireturn, 1) := by decide +kernel
theorem d_XAr_apply_176 : decode b_XAr_apply 176 = .ok (.aload_n 0, 1) := by decide +kernel
theorem d_XAr_apply_177 : decode b_XAr_apply 177 = .ok (.iload_n 2, 1) := by decide +kernel
theorem d_XAr_apply_178 : decode b_XAr_apply 178 = .ok (.iload_n 3, 1) := by decide +kernel
theorem d_XAr_apply_179 : decode b_XAr_apply 179 = .ok (.invokevirtual 66, 3) := by decide +kernel
theorem d_XAr_apply_182 : decode b_XAr_apply 182 = .ok (.ireturn, 1) := by decide +kernel
theorem d_XAr_apply_183 : decode b_XAr_apply 183 = .ok (.aload_n 0, 1) := by decide +kernel
theorem d_XAr_apply_184 : decode b_XAr_apply 184 = .ok (.iload 4, 2) := by decide +kernel
theorem d_XAr_apply_186 : decode b_XAr_apply 186 = .ok (.i2l, 1) := by decide +kernel
theorem d_XAr_apply_187 : decode b_XAr_apply 187 = .ok (.iload_n 3, 1) := by decide +kernel
theorem d_XAr_apply_188 : decode b_XAr_apply 188 = .ok (.i2l, 1) := by decide +kernel
theorem d_XAr_apply_189 : decode b_XAr_apply 189 = .ok (.invokevirtual 85, 3) := by decide +kernel
theorem d_XAr_apply_192 : decode b_XAr_apply 192 = .ok (.ireturn, 1) := by decide +kernel
theorem d_XAr_apply_193 : decode b_XAr_apply 193 = .ok (.aload_n 0, 1) := by decide +kernel
theorem d_XAr_apply_194 : decode b_XAr_apply 194 = .ok (.iload_n 2, 1) := by decide +kernel
theorem d_XAr_apply_195 : decode b_XAr_apply 195 = .ok (.iload 4, 2) := by decide +kernel
theorem d_XAr_apply_197 : decode b_XAr_apply 197 = .ok (.i2l, 1) := by decide +kernel
theorem d_XAr_apply_198 : decode b_XAr_apply 198 = .ok (.iload_n 3, 1) := by decide +kernel
theorem d_XAr_apply_199 : decode b_XAr_apply 199 = .ok (.i2l, 1) := by decide +kernel
theorem d_XAr_apply_200 : decode b_XAr_apply 200 = .ok (.ladd, 1) := by decide +kernel
theorem d_XAr_apply_201 : decode b_XAr_apply 201 = .ok (.invokevirtual 69, 3) := by decide +kernel
theorem d_XAr_apply_204 : decode b_XAr_apply 204 = .ok (.ireturn, 1) := by decide +kernel
theorem d_XAr_apply_205 : decode b_XAr_apply 205 = .ok (.aload_n 0, 1) := by decide +kernel
theorem d_XAr_apply_206 : decode b_XAr_apply 206 = .ok (.iload_n 2, 1) := by decide +kernel
theorem d_XAr_apply_207 : decode b_XAr_apply 207 = .ok (.iload 4, 2) := by decide +kernel
theorem d_XAr_apply_209 : decode b_XAr_apply 209 = .ok (.i2l, 1) := by decide +kernel
theorem d_XAr_apply_210 : decode b_XAr_apply 210 = .ok (.iload_n 3, 1) := by decide +kernel
theorem d_XAr_apply_211 : decode b_XAr_apply 211 = .ok (.i2l, 1) := by decide +kernel
theorem d_XAr_apply_212 : decode b_XAr_apply 212 = .ok (.lsub, 1) := by decide +kernel
theorem d_XAr_apply_213 : decode b_XAr_apply 213 = .ok (.invokevirtual 69, 3) := by decide +kernel
theorem d_XAr_apply_216 : decode b_XAr_apply 216 = .ok (.ireturn, 1) := by decide +kernel
theorem d_XAr_apply_217 : decode b_XAr_apply 217 = .ok (.aload_n 0, 1) := by decide +kernel
theorem d_XAr_apply_218 : decode b_XAr_apply 218 = .ok (.iload_n 2, 1) := by decide +kernel
theorem d_XAr_apply_219 : decode b_XAr_apply 219 = .ok (.iload_n 3, 1) := by decide +kernel
theorem d_XAr_apply_220 : decode b_XAr_apply 220 = .ok (.invokevirtual 89, 3) := by decide +kernel
theorem d_XAr_apply_223 : decode b_XAr_apply 223 = .ok (.ireturn, 1) := by decide +kernel
theorem d_XAr_apply_224 : decode b_XAr_apply 224 = .ok (.aload_n 0, 1) := by decide +kernel
theorem d_XAr_apply_225 : decode b_XAr_apply 225 = .ok (.iload_n 2, 1) := by decide +kernel
theorem d_XAr_apply_226 : decode b_XAr_apply 226 = .ok (.iload_n 3, 1) := by decide +kernel
theorem d_XAr_apply_227 : decode b_XAr_apply 227 = .ok (.invokevirtual 92, 3) := by decide +kernel
theorem d_XAr_apply_230 : decode b_XAr_apply 230 = .ok (.ireturn, 1) := by decide +kernel
theorem d_XAr_apply_231 : decode b_XAr_apply 231 = .ok (.aload_n 0, 1) := by decide +kernel
theorem d_XAr_apply_232 : decode b_XAr_apply 232 = .ok (.iload_n 2, 1) := by decide +kernel
theorem d_XAr_apply_233 : decode b_XAr_apply 233 = .ok (.iload 4, 2) := by decide +kernel
theorem d_XAr_apply_235 : decode b_XAr_apply 235 = .ok (.i2l, 1) := by decide +kernel
theorem d_XAr_apply_236 : decode b_XAr_apply 236 = .ok (.ldc2_w 64, 3) := by decide +kernel
theorem d_XAr_apply_239 : decode b_XAr_apply 239 = .ok (.land, 1) := by decide +kernel
theorem d_XAr_apply_240 : decode b_XAr_apply 240 = .ok (.iload_n 3, 1) := by decide +kernel
theorem d_XAr_apply_241 : decode b_XAr_apply 241 = .ok (.i2l, 1) := by decide +kernel
theorem d_XAr_apply_242 : decode b_XAr_apply 242 = .ok (.ldc2_w 64, 3) := by decide +kernel
theorem d_XAr_apply_245 : decode b_XAr_apply 245 = .ok (.land, 1) := by decide +kernel
theorem d_XAr_apply_246 : decode b_XAr_apply 246 = .ok (.ladd, 1) := by decide +kernel
theorem d_XAr_apply_247 : decode b_XAr_apply 247 = .ok (.invokevirtual 95, 3) := by decide +kernel
theorem d_XAr_apply_250 : decode b_XAr_apply 250 = .ok (.ireturn, 1) := by decide +kernel
theorem d_XAr_apply_251 : decode b_XAr_apply 251 = .ok (.aload_n 0, 1) := by decide +kernel
theorem d_XAr_apply_252 : decode b_XAr_apply 252 = .ok (.iload_n 2, 1) := by decide +kernel
theorem d_XAr_apply_253 : decode b_XAr_apply 253 = .ok (.iload 4, 2) := by decide +kernel
theorem d_XAr_apply_255 : decode b_XAr_apply 255 = .ok (.i2l, 1) := by decide +kernel
theorem d_XAr_apply_256 : decode b_XAr_apply 256 = .ok (.ldc2_w 64, 3) := by decide +kernel
theorem d_XAr_apply_259 : decode b_XAr_apply 259 = .ok (.land, 1) := by decide +kernel
theorem d_XAr_apply_260 : decode b_XAr_apply 260 = .ok (.iload_n 3, 1) := by decide +kernel
theorem d_XAr_apply_261 : decode b_XAr_apply 261 = .ok (.iconst (-1), 1) := by decide +kernel
theorem d_XAr_apply_262 : decode b_XAr_apply 262 = .ok (.ixor, 1) := by decide +kernel
theorem d_XAr_apply_263 : decode b_XAr_apply 263 = .ok (.i2l, 1) := by decide +kernel
theorem d_XAr_apply_264 : decode b_XAr_apply 264 = .ok (.ldc2_w 64, 3) := by decide +kernel
theorem d_XAr_apply_267 : decode b_XAr_apply 267 = .ok (.land, 1) := by decide +kernel
theorem d_XAr_apply_268 : decode b_XAr_apply 268 = .ok (.ladd, 1) := by decide +kernel
theorem d_XAr_apply_269 : decode b_XAr_apply 269 = .ok (.lconst 1, 1) := by decide +kernel
theorem d_XAr_apply_270 : decode b_XAr_apply 270 = .ok (.ladd, 1) := by decide +kernel
theorem d_XAr_apply_271 : decode b_XAr_apply 271 = .ok (.invokevirtual 95, 3) := by decide +kernel
theorem d_XAr_apply_274 : decode b_XAr_apply 274 = .ok (.ireturn, 1) := by decide +kernel
theorem d_XAr_apply_275 : decode b_XAr_apply 275 = .ok (.iconst 1, 1) := by decide +kernel
theorem d_XAr_apply_276 : decode b_XAr_apply 276 = .ok (.ireturn, 1) := by decide +kernel
theorem d_XAr_withRegister_0 : decode b_XAr_withRegister 0 = .ok (.aload_n 1, 1) := by decide +kernel
theorem d_XAr_withRegister_1 : decode b_XAr_withRegister 1 = .ok (.getfield 15, 3) := by decide +kernel
theorem d_XAr_withRegister_4 : decode b_XAr_withRegister 4 = .ok (.aload_n 1, 1) := by decide +kernel
theorem d_XAr_withRegister_5 : decode b_XAr_withRegister 5 = .ok (.getfield 21, 3) := by decide +kernel
theorem d_XAr_withRegister_8 : decode b_XAr_withRegister 8 = .ok (.invokestatic 24, 3) := by decide +kernel
theorem d_XAr_withRegister_11 : decode b_XAr_withRegister 11 = .ok (.ifCond .eq 6, 3) := by decide +kernel
theorem d_XAr_withRegister_14 : decode b_XAr_withRegister 14 = .ok (.bipush 6, 2) := by decide +kernel
theorem d_XAr_withRegister_16 : decode b_XAr_withRegister 16 = .ok (.ireturn, 1) := by decide +kernel
theorem d_XAr_withRegister_17 : decode b_XAr_withRegister 17 = .ok (.aload_n 0, 1) := by decide +kernel
theorem d_XAr_withRegister_18 : decode b_XAr_withRegister 18 = .ok (.aload_n 1, 1) := by decide +kernel
theorem d_XAr_withRegister_19 : decode b_XAr_withRegister 19 = .ok (.getfield 15, 3) := by decide +kernel
theorem d_XAr_withRegister_22 : decode b_XAr_withRegister 22 = .ok (.aload_n 1, 1) := by decide +kernel
theorem d_XAr_withRegister_23 : decode b_XAr_withRegister 23 = .ok (.getfield 21, 3) := by decide +kernel
theorem d_XAr_withRegister_26 : decode b_XAr_withRegister 26 = .ok (.aload_n 0, 1) := by decide +kernel
theorem d_XAr_withRegister_27 : decode b_XAr_withRegister 27 = .ok (.getfield 9, 3) := by decide +kernel
theorem d_XAr_withRegister_30 : decode b_XAr_withRegister 30 = .ok (.aload_n 1, 1) := by decide +kernel
theorem d_XAr_withRegister_31 : decode b_XAr_withRegister 31 = .ok (.getfield 28, 3) := by decide +kernel
theorem d_XAr_withRegister_34 : decode b_XAr_withRegister 34 = .ok (.invokevirtual 31, 3) := by decide +kernel
theorem d_XAr_withRegister_37 : decode b_XAr_withRegister 37 = .ok (.invokevirtual 37, 3) := by decide +kernel
theorem d_XAr_withRegister_40 : decode b_XAr_withRegister 40 = .ok (.ireturn, 1) := by decide +kernel
theorem d_XMe_holds_0 : decode b_XMe_holds 0 = .ok (.iload_n 1, 1) := by decide +kernel
theorem d_XMe_holds_1 : decode b_XMe_holds 1 = .ok (.ifCond .lt 23, 3) := by decide +kernel
theorem d_XMe_holds_4 : decode b_XMe_holds 4 = .ok (.iload_n 2, 1) := by decide +kernel
theorem d_XMe_holds_5 : decode b_XMe_holds 5 = .ok (.sipush 1024, 3) := by decide +kernel
theorem d_XMe_holds_8 : decode b_XMe_holds 8 = .ok (.if_icmp .gt 16, 3) := by decide +kernel
theorem d_XMe_holds_11 : decode b_XMe_holds 11 = .ok (.iload_n 1, 1) := by decide +kernel
theorem d_XMe_holds_12 : decode b_XMe_holds 12 = .ok (.sipush 1024, 3) := by decide +kernel
theorem d_XMe_holds_15 : decode b_XMe_holds 15 = .ok (.iload_n 2, 1) := by decide +kernel
theorem d_XMe_holds_16 : decode b_XMe_holds 16 = .ok (.isub, 1) := by decide +kernel
theorem d_XMe_holds_17 : decode b_XMe_holds 17 = .ok (.if_icmp .gt 7, 3) := by decide +kernel
theorem d_XMe_holds_20 : decode b_XMe_holds 20 = .ok (.iconst 1, 1) := by decide +kernel
theorem d_XMe_holds_21 : decode b_XMe_holds 21 = .ok (.goto 4, 3) := by decide +kernel
theorem d_XMe_holds_24 : decode b_XMe_holds 24 = .ok (.iconst 0, 1) := by decide +kernel
theorem d_XMe_holds_25 : decode b_XMe_holds 25 = .ok (.ireturn, 1) := by decide +kernel
theorem d_XMe_faultOf_0 : decode b_XMe_faultOf 0 = .ok (.iload_n 1, 1) := by decide +kernel
theorem d_XMe_faultOf_1 : decode b_XMe_faultOf 1 = .ok (.iload_n 2, 1) := by decide +kernel
theorem d_XMe_faultOf_2 : decode b_XMe_faultOf 2 = .ok (.iconst 1, 1) := by decide +kernel
theorem d_XMe_faultOf_3 : decode b_XMe_faultOf 3 = .ok (.isub, 1) := by decide +kernel
theorem d_XMe_faultOf_4 : decode b_XMe_faultOf 4 = .ok (.iand, 1) := by decide +kernel
theorem d_XMe_faultOf_5 : decode b_XMe_faultOf 5 = .ok (.ifCond .eq 6, 3) := by decide +kernel
theorem d_XMe_faultOf_8 : decode b_XMe_faultOf 8 = .ok (.bipush 6, 2) := by decide +kernel
theorem d_XMe_faultOf_10 : decode b_XMe_faultOf 10 = .ok (.ireturn, 1) := by decide +kernel
theorem d_XMe_faultOf_11 : decode b_XMe_faultOf 11 = .ok (.aload_n 0, 1) := by decide +kernel
theorem d_XMe_faultOf_12 : decode b_XMe_faultOf 12 = .ok (.iload_n 1, 1) := by decide +kernel
theorem d_XMe_faultOf_13 : decode b_XMe_faultOf 13 = .ok (.iload_n 2, 1) := by decide +kernel
theorem d_XMe_faultOf_14 : decode b_XMe_faultOf 14 = .ok (.invokevirtual 15, 3) := by decide +kernel
theorem d_XMe_faultOf_17 : decode b_XMe_faultOf 17 = .ok (.ifCond .eq 7, 3) := by decide +kernel
theorem d_XMe_faultOf_20 : decode b_XMe_faultOf 20 = .ok (.iconst 0, 1) := by decide +kernel
theorem d_XMe_faultOf_21 : decode b_XMe_faultOf 21 = .ok (.goto 4, 3) := by decide +kernel
theorem d_XMe_faultOf_24 : decode b_XMe_faultOf 24 = .ok (.iconst 5, 1) := by decide +kernel
theorem d_XMe_faultOf_25 : decode b_XMe_faultOf 25 = .ok (.ireturn, 1) := by decide +kernel
theorem d_XMe_get_0 : decode b_XMe_get 0 = .ok (.iload_n 1, 1) := by decide +kernel
theorem d_XMe_get_1 : decode b_XMe_get 1 = .ok (.ifCond .lt 19, 3) := by decide +kernel
theorem d_XMe_get_4 : decode b_XMe_get 4 = .ok (.iload_n 1, 1) := by decide +kernel
theorem d_XMe_get_5 : decode b_XMe_get 5 = .ok (.sipush 1024, 3) := by decide +kernel
theorem d_XMe_get_8 : decode b_XMe_get 8 = .ok (.if_icmp .ge 12, 3) := by decide +kernel
theorem d_XMe_get_11 : decode b_XMe_get 11 = .ok (.aload_n 0, 1) := by decide +kernel
theorem d_XMe_get_12 : decode b_XMe_get 12 = .ok (.getfield 11, 3) := by decide +kernel
theorem d_XMe_get_15 : decode b_XMe_get 15 = .ok (.iload_n 1, 1) := by decide +kernel
theorem d_XMe_get_16 : decode b_XMe_get 16 = .ok (.iaload, 1) := by decide +kernel
theorem d_XMe_get_17 : decode b_XMe_get 17 = .ok (.goto 4, 3) := by decide +kernel
theorem d_XMe_get_20 : decode b_XMe_get 20 = .ok (.iconst 0, 1) := by decide +kernel
theorem d_XMe_get_21 : decode b_XMe_get 21 = .ok (.ireturn, 1) := by decide +kernel
theorem d_XMe_word_0 : decode b_XMe_word 0 = .ok (.aload_n 0, 1) := by decide +kernel
theorem d_XMe_word_1 : decode b_XMe_word 1 = .ok (.iload_n 1, 1) := by decide +kernel
theorem d_XMe_word_2 : decode b_XMe_word 2 = .ok (.invokevirtual 19, 3) := by decide +kernel
theorem d_XMe_word_5 : decode b_XMe_word 5 = .ok (.bipush 24, 2) := by decide +kernel
theorem d_XMe_word_7 : decode b_XMe_word 7 = .ok (.ishl, 1) := by decide +kernel
theorem d_XMe_word_8 : decode b_XMe_word 8 = .ok (.aload_n 0, 1) := by decide +kernel
theorem d_XMe_word_9 : decode b_XMe_word 9 = .ok (.iload_n 1, 1) := by decide +kernel
theorem d_XMe_word_10 : decode b_XMe_word 10 = .ok (.iconst 1, 1) := by decide +kernel
theorem d_XMe_word_11 : decode b_XMe_word 11 = .ok (.iadd, 1) := by decide +kernel
theorem d_XMe_word_12 : decode b_XMe_word 12 = .ok (.invokevirtual 19, 3) := by decide +kernel
theorem d_XMe_word_15 : decode b_XMe_word 15 = .ok (.bipush 16, 2) := by decide +kernel
theorem d_XMe_word_17 : decode b_XMe_word 17 = .ok (.ishl, 1) := by decide +kernel
theorem d_XMe_word_18 : decode b_XMe_word 18 = .ok (.ior, 1) := by decide +kernel
theorem d_XMe_word_19 : decode b_XMe_word 19 = .ok (.aload_n 0, 1) := by decide +kernel
theorem d_XMe_word_20 : decode b_XMe_word 20 = .ok (.iload_n 1, 1) := by decide +kernel
theorem d_XMe_word_21 : decode b_XMe_word 21 = .ok (.iconst 2, 1) := by decide +kernel
theorem d_XMe_word_22 : decode b_XMe_word 22 = .ok (.iadd, 1) := by decide +kernel
theorem d_XMe_word_23 : decode b_XMe_word 23 = .ok (.invokevirtual 19, 3) := by decide +kernel
theorem d_XMe_word_26 : decode b_XMe_word 26 = .ok (.bipush 8, 2) := by decide +kernel
theorem d_XMe_word_28 : decode b_XMe_word 28 = .ok (.ishl, 1) := by decide +kernel
theorem d_XMe_word_29 : decode b_XMe_word 29 = .ok (.ior, 1) := by decide +kernel
theorem d_XMe_word_30 : decode b_XMe_word 30 = .ok (.aload_n 0, 1) := by decide +kernel
theorem d_XMe_word_31 : decode b_XMe_word 31 = .ok (.iload_n 1, 1) := by decide +kernel
theorem d_XMe_word_32 : decode b_XMe_word 32 = .ok (.iconst 3, 1) := by decide +kernel
theorem d_XMe_word_33 : decode b_XMe_word 33 = .ok (.iadd, 1) := by decide +kernel
theorem d_XMe_word_34 : decode b_XMe_word 34 = .ok (.invokevirtual 19, 3) := by decide +kernel
theorem d_XMe_word_37 : decode b_XMe_word 37 = .ok (.ior, 1) := by decide +kernel
theorem d_XMe_word_38 : decode b_XMe_word 38 = .ok (.ireturn, 1) := by decide +kernel
theorem d_XAr_withWord_0 : decode b_XAr_withWord 0 = .ok (.aload_n 1, 1) := by decide +kernel
theorem d_XAr_withWord_1 : decode b_XAr_withWord 1 = .ok (.getfield 15, 3) := by decide +kernel
theorem d_XAr_withWord_4 : decode b_XAr_withWord 4 = .ok (.bipush 64, 2) := by decide +kernel
theorem d_XAr_withWord_6 : decode b_XAr_withWord 6 = .ok (.isub, 1) := by decide +kernel
theorem d_XAr_withWord_7 : decode b_XAr_withWord 7 = .ok (.istore_n 2, 1) := by decide +kernel
theorem d_XAr_withWord_8 : decode b_XAr_withWord 8 = .ok (.iload_n 2, 1) := by decide +kernel
theorem d_XAr_withWord_9 : decode b_XAr_withWord 9 = .ok (.aload_n 1, 1) := by decide +kernel
theorem d_XAr_withWord_10 : decode b_XAr_withWord 10 = .ok (.getfield 21, 3) := by decide +kernel
theorem d_XAr_withWord_13 : decode b_XAr_withWord 13 = .ok (.invokestatic 24, 3) := by decide +kernel
theorem d_XAr_withWord_16 : decode b_XAr_withWord 16 = .ok (.ifCond .eq 6, 3) := by decide +kernel
theorem d_XAr_withWord_19 : decode b_XAr_withWord 19 = .ok (.bipush 6, 2) := by decide +kernel
theorem d_XAr_withWord_21 : decode b_XAr_withWord 21 = .ok (.ireturn, 1) := by decide +kernel
theorem d_XAr_withWord_22 : decode b_XAr_withWord 22 = .ok (.aload_n 0, 1) := by decide +kernel
theorem d_XAr_withWord_23 : decode b_XAr_withWord 23 = .ok (.getfield 9, 3) := by decide +kernel
theorem d_XAr_withWord_26 : decode b_XAr_withWord 26 = .ok (.getfield 41, 3) := by decide +kernel
theorem d_XAr_withWord_29 : decode b_XAr_withWord 29 = .ok (.aload_n 1, 1) := by decide +kernel
theorem d_XAr_withWord_30 : decode b_XAr_withWord 30 = .ok (.getfield 45, 3) := by decide +kernel
theorem d_XAr_withWord_33 : decode b_XAr_withWord 33 = .ok (.iconst 4, 1) := by decide +kernel
theorem d_XAr_withWord_34 : decode b_XAr_withWord 34 = .ok (.invokevirtual 48, 3) := by decide +kernel
end
section
theorem d_XAr_withWord_37 : decode b_XAr_withWord 37 = .ok (.istore_n 3, 1) := by decide +kernel
theorem d_XAr_withWord_38 : decode b_XAr_withWord 38 = .ok (.iload_n 3, 1) := by decide +kernel
theorem d_XAr_withWord_39 : decode b_XAr_withWord 39 = .ok (.ifCond .eq 7, 3) := by decide +kernel
theorem d_XAr_withWord_42 : decode b_XAr_withWord 42 = .ok (.iload_n 3, 1) := by decide +kernel
theorem d_XAr_withWord_43 : decode b_XAr_withWord 43 = .ok (.goto 26, 3) := by decide +kernel
theorem d_XAr_withWord_46 : decode b_XAr_withWord 46 = .ok (.aload_n 0, 1) := by decide +kernel
theorem d_XAr_withWord_47 : decode b_XAr_withWord 47 = .ok (.iload_n 2, 1) := by decide +kernel
theorem d_XAr_withWord_48 : decode b_XAr_withWord 48 = .ok (.aload_n 1, 1) := by decide +kernel
theorem d_XAr_withWord_49 : decode b_XAr_withWord 49 = .ok (.getfield 21, 3) := by decide +kernel
theorem d_XAr_withWord_52 : decode b_XAr_withWord 52 = .ok (.aload_n 0, 1) := by decide +kernel
theorem d_XAr_withWord_53 : decode b_XAr_withWord 53 = .ok (.getfield 9, 3) := by decide +kernel
theorem d_XAr_withWord_56 : decode b_XAr_withWord 56 = .ok (.getfield 41, 3) := by decide +kernel
theorem d_XAr_withWord_59 : decode b_XAr_withWord 59 = .ok (.aload_n 1, 1) := by decide +kernel
theorem d_XAr_withWord_60 : decode b_XAr_withWord 60 = .ok (.getfield 45, 3) := by decide +kernel
theorem d_XAr_withWord_63 : decode b_XAr_withWord 63 = .ok (.invokevirtual 54, 3) := by decide +kernel
theorem d_XAr_withWord_66 : decode b_XAr_withWord 66 = .ok (.invokevirtual 37, 3) := by decide +kernel
theorem d_XAr_withWord_69 : decode b_XAr_withWord 69 = .ok (.ireturn, 1) := by decide +kernel
theorem d_XMe_half_0 : decode b_XMe_half 0 = .ok (.aload_n 0, 1) := by decide +kernel
theorem d_XMe_half_1 : decode b_XMe_half 1 = .ok (.iload_n 1, 1) := by decide +kernel
theorem d_XMe_half_2 : decode b_XMe_half 2 = .ok (.invokevirtual 19, 3) := by decide +kernel
theorem d_XMe_half_5 : decode b_XMe_half 5 = .ok (.bipush 8, 2) := by decide +kernel
theorem d_XMe_half_7 : decode b_XMe_half 7 = .ok (.ishl, 1) := by decide +kernel
theorem d_XMe_half_8 : decode b_XMe_half 8 = .ok (.aload_n 0, 1) := by decide +kernel
theorem d_XMe_half_9 : decode b_XMe_half 9 = .ok (.iload_n 1, 1) := by decide +kernel
theorem d_XMe_half_10 : decode b_XMe_half 10 = .ok (.iconst 1, 1) := by decide +kernel
theorem d_XMe_half_11 : decode b_XMe_half 11 = .ok (.iadd, 1) := by decide +kernel
theorem d_XMe_half_12 : decode b_XMe_half 12 = .ok (.invokevirtual 19, 3) := by decide +kernel
theorem d_XMe_half_15 : decode b_XMe_half 15 = .ok (.ior, 1) := by decide +kernel
theorem d_XMe_half_16 : decode b_XMe_half 16 = .ok (.i2s, 1) := by decide +kernel
theorem d_XMe_half_17 : decode b_XMe_half 17 = .ok (.ireturn, 1) := by decide +kernel
theorem d_XAr_withHalf_0 : decode b_XAr_withHalf 0 = .ok (.aload_n 0, 1) := by decide +kernel
theorem d_XAr_withHalf_1 : decode b_XAr_withHalf 1 = .ok (.getfield 9, 3) := by decide +kernel
theorem d_XAr_withHalf_4 : decode b_XAr_withHalf 4 = .ok (.getfield 41, 3) := by decide +kernel
theorem d_XAr_withHalf_7 : decode b_XAr_withHalf 7 = .ok (.aload_n 1, 1) := by decide +kernel
theorem d_XAr_withHalf_8 : decode b_XAr_withHalf 8 = .ok (.getfield 45, 3) := by decide +kernel
theorem d_XAr_withHalf_11 : decode b_XAr_withHalf 11 = .ok (.iconst 2, 1) := by decide +kernel
theorem d_XAr_withHalf_12 : decode b_XAr_withHalf 12 = .ok (.invokevirtual 48, 3) := by decide +kernel
theorem d_XAr_withHalf_15 : decode b_XAr_withHalf 15 = .ok (.istore_n 2, 1) := by decide +kernel
theorem d_XAr_withHalf_16 : decode b_XAr_withHalf 16 = .ok (.iload_n 2, 1) := by decide +kernel
theorem d_XAr_withHalf_17 : decode b_XAr_withHalf 17 = .ok (.ifCond .eq 5, 3) := by decide +kernel
theorem d_XAr_withHalf_20 : decode b_XAr_withHalf 20 = .ok (.iload_n 2, 1) := by decide +kernel
theorem d_XAr_withHalf_21 : decode b_XAr_withHalf 21 = .ok (.ireturn, 1) := by decide +kernel
theorem d_XAr_withHalf_22 : decode b_XAr_withHalf 22 = .ok (.aload_n 0, 1) := by decide +kernel
theorem d_XAr_withHalf_23 : decode b_XAr_withHalf 23 = .ok (.getfield 9, 3) := by decide +kernel
theorem d_XAr_withHalf_26 : decode b_XAr_withHalf 26 = .ok (.getfield 41, 3) := by decide +kernel
theorem d_XAr_withHalf_29 : decode b_XAr_withHalf 29 = .ok (.aload_n 1, 1) := by decide +kernel
theorem d_XAr_withHalf_30 : decode b_XAr_withHalf 30 = .ok (.getfield 45, 3) := by decide +kernel
theorem d_XAr_withHalf_33 : decode b_XAr_withHalf 33 = .ok (.invokevirtual 57, 3) := by decide +kernel
theorem d_XAr_withHalf_36 : decode b_XAr_withHalf 36 = .ok (.istore_n 3, 1) := by decide +kernel
theorem d_XAr_withHalf_37 : decode b_XAr_withHalf 37 = .ok (.aload_n 1, 1) := by decide +kernel
theorem d_XAr_withHalf_38 : decode b_XAr_withHalf 38 = .ok (.getfield 15, 3) := by decide +kernel
theorem d_XAr_withHalf_41 : decode b_XAr_withHalf 41 = .ok (.bipush 76, 2) := by decide +kernel
theorem d_XAr_withHalf_43 : decode b_XAr_withHalf 43 = .ok (.if_icmp .ne 29, 3) := by decide +kernel
theorem d_XAr_withHalf_46 : decode b_XAr_withHalf 46 = .ok (.aload_n 0, 1) := by decide +kernel
theorem d_XAr_withHalf_47 : decode b_XAr_withHalf 47 = .ok (.getfield 9, 3) := by decide +kernel
theorem d_XAr_withHalf_50 : decode b_XAr_withHalf 50 = .ok (.aload_n 1, 1) := by decide +kernel
theorem d_XAr_withHalf_51 : decode b_XAr_withHalf 51 = .ok (.getfield 21, 3) := by decide +kernel
theorem d_XAr_withHalf_54 : decode b_XAr_withHalf 54 = .ok (.aload_n 0, 1) := by decide +kernel
theorem d_XAr_withHalf_55 : decode b_XAr_withHalf 55 = .ok (.getfield 9, 3) := by decide +kernel
theorem d_XAr_withHalf_58 : decode b_XAr_withHalf 58 = .ok (.aload_n 1, 1) := by decide +kernel
theorem d_XAr_withHalf_59 : decode b_XAr_withHalf 59 = .ok (.getfield 21, 3) := by decide +kernel
theorem d_XAr_withHalf_62 : decode b_XAr_withHalf 62 = .ok (.invokevirtual 31, 3) := by decide +kernel
theorem d_XAr_withHalf_65 : decode b_XAr_withHalf 65 = .ok (.iload_n 3, 1) := by decide +kernel
theorem d_XAr_withHalf_66 : decode b_XAr_withHalf 66 = .ok (.imul, 1) := by decide +kernel
theorem d_XAr_withHalf_67 : decode b_XAr_withHalf 67 = .ok (.invokevirtual 60, 3) := by decide +kernel
theorem d_XAr_withHalf_70 : decode b_XAr_withHalf 70 = .ok (.iconst 0, 1) := by decide +kernel
theorem d_XAr_withHalf_71 : decode b_XAr_withHalf 71 = .ok (.ireturn, 1) := by decide +kernel
theorem d_XAr_withHalf_72 : decode b_XAr_withHalf 72 = .ok (.aload_n 0, 1) := by decide +kernel
theorem d_XAr_withHalf_73 : decode b_XAr_withHalf 73 = .ok (.aload_n 1, 1) := by decide +kernel
theorem d_XAr_withHalf_74 : decode b_XAr_withHalf 74 = .ok (.getfield 15, 3) := by decide +kernel
theorem d_XAr_withHalf_77 : decode b_XAr_withHalf 77 = .ok (.bipush 48, 2) := by decide +kernel
theorem d_XAr_withHalf_79 : decode b_XAr_withHalf 79 = .ok (.isub, 1) := by decide +kernel
theorem d_XAr_withHalf_80 : decode b_XAr_withHalf 80 = .ok (.aload_n 1, 1) := by decide +kernel
theorem d_XAr_withHalf_81 : decode b_XAr_withHalf 81 = .ok (.getfield 21, 3) := by decide +kernel
theorem d_XAr_withHalf_84 : decode b_XAr_withHalf 84 = .ok (.iload_n 3, 1) := by decide +kernel
theorem d_XAr_withHalf_85 : decode b_XAr_withHalf 85 = .ok (.invokevirtual 37, 3) := by decide +kernel
theorem d_XAr_withHalf_88 : decode b_XAr_withHalf 88 = .ok (.ireturn, 1) := by decide +kernel
theorem d_XAr_shiftLeftBelowSign_0 : decode b_XAr_shiftLeftBelowSign 0 = .ok (.aload_n 0, 1) := by decide +kernel
theorem d_XAr_shiftLeftBelowSign_1 : decode b_XAr_shiftLeftBelowSign 1 = .ok (.getfield 9, 3) := by decide +kernel
theorem d_XAr_shiftLeftBelowSign_4 : decode b_XAr_shiftLeftBelowSign 4 = .ok (.iload_n 1, 1) := by decide +kernel
theorem d_XAr_shiftLeftBelowSign_5 : decode b_XAr_shiftLeftBelowSign 5 = .ok (.invokevirtual 31, 3) := by decide +kernel
theorem d_XAr_shiftLeftBelowSign_8 : decode b_XAr_shiftLeftBelowSign 8 = .ok (.istore_n 3, 1) := by decide +kernel
theorem d_XAr_shiftLeftBelowSign_9 : decode b_XAr_shiftLeftBelowSign 9 = .ok (.iload_n 3, 1) := by decide +kernel
theorem d_XAr_shiftLeftBelowSign_10 : decode b_XAr_shiftLeftBelowSign 10 = .ok (.ldc 113, 2) := by decide +kernel
theorem d_XAr_shiftLeftBelowSign_12 : decode b_XAr_shiftLeftBelowSign 12 = .ok (.iand, 1) := by decide +kernel
theorem d_XAr_shiftLeftBelowSign_13 : decode b_XAr_shiftLeftBelowSign 13 = .ok (.istore 4, 2) := by decide +kernel
theorem d_XAr_shiftLeftBelowSign_15 : decode b_XAr_shiftLeftBelowSign 15 = .ok (.iconst 0, 1) := by decide +kernel
theorem d_XAr_shiftLeftBelowSign_16 : decode b_XAr_shiftLeftBelowSign 16 = .ok (.istore 5, 2) := by decide +kernel
theorem d_XAr_shiftLeftBelowSign_18 : decode b_XAr_shiftLeftBelowSign 18 = .ok (.iconst 0, 1) := by decide +kernel
theorem d_XAr_shiftLeftBelowSign_19 : decode b_XAr_shiftLeftBelowSign 19 = .ok (.istore 6, 2) := by decide +kernel
theorem d_XAr_shiftLeftBelowSign_21 : decode b_XAr_shiftLeftBelowSign 21 = .ok (.iload 6, 2) := by decide +kernel
theorem d_XAr_shiftLeftBelowSign_23 : decode b_XAr_shiftLeftBelowSign 23 = .ok (.iload_n 2, 1) := by decide +kernel
theorem d_XAr_shiftLeftBelowSign_24 : decode b_XAr_shiftLeftBelowSign 24 = .ok (.if_icmp .ge 45, 3) := by decide +kernel
theorem d_XAr_shiftLeftBelowSign_27 : decode b_XAr_shiftLeftBelowSign 27 = .ok (.iload_n 3, 1) := by decide +kernel
theorem d_XAr_shiftLeftBelowSign_28 : decode b_XAr_shiftLeftBelowSign 28 = .ok (.iconst 1, 1) := by decide +kernel
theorem d_XAr_shiftLeftBelowSign_29 : decode b_XAr_shiftLeftBelowSign 29 = .ok (.ishl, 1) := by decide +kernel
theorem d_XAr_shiftLeftBelowSign_30 : decode b_XAr_shiftLeftBelowSign 30 = .ok (.istore 7, 2) := by decide +kernel
theorem d_XAr_shiftLeftBelowSign_32 : decode b_XAr_shiftLeftBelowSign 32 = .ok (.iload 5, 2) := by decide +kernel
theorem d_XAr_shiftLeftBelowSign_34 : decode b_XAr_shiftLeftBelowSign 34 = .ok (.ifCond .ne 13, 3) := by decide +kernel
theorem d_XAr_shiftLeftBelowSign_37 : decode b_XAr_shiftLeftBelowSign 37 = .ok (.iload 7, 2) := by decide +kernel
theorem d_XAr_shiftLeftBelowSign_39 : decode b_XAr_shiftLeftBelowSign 39 = .ok (.ldc 113, 2) := by decide +kernel
theorem d_XAr_shiftLeftBelowSign_41 : decode b_XAr_shiftLeftBelowSign 41 = .ok (.iand, 1) := by decide +kernel
theorem d_XAr_shiftLeftBelowSign_42 : decode b_XAr_shiftLeftBelowSign 42 = .ok (.iload 4, 2) := by decide +kernel
theorem d_XAr_shiftLeftBelowSign_44 : decode b_XAr_shiftLeftBelowSign 44 = .ok (.if_icmp .eq 7, 3) := by decide +kernel
theorem d_XAr_shiftLeftBelowSign_47 : decode b_XAr_shiftLeftBelowSign 47 = .ok (.iconst 1, 1) := by decide +kernel
theorem d_XAr_shiftLeftBelowSign_48 : decode b_XAr_shiftLeftBelowSign 48 = .ok (.goto 4, 3) := by decide +kernel
theorem d_XAr_shiftLeftBelowSign_51 : decode b_XAr_shiftLeftBelowSign 51 = .ok (.iconst 0, 1) := by decide +kernel
theorem d_XAr_shiftLeftBelowSign_52 : decode b_XAr_shiftLeftBelowSign 52 = .ok (.istore 5, 2) := by decide +kernel
theorem d_XAr_shiftLeftBelowSign_54 : decode b_XAr_shiftLeftBelowSign 54 = .ok (.iload 7, 2) := by decide +kernel
theorem d_XAr_shiftLeftBelowSign_56 : decode b_XAr_shiftLeftBelowSign 56 = .ok (.ldc 114, 2) := by decide +kernel
theorem d_XAr_shiftLeftBelowSign_58 : decode b_XAr_shiftLeftBelowSign 58 = .ok (.iand, 1) := by decide +kernel
theorem d_XAr_shiftLeftBelowSign_59 : decode b_XAr_shiftLeftBelowSign 59 = .ok (.iload 4, 2) := by decide +kernel
theorem d_XAr_shiftLeftBelowSign_61 : decode b_XAr_shiftLeftBelowSign 61 = .ok (.ior, 1) := by decide +kernel
theorem d_XAr_shiftLeftBelowSign_62 : decode b_XAr_shiftLeftBelowSign 62 = .ok (.istore_n 3, 1) := by decide +kernel
theorem d_XAr_shiftLeftBelowSign_63 : decode b_XAr_shiftLeftBelowSign 63 = .ok (.iinc 6 1, 3) := by decide +kernel
theorem d_XAr_shiftLeftBelowSign_66 : decode b_XAr_shiftLeftBelowSign 66 = .ok (.goto (-45), 3) := by decide +kernel
theorem d_XAr_shiftLeftBelowSign_69 : decode b_XAr_shiftLeftBelowSign 69 = .ok (.aload_n 0, 1) := by decide +kernel
theorem d_XAr_shiftLeftBelowSign_70 : decode b_XAr_shiftLeftBelowSign 70 = .ok (.getfield 9, 3) := by decide +kernel
theorem d_XAr_shiftLeftBelowSign_73 : decode b_XAr_shiftLeftBelowSign 73 = .ok (.iload_n 1, 1) := by decide +kernel
theorem d_XAr_shiftLeftBelowSign_74 : decode b_XAr_shiftLeftBelowSign 74 = .ok (.iload_n 3, 1) := by decide +kernel
theorem d_XAr_shiftLeftBelowSign_75 : decode b_XAr_shiftLeftBelowSign 75 = .ok (.invokevirtual 60, 3) := by decide +kernel
theorem d_XAr_shiftLeftBelowSign_78 : decode b_XAr_shiftLeftBelowSign 78 = .ok (.aload_n 0, 1) := by decide +kernel
theorem d_XAr_shiftLeftBelowSign_79 : decode b_XAr_shiftLeftBelowSign 79 = .ok (.getfield 9, 3) := by decide +kernel
theorem d_XAr_shiftLeftBelowSign_82 : decode b_XAr_shiftLeftBelowSign 82 = .ok (.iload_n 3, 1) := by decide +kernel
theorem d_XAr_shiftLeftBelowSign_83 : decode b_XAr_shiftLeftBelowSign 83 = .ok (.i2l, 1) := by decide +kernel
theorem d_XAr_shiftLeftBelowSign_84 : decode b_XAr_shiftLeftBelowSign 84 = .ok (.invokevirtual 98, 3) := by decide +kernel
theorem d_XAr_shiftLeftBelowSign_87 : decode b_XAr_shiftLeftBelowSign 87 = .ok (.iload 5, 2) := by decide +kernel
theorem d_XAr_shiftLeftBelowSign_89 : decode b_XAr_shiftLeftBelowSign 89 = .ok (.ifCond .eq 13, 3) := by decide +kernel
theorem d_XAr_shiftLeftBelowSign_92 : decode b_XAr_shiftLeftBelowSign 92 = .ok (.aload_n 0, 1) := by decide +kernel
theorem d_XAr_shiftLeftBelowSign_93 : decode b_XAr_shiftLeftBelowSign 93 = .ok (.getfield 9, 3) := by decide +kernel
theorem d_XAr_shiftLeftBelowSign_96 : decode b_XAr_shiftLeftBelowSign 96 = .ok (.invokevirtual 106, 3) := by decide +kernel
theorem d_XAr_shiftLeftBelowSign_99 : decode b_XAr_shiftLeftBelowSign 99 = .ok (.goto 4, 3) := by decide +kernel
theorem d_XAr_shiftLeftBelowSign_102 : decode b_XAr_shiftLeftBelowSign 102 = .ok (.iconst 0, 1) := by decide +kernel
theorem d_XAr_shiftLeftBelowSign_103 : decode b_XAr_shiftLeftBelowSign 103 = .ok (.ireturn, 1) := by decide +kernel
theorem d_XAr_shift_0 : decode b_XAr_shift 0 = .ok (.aload_n 1, 1) := by decide +kernel
theorem d_XAr_shift_1 : decode b_XAr_shift 1 = .ok (.getfield 45, 3) := by decide +kernel
theorem d_XAr_shift_4 : decode b_XAr_shift 4 = .ok (.bipush 63, 2) := by decide +kernel
theorem d_XAr_shift_6 : decode b_XAr_shift 6 = .ok (.iand, 1) := by decide +kernel
theorem d_XAr_shift_7 : decode b_XAr_shift 7 = .ok (.istore_n 2, 1) := by decide +kernel
theorem d_XAr_shift_8 : decode b_XAr_shift 8 = .ok (.aload_n 0, 1) := by decide +kernel
theorem d_XAr_shift_9 : decode b_XAr_shift 9 = .ok (.getfield 9, 3) := by decide +kernel
theorem d_XAr_shift_12 : decode b_XAr_shift 12 = .ok (.aload_n 1, 1) := by decide +kernel
theorem d_XAr_shift_13 : decode b_XAr_shift 13 = .ok (.getfield 21, 3) := by decide +kernel
theorem d_XAr_shift_16 : decode b_XAr_shift 16 = .ok (.invokevirtual 31, 3) := by decide +kernel
theorem d_XAr_shift_19 : decode b_XAr_shift 19 = .ok (.istore_n 3, 1) := by decide +kernel
theorem d_XAr_shift_20 : decode b_XAr_shift 20 = .ok (.aload_n 1, 1) := by decide +kernel
theorem d_XAr_shift_21 : decode b_XAr_shift 21 = .ok (.getfield 15, 3) := by decide +kernel
theorem d_XAr_shift_24 : decode b_XAr_shift 24 = .ok (.tableswitch 77 136 138 #[28, 46, 64], 28) := by decide +kernel
theorem d_XAr_shift_52 : decode b_XAr_shift 52 = .ok (.aload_n 0, 1) := by decide +kernel
theorem d_XAr_shift_53 : decode b_XAr_shift 53 = .ok (.aload_n 1, 1) := by decide +kernel
theorem d_XAr_shift_54 : decode b_XAr_shift 54 = .ok (.getfield 21, 3) := by decide +kernel
theorem d_XAr_shift_57 : decode b_XAr_shift 57 = .ok (.iload_n 3, 1) := by decide +kernel
theorem d_XAr_shift_58 : decode b_XAr_shift 58 = .ok (.i2l, 1) := by decide +kernel
theorem d_XAr_shift_59 : decode b_XAr_shift 59 = .ok (.ldc2_w 64, 3) := by decide +kernel
theorem d_XAr_shift_62 : decode b_XAr_shift 62 = .ok (.land, 1) := by decide +kernel
theorem d_XAr_shift_63 : decode b_XAr_shift 63 = .ok (.iload_n 2, 1) := by decide +kernel
theorem d_XAr_shift_64 : decode b_XAr_shift 64 = .ok (.lushr, 1) := by decide +kernel
theorem d_XAr_shift_65 : decode b_XAr_shift 65 = .ok (.l2i, 1) := by decide +kernel
theorem d_XAr_shift_66 : decode b_XAr_shift 66 = .ok (.invokevirtual 66, 3) := by decide +kernel
theorem d_XAr_shift_69 : decode b_XAr_shift 69 = .ok (.ireturn, 1) := by decide +kernel
theorem d_XAr_shift_70 : decode b_XAr_shift 70 = .ok (.aload_n 0, 1) := by decide +kernel
theorem d_XAr_shift_71 : decode b_XAr_shift 71 = .ok (.aload_n 1, 1) := by decide +kernel
theorem d_XAr_shift_72 : decode b_XAr_shift 72 = .ok (.getfield 21, 3) := by decide +kernel
theorem d_XAr_shift_75 : decode b_XAr_shift 75 = .ok (.iload_n 3, 1) := by decide +kernel
theorem d_XAr_shift_76 : decode b_XAr_shift 76 = .ok (.i2l, 1) := by decide +kernel
theorem d_XAr_shift_77 : decode b_XAr_shift 77 = .ok (.ldc2_w 64, 3) := by decide +kernel
theorem d_XAr_shift_80 : decode b_XAr_shift 80 = .ok (.land, 1) := by decide +kernel
theorem d_XAr_shift_81 : decode b_XAr_shift 81 = .ok (.iload_n 2, 1) := by decide +kernel
theorem d_XAr_shift_82 : decode b_XAr_shift 82 = .ok (.lshl, 1) := by decide +kernel
theorem d_XAr_shift_83 : decode b_XAr_shift 83 = .ok (.l2i, 1) := by decide +kernel
theorem d_XAr_shift_84 : decode b_XAr_shift 84 = .ok (.invokevirtual 66, 3) := by decide +kernel
theorem d_XAr_shift_87 : decode b_XAr_shift 87 = .ok (.ireturn, 1) := by decide +kernel
theorem d_XAr_shift_88 : decode b_XAr_shift 88 = .ok (.aload_n 0, 1) := by decide +kernel
theorem d_XAr_shift_89 : decode b_XAr_shift 89 = .ok (.aload_n 1, 1) := by decide +kernel
theorem d_XAr_shift_90 : decode b_XAr_shift 90 = .ok (.getfield 21, 3) := by decide +kernel
theorem d_XAr_shift_93 : decode b_XAr_shift 93 = .ok (.iload_n 3, 1) := by decide +kernel
theorem d_XAr_shift_94 : decode b_XAr_shift 94 = .ok (.i2l, 1) := by decide +kernel
theorem d_XAr_shift_95 : decode b_XAr_shift 95 = .ok (.iload_n 2, 1) := by decide +kernel
theorem d_XAr_shift_96 : decode b_XAr_shift 96 = .ok (.lshr, 1) := by decide +kernel
theorem d_XAr_shift_97 : decode b_XAr_shift 97 = .ok (.invokevirtual 69, 3) := by decide +kernel
theorem d_XAr_shift_100 : decode b_XAr_shift 100 = .ok (.ireturn, 1) := by decide +kernel
theorem d_XAr_shift_101 : decode b_XAr_shift 101 = .ok (.aload_n 0, 1) := by decide +kernel
theorem d_XAr_shift_102 : decode b_XAr_shift 102 = .ok (.aload_n 1, 1) := by decide +kernel
theorem d_XAr_shift_103 : decode b_XAr_shift 103 = .ok (.getfield 21, 3) := by decide +kernel
theorem d_XAr_shift_106 : decode b_XAr_shift 106 = .ok (.iload_n 2, 1) := by decide +kernel
theorem d_XAr_shift_107 : decode b_XAr_shift 107 = .ok (.invokevirtual 73, 3) := by decide +kernel
theorem d_XAr_shift_110 : decode b_XAr_shift 110 = .ok (.ireturn, 1) := by decide +kernel
theorem d_XBr_isAboveAfterStep_0 : decode b_XBr_isAboveAfterStep 0 = .ok (.aload_n 0, 1) := by decide +kernel
theorem d_XBr_isAboveAfterStep_1 : decode b_XBr_isAboveAfterStep 1 = .ok (.getfield 9, 3) := by decide +kernel
theorem d_XBr_isAboveAfterStep_4 : decode b_XBr_isAboveAfterStep 4 = .ok (.aload_n 1, 1) := by decide +kernel
theorem d_XBr_isAboveAfterStep_5 : decode b_XBr_isAboveAfterStep 5 = .ok (.getfield 21, 3) := by decide +kernel
theorem d_XBr_isAboveAfterStep_8 : decode b_XBr_isAboveAfterStep 8 = .ok (.iconst 1, 1) := by decide +kernel
theorem d_XBr_isAboveAfterStep_9 : decode b_XBr_isAboveAfterStep 9 = .ok (.ior, 1) := by decide +kernel
theorem d_XBr_isAboveAfterStep_10 : decode b_XBr_isAboveAfterStep 10 = .ok (.invokevirtual 24, 3) := by decide +kernel
theorem d_XBr_isAboveAfterStep_13 : decode b_XBr_isAboveAfterStep 13 = .ok (.istore_n 2, 1) := by decide +kernel
theorem d_XBr_isAboveAfterStep_14 : decode b_XBr_isAboveAfterStep 14 = .ok (.aload_n 0, 1) := by decide +kernel
theorem d_XBr_isAboveAfterStep_15 : decode b_XBr_isAboveAfterStep 15 = .ok (.getfield 9, 3) := by decide +kernel
theorem d_XBr_isAboveAfterStep_18 : decode b_XBr_isAboveAfterStep 18 = .ok (.aload_n 1, 1) := by decide +kernel
theorem d_XBr_isAboveAfterStep_19 : decode b_XBr_isAboveAfterStep 19 = .ok (.getfield 41, 3) := by decide +kernel
theorem d_XBr_isAboveAfterStep_22 : decode b_XBr_isAboveAfterStep 22 = .ok (.invokevirtual 24, 3) := by decide +kernel
theorem d_XBr_isAboveAfterStep_25 : decode b_XBr_isAboveAfterStep 25 = .ok (.aload_n 0, 1) := by decide +kernel
theorem d_XBr_isAboveAfterStep_26 : decode b_XBr_isAboveAfterStep 26 = .ok (.getfield 9, 3) := by decide +kernel
theorem d_XBr_isAboveAfterStep_29 : decode b_XBr_isAboveAfterStep 29 = .ok (.aload_n 1, 1) := by decide +kernel
theorem d_XBr_isAboveAfterStep_30 : decode b_XBr_isAboveAfterStep 30 = .ok (.getfield 21, 3) := by decide +kernel
theorem d_XBr_isAboveAfterStep_33 : decode b_XBr_isAboveAfterStep 33 = .ok (.invokevirtual 24, 3) := by decide +kernel
theorem d_XBr_isAboveAfterStep_36 : decode b_XBr_isAboveAfterStep 36 = .ok (.iadd, 1) := by decide +kernel
theorem d_XBr_isAboveAfterStep_37 : decode b_XBr_isAboveAfterStep 37 = .ok (.istore_n 3, 1) := by decide +kernel
theorem d_XBr_isAboveAfterStep_38 : decode b_XBr_isAboveAfterStep 38 = .ok (.aload_n 0, 1) := by decide +kernel
theorem d_XBr_isAboveAfterStep_39 : decode b_XBr_isAboveAfterStep 39 = .ok (.getfield 9, 3) := by decide +kernel
theorem d_XBr_isAboveAfterStep_42 : decode b_XBr_isAboveAfterStep 42 = .ok (.aload_n 1, 1) := by decide +kernel
theorem d_XBr_isAboveAfterStep_43 : decode b_XBr_isAboveAfterStep 43 = .ok (.getfield 41, 3) := by decide +kernel
theorem d_XBr_isAboveAfterStep_46 : decode b_XBr_isAboveAfterStep 46 = .ok (.iload_n 3, 1) := by decide +kernel
theorem d_XBr_isAboveAfterStep_47 : decode b_XBr_isAboveAfterStep 47 = .ok (.invokevirtual 47, 3) := by decide +kernel
theorem d_XBr_isAboveAfterStep_50 : decode b_XBr_isAboveAfterStep 50 = .ok (.iload_n 3, 1) := by decide +kernel
theorem d_XBr_isAboveAfterStep_51 : decode b_XBr_isAboveAfterStep 51 = .ok (.iload_n 2, 1) := by decide +kernel
theorem d_XBr_isAboveAfterStep_52 : decode b_XBr_isAboveAfterStep 52 = .ok (.if_icmp .le 7, 3) := by decide +kernel
theorem d_XBr_isAboveAfterStep_55 : decode b_XBr_isAboveAfterStep 55 = .ok (.iconst 1, 1) := by decide +kernel
theorem d_XBr_isAboveAfterStep_56 : decode b_XBr_isAboveAfterStep 56 = .ok (.goto 4, 3) := by decide +kernel
theorem d_XBr_isAboveAfterStep_59 : decode b_XBr_isAboveAfterStep 59 = .ok (.iconst 0, 1) := by decide +kernel
theorem d_XBr_isAboveAfterStep_60 : decode b_XBr_isAboveAfterStep 60 = .ok (.ireturn, 1) := by decide +kernel
theorem d_XBr_decide_0 : decode b_XBr_decide 0 = .ok (.aload_n 1, 1) := by decide +kernel
theorem d_XBr_decide_1 : decode b_XBr_decide 1 = .ok (.getfield 15, 3) := by decide +kernel
theorem d_XBr_decide_4 : decode b_XBr_decide 4 = .ok (.lookupswitch 145 #[(5, 60), (6, 77), (7, 121), (69, 60), (70, 77), (71, 121)], 60) := by decide +kernel
theorem d_XBr_decide_64 : decode b_XBr_decide 64 = .ok (.aload_n 0, 1) := by decide +kernel
theorem d_XBr_decide_65 : decode b_XBr_decide 65 = .ok (.getfield 9, 3) := by decide +kernel
theorem d_XBr_decide_68 : decode b_XBr_decide 68 = .ok (.aload_n 1, 1) := by decide +kernel
theorem d_XBr_decide_69 : decode b_XBr_decide 69 = .ok (.getfield 41, 3) := by decide +kernel
theorem d_XBr_decide_72 : decode b_XBr_decide 72 = .ok (.aload_n 1, 1) := by decide +kernel
theorem d_XBr_decide_73 : decode b_XBr_decide 73 = .ok (.getfield 44, 3) := by decide +kernel
theorem d_XBr_decide_76 : decode b_XBr_decide 76 = .ok (.invokevirtual 47, 3) := by decide +kernel
theorem d_XBr_decide_79 : decode b_XBr_decide 79 = .ok (.iconst 1, 1) := by decide +kernel
theorem d_XBr_decide_80 : decode b_XBr_decide 80 = .ok (.ireturn, 1) := by decide +kernel
theorem d_XBr_decide_81 : decode b_XBr_decide 81 = .ok (.aload_n 0, 1) := by decide +kernel
theorem d_XBr_decide_82 : decode b_XBr_decide 82 = .ok (.getfield 9, 3) := by decide +kernel
theorem d_XBr_decide_85 : decode b_XBr_decide 85 = .ok (.aload_n 1, 1) := by decide +kernel
theorem d_XBr_decide_86 : decode b_XBr_decide 86 = .ok (.getfield 41, 3) := by decide +kernel
theorem d_XBr_decide_89 : decode b_XBr_decide 89 = .ok (.aload_n 0, 1) := by decide +kernel
theorem d_XBr_decide_90 : decode b_XBr_decide 90 = .ok (.getfield 9, 3) := by decide +kernel
theorem d_XBr_decide_93 : decode b_XBr_decide 93 = .ok (.aload_n 1, 1) := by decide +kernel
theorem d_XBr_decide_94 : decode b_XBr_decide 94 = .ok (.getfield 41, 3) := by decide +kernel
theorem d_XBr_decide_97 : decode b_XBr_decide 97 = .ok (.invokevirtual 24, 3) := by decide +kernel
theorem d_XBr_decide_100 : decode b_XBr_decide 100 = .ok (.iconst 1, 1) := by decide +kernel
theorem d_XBr_decide_101 : decode b_XBr_decide 101 = .ok (.isub, 1) := by decide +kernel
theorem d_XBr_decide_102 : decode b_XBr_decide 102 = .ok (.invokevirtual 47, 3) := by decide +kernel
theorem d_XBr_decide_105 : decode b_XBr_decide 105 = .ok (.aload_n 0, 1) := by decide +kernel
theorem d_XBr_decide_106 : decode b_XBr_decide 106 = .ok (.getfield 9, 3) := by decide +kernel
theorem d_XBr_decide_109 : decode b_XBr_decide 109 = .ok (.aload_n 1, 1) := by decide +kernel
theorem d_XBr_decide_110 : decode b_XBr_decide 110 = .ok (.getfield 41, 3) := by decide +kernel
theorem d_XBr_decide_113 : decode b_XBr_decide 113 = .ok (.invokevirtual 24, 3) := by decide +kernel
theorem d_XBr_decide_116 : decode b_XBr_decide 116 = .ok (.ifCond .eq 7, 3) := by decide +kernel
theorem d_XBr_decide_119 : decode b_XBr_decide 119 = .ok (.iconst 1, 1) := by decide +kernel
theorem d_XBr_decide_120 : decode b_XBr_decide 120 = .ok (.goto 4, 3) := by decide +kernel
theorem d_XBr_decide_123 : decode b_XBr_decide 123 = .ok (.iconst 0, 1) := by decide +kernel
theorem d_XBr_decide_124 : decode b_XBr_decide 124 = .ok (.ireturn, 1) := by decide +kernel
theorem d_XBr_decide_125 : decode b_XBr_decide 125 = .ok (.aload_n 1, 1) := by decide +kernel
theorem d_XBr_decide_126 : decode b_XBr_decide 126 = .ok (.getfield 41, 3) := by decide +kernel
theorem d_XBr_decide_129 : decode b_XBr_decide 129 = .ok (.bipush 8, 2) := by decide +kernel
theorem d_XBr_decide_131 : decode b_XBr_decide 131 = .ok (.aload_n 0, 1) := by decide +kernel
theorem d_XBr_decide_132 : decode b_XBr_decide 132 = .ok (.getfield 9, 3) := by decide +kernel
theorem d_XBr_decide_135 : decode b_XBr_decide 135 = .ok (.getfield 51, 3) := by decide +kernel
theorem d_XBr_decide_138 : decode b_XBr_decide 138 = .ok (.ishr, 1) := by decide +kernel
theorem d_XBr_decide_139 : decode b_XBr_decide 139 = .ok (.iand, 1) := by decide +kernel
theorem d_XBr_decide_140 : decode b_XBr_decide 140 = .ok (.ifCond .eq 7, 3) := by decide +kernel
theorem d_XBr_decide_143 : decode b_XBr_decide 143 = .ok (.iconst 1, 1) := by decide +kernel
theorem d_XBr_decide_144 : decode b_XBr_decide 144 = .ok (.goto 4, 3) := by decide +kernel
theorem d_XBr_decide_147 : decode b_XBr_decide 147 = .ok (.iconst 0, 1) := by decide +kernel
theorem d_XBr_decide_148 : decode b_XBr_decide 148 = .ok (.ireturn, 1) := by decide +kernel
theorem d_XBr_decide_149 : decode b_XBr_decide 149 = .ok (.aload_n 0, 1) := by decide +kernel
theorem d_XBr_decide_150 : decode b_XBr_decide 150 = .ok (.aload_n 1, 1) := by decide +kernel
theorem d_XBr_decide_151 : decode b_XBr_decide 151 = .ok (.invokevirtual 54, 3) := by decide +kernel
theorem d_XBr_decide_154 : decode b_XBr_decide 154 = .ok (.aload_n 1, 1) := by decide +kernel
theorem d_XBr_decide_155 : decode b_XBr_decide 155 = .ok (.getfield 15, 3) := by decide +kernel
theorem d_XBr_decide_158 : decode b_XBr_decide 158 = .ok (.sipush 134, 3) := by decide +kernel
theorem d_XBr_decide_161 : decode b_XBr_decide 161 = .ok (.if_icmp .ne 7, 3) := by decide +kernel
theorem d_XBr_decide_164 : decode b_XBr_decide 164 = .ok (.iconst 1, 1) := by decide +kernel
theorem d_XBr_decide_165 : decode b_XBr_decide 165 = .ok (.goto 4, 3) := by decide +kernel
theorem d_XBr_decide_168 : decode b_XBr_decide 168 = .ok (.iconst 0, 1) := by decide +kernel
theorem d_XBr_decide_169 : decode b_XBr_decide 169 = .ok (.if_icmp .ne 7, 3) := by decide +kernel
theorem d_XBr_decide_172 : decode b_XBr_decide 172 = .ok (.iconst 1, 1) := by decide +kernel
theorem d_XBr_decide_173 : decode b_XBr_decide 173 = .ok (.goto 4, 3) := by decide +kernel
theorem d_XBr_decide_176 : decode b_XBr_decide 176 = .ok (.iconst 0, 1) := by decide +kernel
theorem d_XBr_decide_177 : decode b_XBr_decide 177 = .ok (.ireturn, 1) := by decide +kernel
theorem d_XBr_perform_0 : decode b_XBr_perform 0 = .ok (.aload_n 1, 1) := by decide +kernel
theorem d_XBr_perform_1 : decode b_XBr_perform 1 = .ok (.getfield 15, 3) := by decide +kernel
theorem d_XBr_perform_4 : decode b_XBr_perform 4 = .ok (.bipush 64, 2) := by decide +kernel
theorem d_XBr_perform_6 : decode b_XBr_perform 6 = .ok (.if_icmp .ge 7, 3) := by decide +kernel
theorem d_XBr_perform_9 : decode b_XBr_perform 9 = .ok (.iconst 1, 1) := by decide +kernel
theorem d_XBr_perform_10 : decode b_XBr_perform 10 = .ok (.goto 4, 3) := by decide +kernel
theorem d_XBr_perform_13 : decode b_XBr_perform 13 = .ok (.iconst 0, 1) := by decide +kernel
theorem d_XBr_perform_14 : decode b_XBr_perform 14 = .ok (.istore_n 2, 1) := by decide +kernel
theorem d_XBr_perform_15 : decode b_XBr_perform 15 = .ok (.iload_n 2, 1) := by decide +kernel
theorem d_XBr_perform_16 : decode b_XBr_perform 16 = .ok (.ifCond .eq 20, 3) := by decide +kernel
theorem d_XBr_perform_19 : decode b_XBr_perform 19 = .ok (.aload_n 0, 1) := by decide +kernel
theorem d_XBr_perform_20 : decode b_XBr_perform 20 = .ok (.getfield 9, 3) := by decide +kernel
theorem d_XBr_perform_23 : decode b_XBr_perform 23 = .ok (.aload_n 1, 1) := by decide +kernel
theorem d_XBr_perform_24 : decode b_XBr_perform 24 = .ok (.getfield 21, 3) := by decide +kernel
theorem d_XBr_perform_27 : decode b_XBr_perform 27 = .ok (.invokevirtual 24, 3) := by decide +kernel
theorem d_XBr_perform_30 : decode b_XBr_perform 30 = .ok (.ldc 30, 2) := by decide +kernel
theorem d_XBr_perform_32 : decode b_XBr_perform 32 = .ok (.iand, 1) := by decide +kernel
theorem d_XBr_perform_33 : decode b_XBr_perform 33 = .ok (.goto 7, 3) := by decide +kernel
theorem d_XBr_perform_36 : decode b_XBr_perform 36 = .ok (.aload_n 1, 1) := by decide +kernel
theorem d_XBr_perform_37 : decode b_XBr_perform 37 = .ok (.getfield 31, 3) := by decide +kernel
theorem d_XBr_perform_40 : decode b_XBr_perform 40 = .ok (.istore_n 3, 1) := by decide +kernel
theorem d_XBr_perform_41 : decode b_XBr_perform 41 = .ok (.aload_n 0, 1) := by decide +kernel
theorem d_XBr_perform_42 : decode b_XBr_perform 42 = .ok (.aload_n 1, 1) := by decide +kernel
theorem d_XBr_perform_43 : decode b_XBr_perform 43 = .ok (.invokevirtual 34, 3) := by decide +kernel
theorem d_XBr_perform_46 : decode b_XBr_perform 46 = .ok (.istore 4, 2) := by decide +kernel
theorem d_XBr_perform_48 : decode b_XBr_perform 48 = .ok (.iload 4, 2) := by decide +kernel
theorem d_XBr_perform_50 : decode b_XBr_perform 50 = .ok (.ifCond .eq 22, 3) := by decide +kernel
theorem d_XBr_perform_53 : decode b_XBr_perform 53 = .ok (.iload_n 2, 1) := by decide +kernel
theorem d_XBr_perform_54 : decode b_XBr_perform 54 = .ok (.ifCond .eq 10, 3) := by decide +kernel
theorem d_XBr_perform_57 : decode b_XBr_perform 57 = .ok (.aload_n 1, 1) := by decide +kernel
theorem d_XBr_perform_58 : decode b_XBr_perform 58 = .ok (.getfield 21, 3) := by decide +kernel
theorem d_XBr_perform_61 : decode b_XBr_perform 61 = .ok (.ifCond .eq 11, 3) := by decide +kernel
theorem d_XBr_perform_64 : decode b_XBr_perform 64 = .ok (.aload_n 0, 1) := by decide +kernel
theorem d_XBr_perform_65 : decode b_XBr_perform 65 = .ok (.getfield 9, 3) := by decide +kernel
theorem d_XBr_perform_68 : decode b_XBr_perform 68 = .ok (.iload_n 3, 1) := by decide +kernel
theorem d_XBr_perform_69 : decode b_XBr_perform 69 = .ok (.putfield 38, 3) := by decide +kernel
theorem d_XBr_perform_72 : decode b_XBr_perform 72 = .ok (.iconst 0, 1) := by decide +kernel
theorem d_XBr_perform_73 : decode b_XBr_perform 73 = .ok (.ireturn, 1) := by decide +kernel
theorem d_XMe_put_0 : decode b_XMe_put 0 = .ok (.iload_n 1, 1) := by decide +kernel
theorem d_XMe_put_1 : decode b_XMe_put 1 = .ok (.ifCond .lt 21, 3) := by decide +kernel
theorem d_XMe_put_4 : decode b_XMe_put 4 = .ok (.iload_n 1, 1) := by decide +kernel
theorem d_XMe_put_5 : decode b_XMe_put 5 = .ok (.sipush 1024, 3) := by decide +kernel
theorem d_XMe_put_8 : decode b_XMe_put 8 = .ok (.if_icmp .ge 14, 3) := by decide +kernel
theorem d_XMe_put_11 : decode b_XMe_put 11 = .ok (.aload_n 0, 1) := by decide +kernel
theorem d_XMe_put_12 : decode b_XMe_put 12 = .ok (.getfield 11, 3) := by decide +kernel
theorem d_XMe_put_15 : decode b_XMe_put 15 = .ok (.iload_n 1, 1) := by decide +kernel
theorem d_XMe_put_16 : decode b_XMe_put 16 = .ok (.iload_n 2, 1) := by decide +kernel
theorem d_XMe_put_17 : decode b_XMe_put 17 = .ok (.sipush 255, 3) := by decide +kernel
theorem d_XMe_put_20 : decode b_XMe_put 20 = .ok (.iand, 1) := by decide +kernel
theorem d_XMe_put_21 : decode b_XMe_put 21 = .ok (.iastore, 1) := by decide +kernel
theorem d_XMe_put_22 : decode b_XMe_put 22 = .ok (.return_, 1) := by decide +kernel
theorem d_XMe_putDecimal_0 : decode b_XMe_putDecimal 0 = .ok (.lload_n 3, 1) := by decide +kernel
theorem d_XMe_putDecimal_1 : decode b_XMe_putDecimal 1 = .ok (.lstore 6, 2) := by decide +kernel
theorem d_XMe_putDecimal_3 : decode b_XMe_putDecimal 3 = .ok (.iload 5, 2) := by decide +kernel
theorem d_XMe_putDecimal_5 : decode b_XMe_putDecimal 5 = .ok (.ifCond .eq 8, 3) := by decide +kernel
theorem d_XMe_putDecimal_8 : decode b_XMe_putDecimal 8 = .ok (.bipush 13, 2) := by decide +kernel
theorem d_XMe_putDecimal_10 : decode b_XMe_putDecimal 10 = .ok (.goto 5, 3) := by decide +kernel
theorem d_XMe_putDecimal_13 : decode b_XMe_putDecimal 13 = .ok (.bipush 12, 2) := by decide +kernel
theorem d_XMe_putDecimal_15 : decode b_XMe_putDecimal 15 = .ok (.istore 8, 2) := by decide +kernel
theorem d_XMe_putDecimal_17 : decode b_XMe_putDecimal 17 = .ok (.iload_n 2, 1) := by decide +kernel
theorem d_XMe_putDecimal_18 : decode b_XMe_putDecimal 18 = .ok (.iconst 1, 1) := by decide +kernel
theorem d_XMe_putDecimal_19 : decode b_XMe_putDecimal 19 = .ok (.isub, 1) := by decide +kernel
theorem d_XMe_putDecimal_20 : decode b_XMe_putDecimal 20 = .ok (.istore 9, 2) := by decide +kernel
theorem d_XMe_putDecimal_22 : decode b_XMe_putDecimal 22 = .ok (.iload 9, 2) := by decide +kernel
theorem d_XMe_putDecimal_24 : decode b_XMe_putDecimal 24 = .ok (.ifCond .lt 51, 3) := by decide +kernel
theorem d_XMe_putDecimal_27 : decode b_XMe_putDecimal 27 = .ok (.aload_n 0, 1) := by decide +kernel
theorem d_XMe_putDecimal_28 : decode b_XMe_putDecimal 28 = .ok (.iload_n 1, 1) := by decide +kernel
theorem d_XMe_putDecimal_29 : decode b_XMe_putDecimal 29 = .ok (.iload 9, 2) := by decide +kernel
theorem d_XMe_putDecimal_31 : decode b_XMe_putDecimal 31 = .ok (.iadd, 1) := by decide +kernel
theorem d_XMe_putDecimal_32 : decode b_XMe_putDecimal 32 = .ok (.lload 6, 2) := by decide +kernel
theorem d_XMe_putDecimal_34 : decode b_XMe_putDecimal 34 = .ok (.ldc2_w 31, 3) := by decide +kernel
theorem d_XMe_putDecimal_37 : decode b_XMe_putDecimal 37 = .ok (.lrem, 1) := by decide +kernel
theorem d_XMe_putDecimal_38 : decode b_XMe_putDecimal 38 = .ok (.l2i, 1) := by decide +kernel
theorem d_XMe_putDecimal_39 : decode b_XMe_putDecimal 39 = .ok (.bipush 16, 2) := by decide +kernel
theorem d_XMe_putDecimal_41 : decode b_XMe_putDecimal 41 = .ok (.imul, 1) := by decide +kernel
theorem d_XMe_putDecimal_42 : decode b_XMe_putDecimal 42 = .ok (.iload 8, 2) := by decide +kernel
theorem d_XMe_putDecimal_44 : decode b_XMe_putDecimal 44 = .ok (.iadd, 1) := by decide +kernel
theorem d_XMe_putDecimal_45 : decode b_XMe_putDecimal 45 = .ok (.invokevirtual 25, 3) := by decide +kernel
theorem d_XMe_putDecimal_48 : decode b_XMe_putDecimal 48 = .ok (.lload 6, 2) := by decide +kernel
theorem d_XMe_putDecimal_50 : decode b_XMe_putDecimal 50 = .ok (.ldc2_w 31, 3) := by decide +kernel
theorem d_XMe_putDecimal_53 : decode b_XMe_putDecimal 53 = .ok (.ldiv, 1) := by decide +kernel
theorem d_XMe_putDecimal_54 : decode b_XMe_putDecimal 54 = .ok (.ldc2_w 31, 3) := by decide +kernel
theorem d_XMe_putDecimal_57 : decode b_XMe_putDecimal 57 = .ok (.lrem, 1) := by decide +kernel
theorem d_XMe_putDecimal_58 : decode b_XMe_putDecimal 58 = .ok (.l2i, 1) := by decide +kernel
theorem d_XMe_putDecimal_59 : decode b_XMe_putDecimal 59 = .ok (.istore 8, 2) := by decide +kernel
theorem d_XMe_putDecimal_61 : decode b_XMe_putDecimal 61 = .ok (.lload 6, 2) := by decide +kernel
theorem d_XMe_putDecimal_63 : decode b_XMe_putDecimal 63 = .ok (.ldc2_w 29, 3) := by decide +kernel
theorem d_XMe_putDecimal_66 : decode b_XMe_putDecimal 66 = .ok (.ldiv, 1) := by decide +kernel
theorem d_XMe_putDecimal_67 : decode b_XMe_putDecimal 67 = .ok (.lstore 6, 2) := by decide +kernel
theorem d_XMe_putDecimal_69 : decode b_XMe_putDecimal 69 = .ok (.iinc 9 (-1), 3) := by decide +kernel
theorem d_XMe_putDecimal_72 : decode b_XMe_putDecimal 72 = .ok (.goto (-50), 3) := by decide +kernel
theorem d_XMe_putDecimal_75 : decode b_XMe_putDecimal 75 = .ok (.return_, 1) := by decide +kernel
theorem d_XMe_isPacked_0 : decode b_XMe_isPacked 0 = .ok (.aload_n 0, 1) := by decide +kernel
theorem d_XMe_isPacked_1 : decode b_XMe_isPacked 1 = .ok (.iload_n 1, 1) := by decide +kernel
theorem d_XMe_isPacked_2 : decode b_XMe_isPacked 2 = .ok (.iload_n 2, 1) := by decide +kernel
theorem d_XMe_isPacked_3 : decode b_XMe_isPacked 3 = .ok (.iadd, 1) := by decide +kernel
theorem d_XMe_isPacked_4 : decode b_XMe_isPacked 4 = .ok (.iconst 1, 1) := by decide +kernel
theorem d_XMe_isPacked_5 : decode b_XMe_isPacked 5 = .ok (.isub, 1) := by decide +kernel
theorem d_XMe_isPacked_6 : decode b_XMe_isPacked 6 = .ok (.invokevirtual 19, 3) := by decide +kernel
theorem d_XMe_isPacked_9 : decode b_XMe_isPacked 9 = .ok (.istore_n 3, 1) := by decide +kernel
theorem d_XMe_isPacked_10 : decode b_XMe_isPacked 10 = .ok (.iload_n 3, 1) := by decide +kernel
theorem d_XMe_isPacked_11 : decode b_XMe_isPacked 11 = .ok (.iconst 4, 1) := by decide +kernel
theorem d_XMe_isPacked_12 : decode b_XMe_isPacked 12 = .ok (.ishr, 1) := by decide +kernel
theorem d_XMe_isPacked_13 : decode b_XMe_isPacked 13 = .ok (.bipush 9, 2) := by decide +kernel
theorem d_XMe_isPacked_15 : decode b_XMe_isPacked 15 = .ok (.if_icmp .gt 16, 3) := by decide +kernel
theorem d_XMe_isPacked_18 : decode b_XMe_isPacked 18 = .ok (.iload_n 3, 1) := by decide +kernel
theorem d_XMe_isPacked_19 : decode b_XMe_isPacked 19 = .ok (.bipush 15, 2) := by decide +kernel
theorem d_XMe_isPacked_21 : decode b_XMe_isPacked 21 = .ok (.iand, 1) := by decide +kernel
theorem d_XMe_isPacked_22 : decode b_XMe_isPacked 22 = .ok (.bipush 10, 2) := by decide +kernel
theorem d_XMe_isPacked_24 : decode b_XMe_isPacked 24 = .ok (.if_icmp .lt 7, 3) := by decide +kernel
theorem d_XMe_isPacked_27 : decode b_XMe_isPacked 27 = .ok (.iconst 1, 1) := by decide +kernel
theorem d_XMe_isPacked_28 : decode b_XMe_isPacked 28 = .ok (.goto 4, 3) := by decide +kernel
theorem d_XMe_isPacked_31 : decode b_XMe_isPacked 31 = .ok (.iconst 0, 1) := by decide +kernel
theorem d_XMe_isPacked_32 : decode b_XMe_isPacked 32 = .ok (.istore 4, 2) := by decide +kernel
theorem d_XMe_isPacked_34 : decode b_XMe_isPacked 34 = .ok (.iconst 0, 1) := by decide +kernel
theorem d_XMe_isPacked_35 : decode b_XMe_isPacked 35 = .ok (.istore 5, 2) := by decide +kernel
theorem d_XMe_isPacked_37 : decode b_XMe_isPacked 37 = .ok (.iload 5, 2) := by decide +kernel
theorem d_XMe_isPacked_39 : decode b_XMe_isPacked 39 = .ok (.iload_n 2, 1) := by decide +kernel
theorem d_XMe_isPacked_40 : decode b_XMe_isPacked 40 = .ok (.iconst 1, 1) := by decide +kernel
theorem d_XMe_isPacked_41 : decode b_XMe_isPacked 41 = .ok (.isub, 1) := by decide +kernel
theorem d_XMe_isPacked_42 : decode b_XMe_isPacked 42 = .ok (.if_icmp .ge 50, 3) := by decide +kernel
theorem d_XMe_isPacked_45 : decode b_XMe_isPacked 45 = .ok (.aload_n 0, 1) := by decide +kernel
theorem d_XMe_isPacked_46 : decode b_XMe_isPacked 46 = .ok (.iload_n 1, 1) := by decide +kernel
theorem d_XMe_isPacked_47 : decode b_XMe_isPacked 47 = .ok (.iload 5, 2) := by decide +kernel
theorem d_XMe_isPacked_49 : decode b_XMe_isPacked 49 = .ok (.iadd, 1) := by decide +kernel
theorem d_XMe_isPacked_50 : decode b_XMe_isPacked 50 = .ok (.invokevirtual 19, 3) := by decide +kernel
theorem d_XMe_isPacked_53 : decode b_XMe_isPacked 53 = .ok (.istore 6, 2) := by decide +kernel
theorem d_XMe_isPacked_55 : decode b_XMe_isPacked 55 = .ok (.iload 4, 2) := by decide +kernel
theorem d_XMe_isPacked_57 : decode b_XMe_isPacked 57 = .ok (.ifCond .eq 26, 3) := by decide +kernel
theorem d_XMe_isPacked_60 : decode b_XMe_isPacked 60 = .ok (.iload 6, 2) := by decide +kernel
theorem d_XMe_isPacked_62 : decode b_XMe_isPacked 62 = .ok (.iconst 4, 1) := by decide +kernel
theorem d_XMe_isPacked_63 : decode b_XMe_isPacked 63 = .ok (.ishr, 1) := by decide +kernel
theorem d_XMe_isPacked_64 : decode b_XMe_isPacked 64 = .ok (.bipush 9, 2) := by decide +kernel
theorem d_XMe_isPacked_66 : decode b_XMe_isPacked 66 = .ok (.if_icmp .gt 17, 3) := by decide +kernel
theorem d_XMe_isPacked_69 : decode b_XMe_isPacked 69 = .ok (.iload 6, 2) := by decide +kernel
theorem d_XMe_isPacked_71 : decode b_XMe_isPacked 71 = .ok (.bipush 15, 2) := by decide +kernel
theorem d_XMe_isPacked_73 : decode b_XMe_isPacked 73 = .ok (.iand, 1) := by decide +kernel
theorem d_XMe_isPacked_74 : decode b_XMe_isPacked 74 = .ok (.bipush 9, 2) := by decide +kernel
theorem d_XMe_isPacked_76 : decode b_XMe_isPacked 76 = .ok (.if_icmp .gt 7, 3) := by decide +kernel
theorem d_XMe_isPacked_79 : decode b_XMe_isPacked 79 = .ok (.iconst 1, 1) := by decide +kernel
theorem d_XMe_isPacked_80 : decode b_XMe_isPacked 80 = .ok (.goto 4, 3) := by decide +kernel
theorem d_XMe_isPacked_83 : decode b_XMe_isPacked 83 = .ok (.iconst 0, 1) := by decide +kernel
theorem d_XMe_isPacked_84 : decode b_XMe_isPacked 84 = .ok (.istore 4, 2) := by decide +kernel
theorem d_XMe_isPacked_86 : decode b_XMe_isPacked 86 = .ok (.iinc 5 1, 3) := by decide +kernel
theorem d_XMe_isPacked_89 : decode b_XMe_isPacked 89 = .ok (.goto (-52), 3) := by decide +kernel
theorem d_XMe_isPacked_92 : decode b_XMe_isPacked 92 = .ok (.iload 4, 2) := by decide +kernel
theorem d_XMe_isPacked_94 : decode b_XMe_isPacked 94 = .ok (.ireturn, 1) := by decide +kernel
theorem d_XMe_isMinus_0 : decode b_XMe_isMinus 0 = .ok (.aload_n 0, 1) := by decide +kernel
theorem d_XMe_isMinus_1 : decode b_XMe_isMinus 1 = .ok (.iload_n 1, 1) := by decide +kernel
theorem d_XMe_isMinus_2 : decode b_XMe_isMinus 2 = .ok (.iload_n 2, 1) := by decide +kernel
theorem d_XMe_isMinus_3 : decode b_XMe_isMinus 3 = .ok (.iadd, 1) := by decide +kernel
theorem d_XMe_isMinus_4 : decode b_XMe_isMinus 4 = .ok (.iconst 1, 1) := by decide +kernel
theorem d_XMe_isMinus_5 : decode b_XMe_isMinus 5 = .ok (.isub, 1) := by decide +kernel
theorem d_XMe_isMinus_6 : decode b_XMe_isMinus 6 = .ok (.invokevirtual 19, 3) := by decide +kernel
theorem d_XMe_isMinus_9 : decode b_XMe_isMinus 9 = .ok (.bipush 15, 2) := by decide +kernel
theorem d_XMe_isMinus_11 : decode b_XMe_isMinus 11 = .ok (.iand, 1) := by decide +kernel
theorem d_XMe_isMinus_12 : decode b_XMe_isMinus 12 = .ok (.istore_n 3, 1) := by decide +kernel
theorem d_XMe_isMinus_13 : decode b_XMe_isMinus 13 = .ok (.iload_n 3, 1) := by decide +kernel
theorem d_XMe_isMinus_14 : decode b_XMe_isMinus 14 = .ok (.bipush 13, 2) := by decide +kernel
theorem d_XMe_isMinus_16 : decode b_XMe_isMinus 16 = .ok (.if_icmp .eq 9, 3) := by decide +kernel
theorem d_XMe_isMinus_19 : decode b_XMe_isMinus 19 = .ok (.iload_n 3, 1) := by decide +kernel
theorem d_XMe_isMinus_20 : decode b_XMe_isMinus 20 = .ok (.bipush 11, 2) := by decide +kernel
theorem d_XMe_isMinus_22 : decode b_XMe_isMinus 22 = .ok (.if_icmp .ne 7, 3) := by decide +kernel
theorem d_XMe_isMinus_25 : decode b_XMe_isMinus 25 = .ok (.iconst 1, 1) := by decide +kernel
theorem d_XMe_isMinus_26 : decode b_XMe_isMinus 26 = .ok (.goto 4, 3) := by decide +kernel
theorem d_XMe_isMinus_29 : decode b_XMe_isMinus 29 = .ok (.iconst 0, 1) := by decide +kernel
theorem d_XMe_isMinus_30 : decode b_XMe_isMinus 30 = .ok (.ireturn, 1) := by decide +kernel
theorem d_XMe_decimal_0 : decode b_XMe_decimal 0 = .ok (.lconst 0, 1) := by decide +kernel
theorem d_XMe_decimal_1 : decode b_XMe_decimal 1 = .ok (.lstore_n 3, 1) := by decide +kernel
theorem d_XMe_decimal_2 : decode b_XMe_decimal 2 = .ok (.iconst 0, 1) := by decide +kernel
theorem d_XMe_decimal_3 : decode b_XMe_decimal 3 = .ok (.istore 5, 2) := by decide +kernel
theorem d_XMe_decimal_5 : decode b_XMe_decimal 5 = .ok (.iload 5, 2) := by decide +kernel
theorem d_XMe_decimal_7 : decode b_XMe_decimal 7 = .ok (.iload_n 2, 1) := by decide +kernel
theorem d_XMe_decimal_8 : decode b_XMe_decimal 8 = .ok (.iconst 1, 1) := by decide +kernel
theorem d_XMe_decimal_9 : decode b_XMe_decimal 9 = .ok (.isub, 1) := by decide +kernel
theorem d_XMe_decimal_10 : decode b_XMe_decimal 10 = .ok (.if_icmp .ge 41, 3) := by decide +kernel
theorem d_XMe_decimal_13 : decode b_XMe_decimal 13 = .ok (.aload_n 0, 1) := by decide +kernel
theorem d_XMe_decimal_14 : decode b_XMe_decimal 14 = .ok (.iload_n 1, 1) := by decide +kernel
theorem d_XMe_decimal_15 : decode b_XMe_decimal 15 = .ok (.iload 5, 2) := by decide +kernel
theorem d_XMe_decimal_17 : decode b_XMe_decimal 17 = .ok (.iadd, 1) := by decide +kernel
theorem d_XMe_decimal_18 : decode b_XMe_decimal 18 = .ok (.invokevirtual 19, 3) := by decide +kernel
theorem d_XMe_decimal_21 : decode b_XMe_decimal 21 = .ok (.istore 6, 2) := by decide +kernel
theorem d_XMe_decimal_23 : decode b_XMe_decimal 23 = .ok (.lload_n 3, 1) := by decide +kernel
theorem d_XMe_decimal_24 : decode b_XMe_decimal 24 = .ok (.ldc2_w 29, 3) := by decide +kernel
theorem d_XMe_decimal_27 : decode b_XMe_decimal 27 = .ok (.lmul, 1) := by decide +kernel
theorem d_XMe_decimal_28 : decode b_XMe_decimal 28 = .ok (.iload 6, 2) := by decide +kernel
theorem d_XMe_decimal_30 : decode b_XMe_decimal 30 = .ok (.iconst 4, 1) := by decide +kernel
theorem d_XMe_decimal_31 : decode b_XMe_decimal 31 = .ok (.ishr, 1) := by decide +kernel
theorem d_XMe_decimal_32 : decode b_XMe_decimal 32 = .ok (.bipush 10, 2) := by decide +kernel
theorem d_XMe_decimal_34 : decode b_XMe_decimal 34 = .ok (.imul, 1) := by decide +kernel
theorem d_XMe_decimal_35 : decode b_XMe_decimal 35 = .ok (.i2l, 1) := by decide +kernel
theorem d_XMe_decimal_36 : decode b_XMe_decimal 36 = .ok (.ladd, 1) := by decide +kernel
theorem d_XMe_decimal_37 : decode b_XMe_decimal 37 = .ok (.iload 6, 2) := by decide +kernel
theorem d_XMe_decimal_39 : decode b_XMe_decimal 39 = .ok (.bipush 15, 2) := by decide +kernel
theorem d_XMe_decimal_41 : decode b_XMe_decimal 41 = .ok (.iand, 1) := by decide +kernel
theorem d_XMe_decimal_42 : decode b_XMe_decimal 42 = .ok (.i2l, 1) := by decide +kernel
theorem d_XMe_decimal_43 : decode b_XMe_decimal 43 = .ok (.ladd, 1) := by decide +kernel
theorem d_XMe_decimal_44 : decode b_XMe_decimal 44 = .ok (.lstore_n 3, 1) := by decide +kernel
theorem d_XMe_decimal_45 : decode b_XMe_decimal 45 = .ok (.iinc 5 1, 3) := by decide +kernel
theorem d_XMe_decimal_48 : decode b_XMe_decimal 48 = .ok (.goto (-43), 3) := by decide +kernel
theorem d_XMe_decimal_51 : decode b_XMe_decimal 51 = .ok (.lload_n 3, 1) := by decide +kernel
theorem d_XMe_decimal_52 : decode b_XMe_decimal 52 = .ok (.ldc2_w 31, 3) := by decide +kernel
theorem d_XMe_decimal_55 : decode b_XMe_decimal 55 = .ok (.lmul, 1) := by decide +kernel
theorem d_XMe_decimal_56 : decode b_XMe_decimal 56 = .ok (.aload_n 0, 1) := by decide +kernel
theorem d_XMe_decimal_57 : decode b_XMe_decimal 57 = .ok (.iload_n 1, 1) := by decide +kernel
theorem d_XMe_decimal_58 : decode b_XMe_decimal 58 = .ok (.iload_n 2, 1) := by decide +kernel
theorem d_XMe_decimal_59 : decode b_XMe_decimal 59 = .ok (.iadd, 1) := by decide +kernel
theorem d_XMe_decimal_60 : decode b_XMe_decimal 60 = .ok (.iconst 1, 1) := by decide +kernel
theorem d_XMe_decimal_61 : decode b_XMe_decimal 61 = .ok (.isub, 1) := by decide +kernel
theorem d_XMe_decimal_62 : decode b_XMe_decimal 62 = .ok (.invokevirtual 19, 3) := by decide +kernel
theorem d_XMe_decimal_65 : decode b_XMe_decimal 65 = .ok (.iconst 4, 1) := by decide +kernel
theorem d_XMe_decimal_66 : decode b_XMe_decimal 66 = .ok (.ishr, 1) := by decide +kernel
theorem d_XMe_decimal_67 : decode b_XMe_decimal 67 = .ok (.i2l, 1) := by decide +kernel
theorem d_XMe_decimal_68 : decode b_XMe_decimal 68 = .ok (.ladd, 1) := by decide +kernel
theorem d_XMe_decimal_69 : decode b_XMe_decimal 69 = .ok (.lstore_n 3, 1) := by decide +kernel
theorem d_XMe_decimal_70 : decode b_XMe_decimal 70 = .ok (.aload_n 0, 1) := by decide +kernel
theorem d_XMe_decimal_71 : decode b_XMe_decimal 71 = .ok (.iload_n 1, 1) := by decide +kernel
theorem d_XMe_decimal_72 : decode b_XMe_decimal 72 = .ok (.iload_n 2, 1) := by decide +kernel
end
section
theorem d_XMe_decimal_73 : decode b_XMe_decimal 73 = .ok (.invokevirtual 33, 3) := by decide +kernel
theorem d_XMe_decimal_76 : decode b_XMe_decimal 76 = .ok (.ifCond .eq 8, 3) := by decide +kernel
theorem d_XMe_decimal_79 : decode b_XMe_decimal 79 = .ok (.lload_n 3, 1) := by decide +kernel
theorem d_XMe_decimal_80 : decode b_XMe_decimal 80 = .ok (.lneg, 1) := by decide +kernel
theorem d_XMe_decimal_81 : decode b_XMe_decimal 81 = .ok (.goto 4, 3) := by decide +kernel
theorem d_XMe_decimal_84 : decode b_XMe_decimal 84 = .ok (.lload_n 3, 1) := by decide +kernel
theorem d_XMe_decimal_85 : decode b_XMe_decimal 85 = .ok (.lreturn, 1) := by decide +kernel
theorem d_XDe_convertToBinary_0 : decode b_XDe_convertToBinary 0 = .ok (.aload_n 0, 1) := by decide +kernel
theorem d_XDe_convertToBinary_1 : decode b_XDe_convertToBinary 1 = .ok (.getfield 25, 3) := by decide +kernel
theorem d_XDe_convertToBinary_4 : decode b_XDe_convertToBinary 4 = .ok (.aload_n 1, 1) := by decide +kernel
theorem d_XDe_convertToBinary_5 : decode b_XDe_convertToBinary 5 = .ok (.getfield 26, 3) := by decide +kernel
theorem d_XDe_convertToBinary_8 : decode b_XDe_convertToBinary 8 = .ok (.bipush 8, 2) := by decide +kernel
theorem d_XDe_convertToBinary_10 : decode b_XDe_convertToBinary 10 = .ok (.invokevirtual 62, 3) := by decide +kernel
theorem d_XDe_convertToBinary_13 : decode b_XDe_convertToBinary 13 = .ok (.ifCond .ne 6, 3) := by decide +kernel
theorem d_XDe_convertToBinary_16 : decode b_XDe_convertToBinary 16 = .ok (.bipush 7, 2) := by decide +kernel
theorem d_XDe_convertToBinary_18 : decode b_XDe_convertToBinary 18 = .ok (.ireturn, 1) := by decide +kernel
theorem d_XDe_convertToBinary_19 : decode b_XDe_convertToBinary 19 = .ok (.aload_n 0, 1) := by decide +kernel
theorem d_XDe_convertToBinary_20 : decode b_XDe_convertToBinary 20 = .ok (.getfield 25, 3) := by decide +kernel
theorem d_XDe_convertToBinary_23 : decode b_XDe_convertToBinary 23 = .ok (.aload_n 1, 1) := by decide +kernel
theorem d_XDe_convertToBinary_24 : decode b_XDe_convertToBinary 24 = .ok (.getfield 26, 3) := by decide +kernel
theorem d_XDe_convertToBinary_27 : decode b_XDe_convertToBinary 27 = .ok (.bipush 8, 2) := by decide +kernel
theorem d_XDe_convertToBinary_29 : decode b_XDe_convertToBinary 29 = .ok (.invokevirtual 66, 3) := by decide +kernel
theorem d_XDe_convertToBinary_32 : decode b_XDe_convertToBinary 32 = .ok (.lstore_n 2, 1) := by decide +kernel
theorem d_XDe_convertToBinary_33 : decode b_XDe_convertToBinary 33 = .ok (.lload_n 2, 1) := by decide +kernel
theorem d_XDe_convertToBinary_34 : decode b_XDe_convertToBinary 34 = .ok (.lload_n 2, 1) := by decide +kernel
theorem d_XDe_convertToBinary_35 : decode b_XDe_convertToBinary 35 = .ok (.l2i, 1) := by decide +kernel
theorem d_XDe_convertToBinary_36 : decode b_XDe_convertToBinary 36 = .ok (.i2l, 1) := by decide +kernel
theorem d_XDe_convertToBinary_37 : decode b_XDe_convertToBinary 37 = .ok (.lcmp, 1) := by decide +kernel
theorem d_XDe_convertToBinary_38 : decode b_XDe_convertToBinary 38 = .ok (.ifCond .eq 6, 3) := by decide +kernel
theorem d_XDe_convertToBinary_41 : decode b_XDe_convertToBinary 41 = .ok (.bipush 9, 2) := by decide +kernel
theorem d_XDe_convertToBinary_43 : decode b_XDe_convertToBinary 43 = .ok (.ireturn, 1) := by decide +kernel
theorem d_XDe_convertToBinary_44 : decode b_XDe_convertToBinary 44 = .ok (.aload_n 0, 1) := by decide +kernel
theorem d_XDe_convertToBinary_45 : decode b_XDe_convertToBinary 45 = .ok (.getfield 15, 3) := by decide +kernel
theorem d_XDe_convertToBinary_48 : decode b_XDe_convertToBinary 48 = .ok (.aload_n 1, 1) := by decide +kernel
theorem d_XDe_convertToBinary_49 : decode b_XDe_convertToBinary 49 = .ok (.getfield 41, 3) := by decide +kernel
theorem d_XDe_convertToBinary_52 : decode b_XDe_convertToBinary 52 = .ok (.lload_n 2, 1) := by decide +kernel
theorem d_XDe_convertToBinary_53 : decode b_XDe_convertToBinary 53 = .ok (.l2i, 1) := by decide +kernel
theorem d_XDe_convertToBinary_54 : decode b_XDe_convertToBinary 54 = .ok (.invokevirtual 70, 3) := by decide +kernel
theorem d_XDe_convertToBinary_57 : decode b_XDe_convertToBinary 57 = .ok (.iconst 0, 1) := by decide +kernel
theorem d_XDe_convertToBinary_58 : decode b_XDe_convertToBinary 58 = .ok (.ireturn, 1) := by decide +kernel
theorem d_XDe_convert_0 : decode b_XDe_convert 0 = .ok (.aload_n 0, 1) := by decide +kernel
theorem d_XDe_convert_1 : decode b_XDe_convert 1 = .ok (.getfield 25, 3) := by decide +kernel
theorem d_XDe_convert_4 : decode b_XDe_convert 4 = .ok (.aload_n 1, 1) := by decide +kernel
theorem d_XDe_convert_5 : decode b_XDe_convert 5 = .ok (.getfield 26, 3) := by decide +kernel
theorem d_XDe_convert_8 : decode b_XDe_convert 8 = .ok (.bipush 8, 2) := by decide +kernel
theorem d_XDe_convert_10 : decode b_XDe_convert 10 = .ok (.invokevirtual 32, 3) := by decide +kernel
theorem d_XDe_convert_13 : decode b_XDe_convert 13 = .ok (.istore_n 2, 1) := by decide +kernel
theorem d_XDe_convert_14 : decode b_XDe_convert 14 = .ok (.iload_n 2, 1) := by decide +kernel
theorem d_XDe_convert_15 : decode b_XDe_convert 15 = .ok (.ifCond .eq 5, 3) := by decide +kernel
theorem d_XDe_convert_18 : decode b_XDe_convert 18 = .ok (.iload_n 2, 1) := by decide +kernel
theorem d_XDe_convert_19 : decode b_XDe_convert 19 = .ok (.ireturn, 1) := by decide +kernel
theorem d_XDe_convert_20 : decode b_XDe_convert 20 = .ok (.aload_n 1, 1) := by decide +kernel
theorem d_XDe_convert_21 : decode b_XDe_convert 21 = .ok (.getfield 38, 3) := by decide +kernel
theorem d_XDe_convert_24 : decode b_XDe_convert 24 = .ok (.bipush 78, 2) := by decide +kernel
theorem d_XDe_convert_26 : decode b_XDe_convert 26 = .ok (.if_icmp .ne 46, 3) := by decide +kernel
theorem d_XDe_convert_29 : decode b_XDe_convert 29 = .ok (.aload_n 0, 1) := by decide +kernel
theorem d_XDe_convert_30 : decode b_XDe_convert 30 = .ok (.getfield 15, 3) := by decide +kernel
theorem d_XDe_convert_33 : decode b_XDe_convert 33 = .ok (.aload_n 1, 1) := by decide +kernel
theorem d_XDe_convert_34 : decode b_XDe_convert 34 = .ok (.getfield 41, 3) := by decide +kernel
theorem d_XDe_convert_37 : decode b_XDe_convert 37 = .ok (.invokevirtual 44, 3) := by decide +kernel
theorem d_XDe_convert_40 : decode b_XDe_convert 40 = .ok (.i2l, 1) := by decide +kernel
theorem d_XDe_convert_41 : decode b_XDe_convert 41 = .ok (.lstore_n 3, 1) := by decide +kernel
theorem d_XDe_convert_42 : decode b_XDe_convert 42 = .ok (.aload_n 0, 1) := by decide +kernel
theorem d_XDe_convert_43 : decode b_XDe_convert 43 = .ok (.getfield 25, 3) := by decide +kernel
theorem d_XDe_convert_46 : decode b_XDe_convert 46 = .ok (.aload_n 1, 1) := by decide +kernel
theorem d_XDe_convert_47 : decode b_XDe_convert 47 = .ok (.getfield 26, 3) := by decide +kernel
theorem d_XDe_convert_50 : decode b_XDe_convert 50 = .ok (.bipush 8, 2) := by decide +kernel
theorem d_XDe_convert_52 : decode b_XDe_convert 52 = .ok (.lload_n 3, 1) := by decide +kernel
theorem d_XDe_convert_53 : decode b_XDe_convert 53 = .ok (.invokestatic 48, 3) := by decide +kernel
theorem d_XDe_convert_56 : decode b_XDe_convert 56 = .ok (.lload_n 3, 1) := by decide +kernel
theorem d_XDe_convert_57 : decode b_XDe_convert 57 = .ok (.lconst 0, 1) := by decide +kernel
theorem d_XDe_convert_58 : decode b_XDe_convert 58 = .ok (.lcmp, 1) := by decide +kernel
theorem d_XDe_convert_59 : decode b_XDe_convert 59 = .ok (.ifCond .ge 7, 3) := by decide +kernel
theorem d_XDe_convert_62 : decode b_XDe_convert 62 = .ok (.iconst 1, 1) := by decide +kernel
theorem d_XDe_convert_63 : decode b_XDe_convert 63 = .ok (.goto 4, 3) := by decide +kernel
theorem d_XDe_convert_66 : decode b_XDe_convert 66 = .ok (.iconst 0, 1) := by decide +kernel
theorem d_XDe_convert_67 : decode b_XDe_convert 67 = .ok (.invokevirtual 54, 3) := by decide +kernel
theorem d_XDe_convert_70 : decode b_XDe_convert 70 = .ok (.iconst 0, 1) := by decide +kernel
theorem d_XDe_convert_71 : decode b_XDe_convert 71 = .ok (.ireturn, 1) := by decide +kernel
theorem d_XDe_convert_72 : decode b_XDe_convert 72 = .ok (.aload_n 0, 1) := by decide +kernel
theorem d_XDe_convert_73 : decode b_XDe_convert 73 = .ok (.aload_n 1, 1) := by decide +kernel
theorem d_XDe_convert_74 : decode b_XDe_convert 74 = .ok (.invokevirtual 58, 3) := by decide +kernel
theorem d_XDe_convert_77 : decode b_XDe_convert 77 = .ok (.ireturn, 1) := by decide +kernel
theorem d_XDe_sourceOctet_0 : decode b_XDe_sourceOctet 0 = .ok (.iload_n 1, 1) := by decide +kernel
theorem d_XDe_sourceOctet_1 : decode b_XDe_sourceOctet 1 = .ok (.ifCond .lt 21, 3) := by decide +kernel
theorem d_XDe_sourceOctet_4 : decode b_XDe_sourceOctet 4 = .ok (.iload_n 1, 1) := by decide +kernel
theorem d_XDe_sourceOctet_5 : decode b_XDe_sourceOctet 5 = .ok (.aload_n 0, 1) := by decide +kernel
theorem d_XDe_sourceOctet_6 : decode b_XDe_sourceOctet 6 = .ok (.getfield 9, 3) := by decide +kernel
theorem d_XDe_sourceOctet_9 : decode b_XDe_sourceOctet 9 = .ok (.arraylength, 1) := by decide +kernel
theorem d_XDe_sourceOctet_10 : decode b_XDe_sourceOctet 10 = .ok (.if_icmp .ge 12, 3) := by decide +kernel
theorem d_XDe_sourceOctet_13 : decode b_XDe_sourceOctet 13 = .ok (.aload_n 0, 1) := by decide +kernel
theorem d_XDe_sourceOctet_14 : decode b_XDe_sourceOctet 14 = .ok (.getfield 9, 3) := by decide +kernel
theorem d_XDe_sourceOctet_17 : decode b_XDe_sourceOctet 17 = .ok (.iload_n 1, 1) := by decide +kernel
theorem d_XDe_sourceOctet_18 : decode b_XDe_sourceOctet 18 = .ok (.iaload, 1) := by decide +kernel
theorem d_XDe_sourceOctet_19 : decode b_XDe_sourceOctet 19 = .ok (.goto 4, 3) := by decide +kernel
theorem d_XDe_sourceOctet_22 : decode b_XDe_sourceOctet 22 = .ok (.iconst 0, 1) := by decide +kernel
theorem d_XDe_sourceOctet_23 : decode b_XDe_sourceOctet 23 = .ok (.ireturn, 1) := by decide +kernel
theorem d_XDe_packRest_0 : decode b_XDe_packRest 0 = .ok (.iload_n 3, 1) := by decide +kernel
theorem d_XDe_packRest_1 : decode b_XDe_packRest 1 = .ok (.iconst 2, 1) := by decide +kernel
theorem d_XDe_packRest_2 : decode b_XDe_packRest 2 = .ok (.isub, 1) := by decide +kernel
theorem d_XDe_packRest_3 : decode b_XDe_packRest 3 = .ok (.istore 4, 2) := by decide +kernel
theorem d_XDe_packRest_5 : decode b_XDe_packRest 5 = .ok (.iload_n 2, 1) := by decide +kernel
theorem d_XDe_packRest_6 : decode b_XDe_packRest 6 = .ok (.iconst 2, 1) := by decide +kernel
theorem d_XDe_packRest_7 : decode b_XDe_packRest 7 = .ok (.isub, 1) := by decide +kernel
theorem d_XDe_packRest_8 : decode b_XDe_packRest 8 = .ok (.istore 5, 2) := by decide +kernel
theorem d_XDe_packRest_10 : decode b_XDe_packRest 10 = .ok (.iload 5, 2) := by decide +kernel
theorem d_XDe_packRest_12 : decode b_XDe_packRest 12 = .ok (.ifCond .lt 57, 3) := by decide +kernel
theorem d_XDe_packRest_15 : decode b_XDe_packRest 15 = .ok (.aload_n 0, 1) := by decide +kernel
theorem d_XDe_packRest_16 : decode b_XDe_packRest 16 = .ok (.iload 4, 2) := by decide +kernel
theorem d_XDe_packRest_18 : decode b_XDe_packRest 18 = .ok (.invokevirtual 86, 3) := by decide +kernel
theorem d_XDe_packRest_21 : decode b_XDe_packRest 21 = .ok (.bipush 15, 2) := by decide +kernel
theorem d_XDe_packRest_23 : decode b_XDe_packRest 23 = .ok (.iand, 1) := by decide +kernel
theorem d_XDe_packRest_24 : decode b_XDe_packRest 24 = .ok (.istore 6, 2) := by decide +kernel
theorem d_XDe_packRest_26 : decode b_XDe_packRest 26 = .ok (.aload_n 0, 1) := by decide +kernel
theorem d_XDe_packRest_27 : decode b_XDe_packRest 27 = .ok (.iload 4, 2) := by decide +kernel
theorem d_XDe_packRest_29 : decode b_XDe_packRest 29 = .ok (.iconst 1, 1) := by decide +kernel
theorem d_XDe_packRest_30 : decode b_XDe_packRest 30 = .ok (.isub, 1) := by decide +kernel
theorem d_XDe_packRest_31 : decode b_XDe_packRest 31 = .ok (.invokevirtual 86, 3) := by decide +kernel
theorem d_XDe_packRest_34 : decode b_XDe_packRest 34 = .ok (.bipush 15, 2) := by decide +kernel
theorem d_XDe_packRest_36 : decode b_XDe_packRest 36 = .ok (.iand, 1) := by decide +kernel
theorem d_XDe_packRest_37 : decode b_XDe_packRest 37 = .ok (.istore 7, 2) := by decide +kernel
theorem d_XDe_packRest_39 : decode b_XDe_packRest 39 = .ok (.aload_n 0, 1) := by decide +kernel
theorem d_XDe_packRest_40 : decode b_XDe_packRest 40 = .ok (.getfield 25, 3) := by decide +kernel
theorem d_XDe_packRest_43 : decode b_XDe_packRest 43 = .ok (.iload_n 1, 1) := by decide +kernel
theorem d_XDe_packRest_44 : decode b_XDe_packRest 44 = .ok (.iload 5, 2) := by decide +kernel
theorem d_XDe_packRest_46 : decode b_XDe_packRest 46 = .ok (.iadd, 1) := by decide +kernel
theorem d_XDe_packRest_47 : decode b_XDe_packRest 47 = .ok (.iload 7, 2) := by decide +kernel
theorem d_XDe_packRest_49 : decode b_XDe_packRest 49 = .ok (.iconst 4, 1) := by decide +kernel
theorem d_XDe_packRest_50 : decode b_XDe_packRest 50 = .ok (.ishl, 1) := by decide +kernel
theorem d_XDe_packRest_51 : decode b_XDe_packRest 51 = .ok (.iload 6, 2) := by decide +kernel
theorem d_XDe_packRest_53 : decode b_XDe_packRest 53 = .ok (.ior, 1) := by decide +kernel
theorem d_XDe_packRest_54 : decode b_XDe_packRest 54 = .ok (.invokevirtual 89, 3) := by decide +kernel
theorem d_XDe_packRest_57 : decode b_XDe_packRest 57 = .ok (.iload 4, 2) := by decide +kernel
theorem d_XDe_packRest_59 : decode b_XDe_packRest 59 = .ok (.iconst 2, 1) := by decide +kernel
theorem d_XDe_packRest_60 : decode b_XDe_packRest 60 = .ok (.isub, 1) := by decide +kernel
theorem d_XDe_packRest_61 : decode b_XDe_packRest 61 = .ok (.istore 4, 2) := by decide +kernel
theorem d_XDe_packRest_63 : decode b_XDe_packRest 63 = .ok (.iinc 5 (-1), 3) := by decide +kernel
theorem d_XDe_packRest_66 : decode b_XDe_packRest 66 = .ok (.goto (-56), 3) := by decide +kernel
theorem d_XDe_packRest_69 : decode b_XDe_packRest 69 = .ok (.return_, 1) := by decide +kernel
theorem d_XDe_unpackRest_0 : decode b_XDe_unpackRest 0 = .ok (.iconst 0, 1) := by decide +kernel
theorem d_XDe_unpackRest_1 : decode b_XDe_unpackRest 1 = .ok (.istore 4, 2) := by decide +kernel
theorem d_XDe_unpackRest_3 : decode b_XDe_unpackRest 3 = .ok (.iload 4, 2) := by decide +kernel
theorem d_XDe_unpackRest_5 : decode b_XDe_unpackRest 5 = .ok (.iload_n 2, 1) := by decide +kernel
theorem d_XDe_unpackRest_6 : decode b_XDe_unpackRest 6 = .ok (.iconst 1, 1) := by decide +kernel
theorem d_XDe_unpackRest_7 : decode b_XDe_unpackRest 7 = .ok (.isub, 1) := by decide +kernel
theorem d_XDe_unpackRest_8 : decode b_XDe_unpackRest 8 = .ok (.if_icmp .ge 65, 3) := by decide +kernel
theorem d_XDe_unpackRest_11 : decode b_XDe_unpackRest 11 = .ok (.aload_n 0, 1) := by decide +kernel
theorem d_XDe_unpackRest_12 : decode b_XDe_unpackRest 12 = .ok (.iload_n 3, 1) := by decide +kernel
theorem d_XDe_unpackRest_13 : decode b_XDe_unpackRest 13 = .ok (.iconst 2, 1) := by decide +kernel
theorem d_XDe_unpackRest_14 : decode b_XDe_unpackRest 14 = .ok (.isub, 1) := by decide +kernel
theorem d_XDe_unpackRest_15 : decode b_XDe_unpackRest 15 = .ok (.iload 4, 2) := by decide +kernel
theorem d_XDe_unpackRest_17 : decode b_XDe_unpackRest 17 = .ok (.iconst 2, 1) := by decide +kernel
theorem d_XDe_unpackRest_18 : decode b_XDe_unpackRest 18 = .ok (.idiv, 1) := by decide +kernel
theorem d_XDe_unpackRest_19 : decode b_XDe_unpackRest 19 = .ok (.isub, 1) := by decide +kernel
theorem d_XDe_unpackRest_20 : decode b_XDe_unpackRest 20 = .ok (.invokevirtual 86, 3) := by decide +kernel
theorem d_XDe_unpackRest_23 : decode b_XDe_unpackRest 23 = .ok (.istore 5, 2) := by decide +kernel
theorem d_XDe_unpackRest_25 : decode b_XDe_unpackRest 25 = .ok (.iload 4, 2) := by decide +kernel
theorem d_XDe_unpackRest_27 : decode b_XDe_unpackRest 27 = .ok (.iconst 2, 1) := by decide +kernel
theorem d_XDe_unpackRest_28 : decode b_XDe_unpackRest 28 = .ok (.irem, 1) := by decide +kernel
theorem d_XDe_unpackRest_29 : decode b_XDe_unpackRest 29 = .ok (.ifCond .ne 11, 3) := by decide +kernel
theorem d_XDe_unpackRest_32 : decode b_XDe_unpackRest 32 = .ok (.iload 5, 2) := by decide +kernel
theorem d_XDe_unpackRest_34 : decode b_XDe_unpackRest 34 = .ok (.bipush 15, 2) := by decide +kernel
theorem d_XDe_unpackRest_36 : decode b_XDe_unpackRest 36 = .ok (.iand, 1) := by decide +kernel
theorem d_XDe_unpackRest_37 : decode b_XDe_unpackRest 37 = .ok (.goto 7, 3) := by decide +kernel
theorem d_XDe_unpackRest_40 : decode b_XDe_unpackRest 40 = .ok (.iload 5, 2) := by decide +kernel
theorem d_XDe_unpackRest_42 : decode b_XDe_unpackRest 42 = .ok (.iconst 4, 1) := by decide +kernel
theorem d_XDe_unpackRest_43 : decode b_XDe_unpackRest 43 = .ok (.ishr, 1) := by decide +kernel
theorem d_XDe_unpackRest_44 : decode b_XDe_unpackRest 44 = .ok (.istore 6, 2) := by decide +kernel
theorem d_XDe_unpackRest_46 : decode b_XDe_unpackRest 46 = .ok (.aload_n 0, 1) := by decide +kernel
theorem d_XDe_unpackRest_47 : decode b_XDe_unpackRest 47 = .ok (.getfield 25, 3) := by decide +kernel
theorem d_XDe_unpackRest_50 : decode b_XDe_unpackRest 50 = .ok (.iload_n 1, 1) := by decide +kernel
theorem d_XDe_unpackRest_51 : decode b_XDe_unpackRest 51 = .ok (.iload_n 2, 1) := by decide +kernel
theorem d_XDe_unpackRest_52 : decode b_XDe_unpackRest 52 = .ok (.iadd, 1) := by decide +kernel
theorem d_XDe_unpackRest_53 : decode b_XDe_unpackRest 53 = .ok (.iconst 2, 1) := by decide +kernel
theorem d_XDe_unpackRest_54 : decode b_XDe_unpackRest 54 = .ok (.isub, 1) := by decide +kernel
theorem d_XDe_unpackRest_55 : decode b_XDe_unpackRest 55 = .ok (.iload 4, 2) := by decide +kernel
theorem d_XDe_unpackRest_57 : decode b_XDe_unpackRest 57 = .ok (.isub, 1) := by decide +kernel
theorem d_XDe_unpackRest_58 : decode b_XDe_unpackRest 58 = .ok (.sipush 240, 3) := by decide +kernel
theorem d_XDe_unpackRest_61 : decode b_XDe_unpackRest 61 = .ok (.iload 6, 2) := by decide +kernel
theorem d_XDe_unpackRest_63 : decode b_XDe_unpackRest 63 = .ok (.ior, 1) := by decide +kernel
theorem d_XDe_unpackRest_64 : decode b_XDe_unpackRest 64 = .ok (.invokevirtual 89, 3) := by decide +kernel
theorem d_XDe_unpackRest_67 : decode b_XDe_unpackRest 67 = .ok (.iinc 4 1, 3) := by decide +kernel
theorem d_XDe_unpackRest_70 : decode b_XDe_unpackRest 70 = .ok (.goto (-67), 3) := by decide +kernel
theorem d_XDe_unpackRest_73 : decode b_XDe_unpackRest 73 = .ok (.return_, 1) := by decide +kernel
theorem d_XDe_changeForm_0 : decode b_XDe_changeForm 0 = .ok (.aload_n 1, 1) := by decide +kernel
theorem d_XDe_changeForm_1 : decode b_XDe_changeForm 1 = .ok (.getfield 41, 3) := by decide +kernel
theorem d_XDe_changeForm_4 : decode b_XDe_changeForm 4 = .ok (.iconst 1, 1) := by decide +kernel
theorem d_XDe_changeForm_5 : decode b_XDe_changeForm 5 = .ok (.iadd, 1) := by decide +kernel
theorem d_XDe_changeForm_6 : decode b_XDe_changeForm 6 = .ok (.istore_n 2, 1) := by decide +kernel
theorem d_XDe_changeForm_7 : decode b_XDe_changeForm 7 = .ok (.aload_n 1, 1) := by decide +kernel
theorem d_XDe_changeForm_8 : decode b_XDe_changeForm 8 = .ok (.getfield 74, 3) := by decide +kernel
theorem d_XDe_changeForm_11 : decode b_XDe_changeForm 11 = .ok (.iconst 1, 1) := by decide +kernel
theorem d_XDe_changeForm_12 : decode b_XDe_changeForm 12 = .ok (.iadd, 1) := by decide +kernel
theorem d_XDe_changeForm_13 : decode b_XDe_changeForm 13 = .ok (.istore_n 3, 1) := by decide +kernel
theorem d_XDe_changeForm_14 : decode b_XDe_changeForm 14 = .ok (.aload_n 0, 1) := by decide +kernel
theorem d_XDe_changeForm_15 : decode b_XDe_changeForm 15 = .ok (.getfield 25, 3) := by decide +kernel
theorem d_XDe_changeForm_18 : decode b_XDe_changeForm 18 = .ok (.aload_n 1, 1) := by decide +kernel
theorem d_XDe_changeForm_19 : decode b_XDe_changeForm 19 = .ok (.getfield 77, 3) := by decide +kernel
theorem d_XDe_changeForm_22 : decode b_XDe_changeForm 22 = .ok (.iload_n 2, 1) := by decide +kernel
theorem d_XDe_changeForm_23 : decode b_XDe_changeForm 23 = .ok (.invokevirtual 80, 3) := by decide +kernel
theorem d_XDe_changeForm_26 : decode b_XDe_changeForm 26 = .ok (.ifCond .eq 18, 3) := by decide +kernel
theorem d_XDe_changeForm_29 : decode b_XDe_changeForm 29 = .ok (.aload_n 0, 1) := by decide +kernel
theorem d_XDe_changeForm_30 : decode b_XDe_changeForm 30 = .ok (.getfield 25, 3) := by decide +kernel
theorem d_XDe_changeForm_33 : decode b_XDe_changeForm 33 = .ok (.aload_n 1, 1) := by decide +kernel
theorem d_XDe_changeForm_34 : decode b_XDe_changeForm 34 = .ok (.getfield 26, 3) := by decide +kernel
theorem d_XDe_changeForm_37 : decode b_XDe_changeForm 37 = .ok (.iload_n 3, 1) := by decide +kernel
theorem d_XDe_changeForm_38 : decode b_XDe_changeForm 38 = .ok (.invokevirtual 80, 3) := by decide +kernel
theorem d_XDe_changeForm_41 : decode b_XDe_changeForm 41 = .ok (.ifCond .ne 5, 3) := by decide +kernel
theorem d_XDe_changeForm_44 : decode b_XDe_changeForm 44 = .ok (.iconst 5, 1) := by decide +kernel
theorem d_XDe_changeForm_45 : decode b_XDe_changeForm 45 = .ok (.ireturn, 1) := by decide +kernel
theorem d_XDe_changeForm_46 : decode b_XDe_changeForm 46 = .ok (.iconst 0, 1) := by decide +kernel
theorem d_XDe_changeForm_47 : decode b_XDe_changeForm 47 = .ok (.istore 4, 2) := by decide +kernel
theorem d_XDe_changeForm_49 : decode b_XDe_changeForm 49 = .ok (.iload 4, 2) := by decide +kernel
theorem d_XDe_changeForm_51 : decode b_XDe_changeForm 51 = .ok (.iload_n 3, 1) := by decide +kernel
theorem d_XDe_changeForm_52 : decode b_XDe_changeForm 52 = .ok (.if_icmp .ge 40, 3) := by decide +kernel
theorem d_XDe_changeForm_55 : decode b_XDe_changeForm 55 = .ok (.iload 4, 2) := by decide +kernel
theorem d_XDe_changeForm_57 : decode b_XDe_changeForm 57 = .ok (.aload_n 0, 1) := by decide +kernel
theorem d_XDe_changeForm_58 : decode b_XDe_changeForm 58 = .ok (.getfield 9, 3) := by decide +kernel
theorem d_XDe_changeForm_61 : decode b_XDe_changeForm 61 = .ok (.arraylength, 1) := by decide +kernel
theorem d_XDe_changeForm_62 : decode b_XDe_changeForm 62 = .ok (.if_icmp .ge 30, 3) := by decide +kernel
theorem d_XDe_changeForm_65 : decode b_XDe_changeForm 65 = .ok (.aload_n 0, 1) := by decide +kernel
theorem d_XDe_changeForm_66 : decode b_XDe_changeForm 66 = .ok (.getfield 9, 3) := by decide +kernel
theorem d_XDe_changeForm_69 : decode b_XDe_changeForm 69 = .ok (.iload 4, 2) := by decide +kernel
theorem d_XDe_changeForm_71 : decode b_XDe_changeForm 71 = .ok (.aload_n 0, 1) := by decide +kernel
theorem d_XDe_changeForm_72 : decode b_XDe_changeForm 72 = .ok (.getfield 25, 3) := by decide +kernel
theorem d_XDe_changeForm_75 : decode b_XDe_changeForm 75 = .ok (.aload_n 1, 1) := by decide +kernel
theorem d_XDe_changeForm_76 : decode b_XDe_changeForm 76 = .ok (.getfield 26, 3) := by decide +kernel
theorem d_XDe_changeForm_79 : decode b_XDe_changeForm 79 = .ok (.iload 4, 2) := by decide +kernel
theorem d_XDe_changeForm_81 : decode b_XDe_changeForm 81 = .ok (.iadd, 1) := by decide +kernel
theorem d_XDe_changeForm_82 : decode b_XDe_changeForm 82 = .ok (.invokevirtual 83, 3) := by decide +kernel
theorem d_XDe_changeForm_85 : decode b_XDe_changeForm 85 = .ok (.iastore, 1) := by decide +kernel
theorem d_XDe_changeForm_86 : decode b_XDe_changeForm 86 = .ok (.iinc 4 1, 3) := by decide +kernel
theorem d_XDe_changeForm_89 : decode b_XDe_changeForm 89 = .ok (.goto (-40), 3) := by decide +kernel
theorem d_XDe_changeForm_92 : decode b_XDe_changeForm 92 = .ok (.aload_n 0, 1) := by decide +kernel
theorem d_XDe_changeForm_93 : decode b_XDe_changeForm 93 = .ok (.iload_n 3, 1) := by decide +kernel
theorem d_XDe_changeForm_94 : decode b_XDe_changeForm 94 = .ok (.iconst 1, 1) := by decide +kernel
theorem d_XDe_changeForm_95 : decode b_XDe_changeForm 95 = .ok (.isub, 1) := by decide +kernel
theorem d_XDe_changeForm_96 : decode b_XDe_changeForm 96 = .ok (.invokevirtual 86, 3) := by decide +kernel
theorem d_XDe_changeForm_99 : decode b_XDe_changeForm 99 = .ok (.istore 4, 2) := by decide +kernel
theorem d_XDe_changeForm_101 : decode b_XDe_changeForm 101 = .ok (.aload_n 0, 1) := by decide +kernel
theorem d_XDe_changeForm_102 : decode b_XDe_changeForm 102 = .ok (.getfield 25, 3) := by decide +kernel
theorem d_XDe_changeForm_105 : decode b_XDe_changeForm 105 = .ok (.aload_n 1, 1) := by decide +kernel
theorem d_XDe_changeForm_106 : decode b_XDe_changeForm 106 = .ok (.getfield 77, 3) := by decide +kernel
theorem d_XDe_changeForm_109 : decode b_XDe_changeForm 109 = .ok (.iload_n 2, 1) := by decide +kernel
theorem d_XDe_changeForm_110 : decode b_XDe_changeForm 110 = .ok (.iadd, 1) := by decide +kernel
theorem d_XDe_changeForm_111 : decode b_XDe_changeForm 111 = .ok (.iconst 1, 1) := by decide +kernel
theorem d_XDe_changeForm_112 : decode b_XDe_changeForm 112 = .ok (.isub, 1) := by decide +kernel
theorem d_XDe_changeForm_113 : decode b_XDe_changeForm 113 = .ok (.iload 4, 2) := by decide +kernel
theorem d_XDe_changeForm_115 : decode b_XDe_changeForm 115 = .ok (.bipush 15, 2) := by decide +kernel
theorem d_XDe_changeForm_117 : decode b_XDe_changeForm 117 = .ok (.iand, 1) := by decide +kernel
theorem d_XDe_changeForm_118 : decode b_XDe_changeForm 118 = .ok (.iconst 4, 1) := by decide +kernel
theorem d_XDe_changeForm_119 : decode b_XDe_changeForm 119 = .ok (.ishl, 1) := by decide +kernel
theorem d_XDe_changeForm_120 : decode b_XDe_changeForm 120 = .ok (.iload 4, 2) := by decide +kernel
theorem d_XDe_changeForm_122 : decode b_XDe_changeForm 122 = .ok (.iconst 4, 1) := by decide +kernel
theorem d_XDe_changeForm_123 : decode b_XDe_changeForm 123 = .ok (.ishr, 1) := by decide +kernel
theorem d_XDe_changeForm_124 : decode b_XDe_changeForm 124 = .ok (.ior, 1) := by decide +kernel
theorem d_XDe_changeForm_125 : decode b_XDe_changeForm 125 = .ok (.invokevirtual 89, 3) := by decide +kernel
theorem d_XDe_changeForm_128 : decode b_XDe_changeForm 128 = .ok (.aload_n 1, 1) := by decide +kernel
theorem d_XDe_changeForm_129 : decode b_XDe_changeForm 129 = .ok (.getfield 38, 3) := by decide +kernel
theorem d_XDe_changeForm_132 : decode b_XDe_changeForm 132 = .ok (.sipush 242, 3) := by decide +kernel
theorem d_XDe_changeForm_135 : decode b_XDe_changeForm 135 = .ok (.if_icmp .ne 16, 3) := by decide +kernel
theorem d_XDe_changeForm_138 : decode b_XDe_changeForm 138 = .ok (.aload_n 0, 1) := by decide +kernel
theorem d_XDe_changeForm_139 : decode b_XDe_changeForm 139 = .ok (.aload_n 1, 1) := by decide +kernel
theorem d_XDe_changeForm_140 : decode b_XDe_changeForm 140 = .ok (.getfield 77, 3) := by decide +kernel
theorem d_XDe_changeForm_143 : decode b_XDe_changeForm 143 = .ok (.iload_n 2, 1) := by decide +kernel
theorem d_XDe_changeForm_144 : decode b_XDe_changeForm 144 = .ok (.iload_n 3, 1) := by decide +kernel
theorem d_XDe_changeForm_145 : decode b_XDe_changeForm 145 = .ok (.invokevirtual 90, 3) := by decide +kernel
theorem d_XDe_changeForm_148 : decode b_XDe_changeForm 148 = .ok (.goto 13, 3) := by decide +kernel
theorem d_XDe_changeForm_151 : decode b_XDe_changeForm 151 = .ok (.aload_n 0, 1) := by decide +kernel
theorem d_XDe_changeForm_152 : decode b_XDe_changeForm 152 = .ok (.aload_n 1, 1) := by decide +kernel
theorem d_XDe_changeForm_153 : decode b_XDe_changeForm 153 = .ok (.getfield 77, 3) := by decide +kernel
theorem d_XDe_changeForm_156 : decode b_XDe_changeForm 156 = .ok (.iload_n 2, 1) := by decide +kernel
theorem d_XDe_changeForm_157 : decode b_XDe_changeForm 157 = .ok (.iload_n 3, 1) := by decide +kernel
theorem d_XDe_changeForm_158 : decode b_XDe_changeForm 158 = .ok (.invokevirtual 94, 3) := by decide +kernel
theorem d_XDe_changeForm_161 : decode b_XDe_changeForm 161 = .ok (.iconst 0, 1) := by decide +kernel
theorem d_XDe_changeForm_162 : decode b_XDe_changeForm 162 = .ok (.ireturn, 1) := by decide +kernel
theorem d_XDe_startsWithZeros_0 : decode b_XDe_startsWithZeros 0 = .ok (.iconst 0, 1) := by decide +kernel
theorem d_XDe_startsWithZeros_1 : decode b_XDe_startsWithZeros 1 = .ok (.istore_n 3, 1) := by decide +kernel
theorem d_XDe_startsWithZeros_2 : decode b_XDe_startsWithZeros 2 = .ok (.iconst 0, 1) := by decide +kernel
theorem d_XDe_startsWithZeros_3 : decode b_XDe_startsWithZeros 3 = .ok (.istore 4, 2) := by decide +kernel
theorem d_XDe_startsWithZeros_5 : decode b_XDe_startsWithZeros 5 = .ok (.iload 4, 2) := by decide +kernel
theorem d_XDe_startsWithZeros_7 : decode b_XDe_startsWithZeros 7 = .ok (.iload_n 2, 1) := by decide +kernel
theorem d_XDe_startsWithZeros_8 : decode b_XDe_startsWithZeros 8 = .ok (.if_icmp .ge 23, 3) := by decide +kernel
theorem d_XDe_startsWithZeros_11 : decode b_XDe_startsWithZeros 11 = .ok (.iload_n 3, 1) := by decide +kernel
theorem d_XDe_startsWithZeros_12 : decode b_XDe_startsWithZeros 12 = .ok (.aload_n 0, 1) := by decide +kernel
theorem d_XDe_startsWithZeros_13 : decode b_XDe_startsWithZeros 13 = .ok (.getfield 25, 3) := by decide +kernel
theorem d_XDe_startsWithZeros_16 : decode b_XDe_startsWithZeros 16 = .ok (.iload_n 1, 1) := by decide +kernel
theorem d_XDe_startsWithZeros_17 : decode b_XDe_startsWithZeros 17 = .ok (.iload 4, 2) := by decide +kernel
theorem d_XDe_startsWithZeros_19 : decode b_XDe_startsWithZeros 19 = .ok (.iadd, 1) := by decide +kernel
theorem d_XDe_startsWithZeros_20 : decode b_XDe_startsWithZeros 20 = .ok (.invokevirtual 83, 3) := by decide +kernel
theorem d_XDe_startsWithZeros_23 : decode b_XDe_startsWithZeros 23 = .ok (.ior, 1) := by decide +kernel
theorem d_XDe_startsWithZeros_24 : decode b_XDe_startsWithZeros 24 = .ok (.istore_n 3, 1) := by decide +kernel
theorem d_XDe_startsWithZeros_25 : decode b_XDe_startsWithZeros 25 = .ok (.iinc 4 1, 3) := by decide +kernel
theorem d_XDe_startsWithZeros_28 : decode b_XDe_startsWithZeros 28 = .ok (.goto (-23), 3) := by decide +kernel
theorem d_XDe_startsWithZeros_31 : decode b_XDe_startsWithZeros 31 = .ok (.iload_n 3, 1) := by decide +kernel
theorem d_XDe_startsWithZeros_32 : decode b_XDe_startsWithZeros 32 = .ok (.ifCond .ne 7, 3) := by decide +kernel
theorem d_XDe_startsWithZeros_35 : decode b_XDe_startsWithZeros 35 = .ok (.iconst 1, 1) := by decide +kernel
theorem d_XDe_startsWithZeros_36 : decode b_XDe_startsWithZeros 36 = .ok (.goto 4, 3) := by decide +kernel
theorem d_XDe_startsWithZeros_39 : decode b_XDe_startsWithZeros 39 = .ok (.iconst 0, 1) := by decide +kernel
theorem d_XDe_startsWithZeros_40 : decode b_XDe_startsWithZeros 40 = .ok (.ireturn, 1) := by decide +kernel
theorem d_XDe_faultOfFields_0 : decode b_XDe_faultOfFields 0 = .ok (.iload_n 2, 1) := by decide +kernel
theorem d_XDe_faultOfFields_1 : decode b_XDe_faultOfFields 1 = .ok (.bipush 8, 2) := by decide +kernel
theorem d_XDe_faultOfFields_3 : decode b_XDe_faultOfFields 3 = .ok (.if_icmp .gt 9, 3) := by decide +kernel
theorem d_XDe_faultOfFields_6 : decode b_XDe_faultOfFields 6 = .ok (.iload_n 3, 1) := by decide +kernel
theorem d_XDe_faultOfFields_7 : decode b_XDe_faultOfFields 7 = .ok (.bipush 8, 2) := by decide +kernel
theorem d_XDe_faultOfFields_9 : decode b_XDe_faultOfFields 9 = .ok (.if_icmp .le 7, 3) := by decide +kernel
theorem d_XDe_faultOfFields_12 : decode b_XDe_faultOfFields 12 = .ok (.iconst 1, 1) := by decide +kernel
theorem d_XDe_faultOfFields_13 : decode b_XDe_faultOfFields 13 = .ok (.goto 4, 3) := by decide +kernel
theorem d_XDe_faultOfFields_16 : decode b_XDe_faultOfFields 16 = .ok (.iconst 0, 1) := by decide +kernel
theorem d_XDe_faultOfFields_17 : decode b_XDe_faultOfFields 17 = .ok (.istore 4, 2) := by decide +kernel
theorem d_XDe_faultOfFields_19 : decode b_XDe_faultOfFields 19 = .ok (.iload 4, 2) := by decide +kernel
theorem d_XDe_faultOfFields_21 : decode b_XDe_faultOfFields 21 = .ok (.ifCond .ne 18, 3) := by decide +kernel
theorem d_XDe_faultOfFields_24 : decode b_XDe_faultOfFields 24 = .ok (.aload_n 1, 1) := by decide +kernel
theorem d_XDe_faultOfFields_25 : decode b_XDe_faultOfFields 25 = .ok (.getfield 38, 3) := by decide +kernel
theorem d_XDe_faultOfFields_28 : decode b_XDe_faultOfFields 28 = .ok (.sipush 252, 3) := by decide +kernel
theorem d_XDe_faultOfFields_31 : decode b_XDe_faultOfFields 31 = .ok (.if_icmp .lt 11, 3) := by decide +kernel
theorem d_XDe_faultOfFields_34 : decode b_XDe_faultOfFields 34 = .ok (.iload_n 3, 1) := by decide +kernel
theorem d_XDe_faultOfFields_35 : decode b_XDe_faultOfFields 35 = .ok (.iload_n 2, 1) := by decide +kernel
theorem d_XDe_faultOfFields_36 : decode b_XDe_faultOfFields 36 = .ok (.if_icmp .lt 6, 3) := by decide +kernel
theorem d_XDe_faultOfFields_39 : decode b_XDe_faultOfFields 39 = .ok (.bipush 6, 2) := by decide +kernel
theorem d_XDe_faultOfFields_41 : decode b_XDe_faultOfFields 41 = .ok (.ireturn, 1) := by decide +kernel
theorem d_XDe_faultOfFields_42 : decode b_XDe_faultOfFields 42 = .ok (.aload_n 0, 1) := by decide +kernel
theorem d_XDe_faultOfFields_43 : decode b_XDe_faultOfFields 43 = .ok (.getfield 25, 3) := by decide +kernel
theorem d_XDe_faultOfFields_46 : decode b_XDe_faultOfFields 46 = .ok (.aload_n 1, 1) := by decide +kernel
theorem d_XDe_faultOfFields_47 : decode b_XDe_faultOfFields 47 = .ok (.getfield 77, 3) := by decide +kernel
theorem d_XDe_faultOfFields_50 : decode b_XDe_faultOfFields 50 = .ok (.iload_n 2, 1) := by decide +kernel
theorem d_XDe_faultOfFields_51 : decode b_XDe_faultOfFields 51 = .ok (.invokevirtual 80, 3) := by decide +kernel
theorem d_XDe_faultOfFields_54 : decode b_XDe_faultOfFields 54 = .ok (.ifCond .eq 18, 3) := by decide +kernel
theorem d_XDe_faultOfFields_57 : decode b_XDe_faultOfFields 57 = .ok (.aload_n 0, 1) := by decide +kernel
theorem d_XDe_faultOfFields_58 : decode b_XDe_faultOfFields 58 = .ok (.getfield 25, 3) := by decide +kernel
theorem d_XDe_faultOfFields_61 : decode b_XDe_faultOfFields 61 = .ok (.aload_n 1, 1) := by decide +kernel
theorem d_XDe_faultOfFields_62 : decode b_XDe_faultOfFields 62 = .ok (.getfield 26, 3) := by decide +kernel
theorem d_XDe_faultOfFields_65 : decode b_XDe_faultOfFields 65 = .ok (.iload_n 3, 1) := by decide +kernel
theorem d_XDe_faultOfFields_66 : decode b_XDe_faultOfFields 66 = .ok (.invokevirtual 80, 3) := by decide +kernel
theorem d_XDe_faultOfFields_69 : decode b_XDe_faultOfFields 69 = .ok (.ifCond .ne 5, 3) := by decide +kernel
theorem d_XDe_faultOfFields_72 : decode b_XDe_faultOfFields 72 = .ok (.iconst 5, 1) := by decide +kernel
theorem d_XDe_faultOfFields_73 : decode b_XDe_faultOfFields 73 = .ok (.ireturn, 1) := by decide +kernel
theorem d_XDe_faultOfFields_74 : decode b_XDe_faultOfFields 74 = .ok (.aload_n 1, 1) := by decide +kernel
theorem d_XDe_faultOfFields_75 : decode b_XDe_faultOfFields 75 = .ok (.getfield 38, 3) := by decide +kernel
theorem d_XDe_faultOfFields_78 : decode b_XDe_faultOfFields 78 = .ok (.sipush 248, 3) := by decide +kernel
theorem d_XDe_faultOfFields_81 : decode b_XDe_faultOfFields 81 = .ok (.if_icmp .eq 18, 3) := by decide +kernel
theorem d_XDe_faultOfFields_84 : decode b_XDe_faultOfFields 84 = .ok (.aload_n 0, 1) := by decide +kernel
theorem d_XDe_faultOfFields_85 : decode b_XDe_faultOfFields 85 = .ok (.getfield 25, 3) := by decide +kernel
theorem d_XDe_faultOfFields_88 : decode b_XDe_faultOfFields 88 = .ok (.aload_n 1, 1) := by decide +kernel
theorem d_XDe_faultOfFields_89 : decode b_XDe_faultOfFields 89 = .ok (.getfield 77, 3) := by decide +kernel
theorem d_XDe_faultOfFields_92 : decode b_XDe_faultOfFields 92 = .ok (.iload_n 2, 1) := by decide +kernel
theorem d_XDe_faultOfFields_93 : decode b_XDe_faultOfFields 93 = .ok (.invokevirtual 62, 3) := by decide +kernel
theorem d_XDe_faultOfFields_96 : decode b_XDe_faultOfFields 96 = .ok (.ifCond .eq 7, 3) := by decide +kernel
theorem d_XDe_faultOfFields_99 : decode b_XDe_faultOfFields 99 = .ok (.iconst 1, 1) := by decide +kernel
theorem d_XDe_faultOfFields_100 : decode b_XDe_faultOfFields 100 = .ok (.goto 4, 3) := by decide +kernel
theorem d_XDe_faultOfFields_103 : decode b_XDe_faultOfFields 103 = .ok (.iconst 0, 1) := by decide +kernel
theorem d_XDe_faultOfFields_104 : decode b_XDe_faultOfFields 104 = .ok (.istore 5, 2) := by decide +kernel
theorem d_XDe_faultOfFields_106 : decode b_XDe_faultOfFields 106 = .ok (.iload 5, 2) := by decide +kernel
theorem d_XDe_faultOfFields_108 : decode b_XDe_faultOfFields 108 = .ok (.ifCond .eq 18, 3) := by decide +kernel
theorem d_XDe_faultOfFields_111 : decode b_XDe_faultOfFields 111 = .ok (.aload_n 0, 1) := by decide +kernel
theorem d_XDe_faultOfFields_112 : decode b_XDe_faultOfFields 112 = .ok (.getfield 25, 3) := by decide +kernel
theorem d_XDe_faultOfFields_115 : decode b_XDe_faultOfFields 115 = .ok (.aload_n 1, 1) := by decide +kernel
theorem d_XDe_faultOfFields_116 : decode b_XDe_faultOfFields 116 = .ok (.getfield 26, 3) := by decide +kernel
theorem d_XDe_faultOfFields_119 : decode b_XDe_faultOfFields 119 = .ok (.iload_n 3, 1) := by decide +kernel
theorem d_XDe_faultOfFields_120 : decode b_XDe_faultOfFields 120 = .ok (.invokevirtual 62, 3) := by decide +kernel
theorem d_XDe_faultOfFields_123 : decode b_XDe_faultOfFields 123 = .ok (.ifCond .ne 6, 3) := by decide +kernel
theorem d_XDe_faultOfFields_126 : decode b_XDe_faultOfFields 126 = .ok (.bipush 7, 2) := by decide +kernel
theorem d_XDe_faultOfFields_128 : decode b_XDe_faultOfFields 128 = .ok (.ireturn, 1) := by decide +kernel
theorem d_XDe_faultOfFields_129 : decode b_XDe_faultOfFields 129 = .ok (.aload_n 1, 1) := by decide +kernel
theorem d_XDe_faultOfFields_130 : decode b_XDe_faultOfFields 130 = .ok (.getfield 38, 3) := by decide +kernel
theorem d_XDe_faultOfFields_133 : decode b_XDe_faultOfFields 133 = .ok (.sipush 252, 3) := by decide +kernel
theorem d_XDe_faultOfFields_136 : decode b_XDe_faultOfFields 136 = .ok (.if_icmp .ne 20, 3) := by decide +kernel
theorem d_XDe_faultOfFields_139 : decode b_XDe_faultOfFields 139 = .ok (.aload_n 0, 1) := by decide +kernel
theorem d_XDe_faultOfFields_140 : decode b_XDe_faultOfFields 140 = .ok (.aload_n 1, 1) := by decide +kernel
theorem d_XDe_faultOfFields_141 : decode b_XDe_faultOfFields 141 = .ok (.getfield 77, 3) := by decide +kernel
theorem d_XDe_faultOfFields_144 : decode b_XDe_faultOfFields 144 = .ok (.iload_n 3, 1) := by decide +kernel
theorem d_XDe_faultOfFields_145 : decode b_XDe_faultOfFields 145 = .ok (.invokevirtual 115, 3) := by decide +kernel
theorem d_XDe_faultOfFields_148 : decode b_XDe_faultOfFields 148 = .ok (.ifCond .ne 8, 3) := by decide +kernel
theorem d_XDe_faultOfFields_151 : decode b_XDe_faultOfFields 151 = .ok (.bipush 7, 2) := by decide +kernel
theorem d_XDe_faultOfFields_153 : decode b_XDe_faultOfFields 153 = .ok (.goto 4, 3) := by decide +kernel
theorem d_XDe_faultOfFields_156 : decode b_XDe_faultOfFields 156 = .ok (.iconst 0, 1) := by decide +kernel
theorem d_XDe_faultOfFields_157 : decode b_XDe_faultOfFields 157 = .ok (.ireturn, 1) := by decide +kernel
theorem d_XDe_hasRoom_0 : decode b_XDe_hasRoom 0 = .ok (.ldc2_w 118, 3) := by decide +kernel
theorem d_XDe_hasRoom_3 : decode b_XDe_hasRoom 3 = .ok (.lstore_n 3, 1) := by decide +kernel
theorem d_XDe_hasRoom_4 : decode b_XDe_hasRoom 4 = .ok (.iconst 1, 1) := by decide +kernel
theorem d_XDe_hasRoom_5 : decode b_XDe_hasRoom 5 = .ok (.istore 5, 2) := by decide +kernel
theorem d_XDe_hasRoom_7 : decode b_XDe_hasRoom 7 = .ok (.iload 5, 2) := by decide +kernel
theorem d_XDe_hasRoom_9 : decode b_XDe_hasRoom 9 = .ok (.iload_n 2, 1) := by decide +kernel
theorem d_XDe_hasRoom_10 : decode b_XDe_hasRoom 10 = .ok (.if_icmp .ge 15, 3) := by decide +kernel
theorem d_XDe_hasRoom_13 : decode b_XDe_hasRoom 13 = .ok (.lload_n 3, 1) := by decide +kernel
theorem d_XDe_hasRoom_14 : decode b_XDe_hasRoom 14 = .ok (.ldc2_w 120, 3) := by decide +kernel
theorem d_XDe_hasRoom_17 : decode b_XDe_hasRoom 17 = .ok (.lmul, 1) := by decide +kernel
theorem d_XDe_hasRoom_18 : decode b_XDe_hasRoom 18 = .ok (.lstore_n 3, 1) := by decide +kernel
theorem d_XDe_hasRoom_19 : decode b_XDe_hasRoom 19 = .ok (.iinc 5 1, 3) := by decide +kernel
theorem d_XDe_hasRoom_22 : decode b_XDe_hasRoom 22 = .ok (.goto (-15), 3) := by decide +kernel
theorem d_XDe_hasRoom_25 : decode b_XDe_hasRoom 25 = .ok (.lload_n 0, 1) := by decide +kernel
theorem d_XDe_hasRoom_26 : decode b_XDe_hasRoom 26 = .ok (.lload_n 3, 1) := by decide +kernel
theorem d_XDe_hasRoom_27 : decode b_XDe_hasRoom 27 = .ok (.lcmp, 1) := by decide +kernel
theorem d_XDe_hasRoom_28 : decode b_XDe_hasRoom 28 = .ok (.ifCond .ge 7, 3) := by decide +kernel
theorem d_XDe_hasRoom_31 : decode b_XDe_hasRoom 31 = .ok (.iconst 1, 1) := by decide +kernel
theorem d_XDe_hasRoom_32 : decode b_XDe_hasRoom 32 = .ok (.goto 4, 3) := by decide +kernel
theorem d_XDe_hasRoom_35 : decode b_XDe_hasRoom 35 = .ok (.iconst 0, 1) := by decide +kernel
theorem d_XDe_hasRoom_36 : decode b_XDe_hasRoom 36 = .ok (.ireturn, 1) := by decide +kernel
theorem d_XSt_decimalOverflow_0 : decode b_XSt_decimalOverflow 0 = .ok (.aload_n 0, 1) := by decide +kernel
theorem d_XSt_decimalOverflow_1 : decode b_XSt_decimalOverflow 1 = .ok (.iconst 3, 1) := by decide +kernel
theorem d_XSt_decimalOverflow_2 : decode b_XSt_decimalOverflow 2 = .ok (.putfield 26, 3) := by decide +kernel
theorem d_XSt_decimalOverflow_5 : decode b_XSt_decimalOverflow 5 = .ok (.aload_n 0, 1) := by decide +kernel
theorem d_XSt_decimalOverflow_6 : decode b_XSt_decimalOverflow 6 = .ok (.getfield 29, 3) := by decide +kernel
theorem d_XSt_decimalOverflow_9 : decode b_XSt_decimalOverflow 9 = .ok (.iconst 2, 1) := by decide +kernel
theorem d_XSt_decimalOverflow_10 : decode b_XSt_decimalOverflow 10 = .ok (.iand, 1) := by decide +kernel
theorem d_XSt_decimalOverflow_11 : decode b_XSt_decimalOverflow 11 = .ok (.ifCond .eq 8, 3) := by decide +kernel
theorem d_XSt_decimalOverflow_14 : decode b_XSt_decimalOverflow 14 = .ok (.bipush 10, 2) := by decide +kernel
theorem d_XSt_decimalOverflow_16 : decode b_XSt_decimalOverflow 16 = .ok (.goto 4, 3) := by decide +kernel
theorem d_XSt_decimalOverflow_19 : decode b_XSt_decimalOverflow 19 = .ok (.iconst 0, 1) := by decide +kernel
theorem d_XSt_decimalOverflow_20 : decode b_XSt_decimalOverflow 20 = .ok (.ireturn, 1) := by decide +kernel
theorem d_XDe_putSum_0 : decode b_XDe_putSum 0 = .ok (.lload_n 3, 1) := by decide +kernel
theorem d_XDe_putSum_1 : decode b_XDe_putSum 1 = .ok (.invokestatic 48, 3) := by decide +kernel
theorem d_XDe_putSum_4 : decode b_XDe_putSum 4 = .ok (.lstore 5, 2) := by decide +kernel
theorem d_XDe_putSum_6 : decode b_XDe_putSum 6 = .ok (.aload_n 0, 1) := by decide +kernel
theorem d_XDe_putSum_7 : decode b_XDe_putSum 7 = .ok (.getfield 25, 3) := by decide +kernel
theorem d_XDe_putSum_10 : decode b_XDe_putSum 10 = .ok (.iload_n 1, 1) := by decide +kernel
theorem d_XDe_putSum_11 : decode b_XDe_putSum 11 = .ok (.iload_n 2, 1) := by decide +kernel
theorem d_XDe_putSum_12 : decode b_XDe_putSum 12 = .ok (.lload 5, 2) := by decide +kernel
theorem d_XDe_putSum_14 : decode b_XDe_putSum 14 = .ok (.lload_n 3, 1) := by decide +kernel
theorem d_XDe_putSum_15 : decode b_XDe_putSum 15 = .ok (.lconst 0, 1) := by decide +kernel
theorem d_XDe_putSum_16 : decode b_XDe_putSum 16 = .ok (.lcmp, 1) := by decide +kernel
theorem d_XDe_putSum_17 : decode b_XDe_putSum 17 = .ok (.ifCond .ge 7, 3) := by decide +kernel
theorem d_XDe_putSum_20 : decode b_XDe_putSum 20 = .ok (.iconst 1, 1) := by decide +kernel
theorem d_XDe_putSum_21 : decode b_XDe_putSum 21 = .ok (.goto 4, 3) := by decide +kernel
theorem d_XDe_putSum_24 : decode b_XDe_putSum 24 = .ok (.iconst 0, 1) := by decide +kernel
theorem d_XDe_putSum_25 : decode b_XDe_putSum 25 = .ok (.invokevirtual 54, 3) := by decide +kernel
theorem d_XDe_putSum_28 : decode b_XDe_putSum 28 = .ok (.aload_n 0, 1) := by decide +kernel
theorem d_XDe_putSum_29 : decode b_XDe_putSum 29 = .ok (.getfield 15, 3) := by decide +kernel
theorem d_XDe_putSum_32 : decode b_XDe_putSum 32 = .ok (.lload_n 3, 1) := by decide +kernel
theorem d_XDe_putSum_33 : decode b_XDe_putSum 33 = .ok (.invokevirtual 105, 3) := by decide +kernel
theorem d_XDe_putSum_36 : decode b_XDe_putSum 36 = .ok (.lload 5, 2) := by decide +kernel
theorem d_XDe_putSum_38 : decode b_XDe_putSum 38 = .ok (.iload_n 2, 1) := by decide +kernel
theorem d_XDe_putSum_39 : decode b_XDe_putSum 39 = .ok (.invokestatic 122, 3) := by decide +kernel
theorem d_XDe_putSum_42 : decode b_XDe_putSum 42 = .ok (.ifCond .eq 7, 3) := by decide +kernel
theorem d_XDe_putSum_45 : decode b_XDe_putSum 45 = .ok (.iconst 0, 1) := by decide +kernel
theorem d_XDe_putSum_46 : decode b_XDe_putSum 46 = .ok (.goto 10, 3) := by decide +kernel
theorem d_XDe_putSum_49 : decode b_XDe_putSum 49 = .ok (.aload_n 0, 1) := by decide +kernel
theorem d_XDe_putSum_50 : decode b_XDe_putSum 50 = .ok (.getfield 15, 3) := by decide +kernel
theorem d_XDe_putSum_53 : decode b_XDe_putSum 53 = .ok (.invokevirtual 126, 3) := by decide +kernel
theorem d_XDe_putSum_56 : decode b_XDe_putSum 56 = .ok (.ireturn, 1) := by decide +kernel
theorem d_XDe_multiply_0 : decode b_XDe_multiply 0 = .ok (.aload_n 0, 1) := by decide +kernel
theorem d_XDe_multiply_1 : decode b_XDe_multiply 1 = .ok (.getfield 25, 3) := by decide +kernel
theorem d_XDe_multiply_4 : decode b_XDe_multiply 4 = .ok (.aload_n 1, 1) := by decide +kernel
theorem d_XDe_multiply_5 : decode b_XDe_multiply 5 = .ok (.getfield 77, 3) := by decide +kernel
theorem d_XDe_multiply_8 : decode b_XDe_multiply 8 = .ok (.iload_n 2, 1) := by decide +kernel
theorem d_XDe_multiply_9 : decode b_XDe_multiply 9 = .ok (.invokevirtual 66, 3) := by decide +kernel
theorem d_XDe_multiply_12 : decode b_XDe_multiply 12 = .ok (.aload_n 0, 1) := by decide +kernel
theorem d_XDe_multiply_13 : decode b_XDe_multiply 13 = .ok (.getfield 25, 3) := by decide +kernel
theorem d_XDe_multiply_16 : decode b_XDe_multiply 16 = .ok (.aload_n 1, 1) := by decide +kernel
theorem d_XDe_multiply_17 : decode b_XDe_multiply 17 = .ok (.getfield 26, 3) := by decide +kernel
theorem d_XDe_multiply_20 : decode b_XDe_multiply 20 = .ok (.iload_n 3, 1) := by decide +kernel
theorem d_XDe_multiply_21 : decode b_XDe_multiply 21 = .ok (.invokevirtual 66, 3) := by decide +kernel
theorem d_XDe_multiply_24 : decode b_XDe_multiply 24 = .ok (.lmul, 1) := by decide +kernel
theorem d_XDe_multiply_25 : decode b_XDe_multiply 25 = .ok (.lstore 4, 2) := by decide +kernel
theorem d_XDe_multiply_27 : decode b_XDe_multiply 27 = .ok (.aload_n 0, 1) := by decide +kernel
theorem d_XDe_multiply_28 : decode b_XDe_multiply 28 = .ok (.getfield 25, 3) := by decide +kernel
theorem d_XDe_multiply_31 : decode b_XDe_multiply 31 = .ok (.aload_n 1, 1) := by decide +kernel
theorem d_XDe_multiply_32 : decode b_XDe_multiply 32 = .ok (.getfield 77, 3) := by decide +kernel
theorem d_XDe_multiply_35 : decode b_XDe_multiply 35 = .ok (.iload_n 2, 1) := by decide +kernel
theorem d_XDe_multiply_36 : decode b_XDe_multiply 36 = .ok (.invokevirtual 130, 3) := by decide +kernel
theorem d_XDe_multiply_39 : decode b_XDe_multiply 39 = .ok (.aload_n 0, 1) := by decide +kernel
theorem d_XDe_multiply_40 : decode b_XDe_multiply 40 = .ok (.getfield 25, 3) := by decide +kernel
theorem d_XDe_multiply_43 : decode b_XDe_multiply 43 = .ok (.aload_n 1, 1) := by decide +kernel
theorem d_XDe_multiply_44 : decode b_XDe_multiply 44 = .ok (.getfield 26, 3) := by decide +kernel
theorem d_XDe_multiply_47 : decode b_XDe_multiply 47 = .ok (.iload_n 3, 1) := by decide +kernel
theorem d_XDe_multiply_48 : decode b_XDe_multiply 48 = .ok (.invokevirtual 130, 3) := by decide +kernel
theorem d_XDe_multiply_51 : decode b_XDe_multiply 51 = .ok (.if_icmp .eq 7, 3) := by decide +kernel
theorem d_XDe_multiply_54 : decode b_XDe_multiply 54 = .ok (.iconst 1, 1) := by decide +kernel
theorem d_XDe_multiply_55 : decode b_XDe_multiply 55 = .ok (.goto 4, 3) := by decide +kernel
theorem d_XDe_multiply_58 : decode b_XDe_multiply 58 = .ok (.iconst 0, 1) := by decide +kernel
theorem d_XDe_multiply_59 : decode b_XDe_multiply 59 = .ok (.istore 6, 2) := by decide +kernel
theorem d_XDe_multiply_61 : decode b_XDe_multiply 61 = .ok (.aload_n 0, 1) := by decide +kernel
theorem d_XDe_multiply_62 : decode b_XDe_multiply 62 = .ok (.getfield 25, 3) := by decide +kernel
theorem d_XDe_multiply_65 : decode b_XDe_multiply 65 = .ok (.aload_n 1, 1) := by decide +kernel
theorem d_XDe_multiply_66 : decode b_XDe_multiply 66 = .ok (.getfield 77, 3) := by decide +kernel
theorem d_XDe_multiply_69 : decode b_XDe_multiply 69 = .ok (.iload_n 2, 1) := by decide +kernel
theorem d_XDe_multiply_70 : decode b_XDe_multiply 70 = .ok (.lload 4, 2) := by decide +kernel
theorem d_XDe_multiply_72 : decode b_XDe_multiply 72 = .ok (.invokestatic 48, 3) := by decide +kernel
theorem d_XDe_multiply_75 : decode b_XDe_multiply 75 = .ok (.iload 6, 2) := by decide +kernel
theorem d_XDe_multiply_77 : decode b_XDe_multiply 77 = .ok (.invokevirtual 54, 3) := by decide +kernel
theorem d_XDe_multiply_80 : decode b_XDe_multiply 80 = .ok (.iconst 0, 1) := by decide +kernel
theorem d_XDe_multiply_81 : decode b_XDe_multiply 81 = .ok (.ireturn, 1) := by decide +kernel
theorem d_XDe_divide_0 : decode b_XDe_divide 0 = .ok (.aload_n 0, 1) := by decide +kernel
theorem d_XDe_divide_1 : decode b_XDe_divide 1 = .ok (.getfield 25, 3) := by decide +kernel
theorem d_XDe_divide_4 : decode b_XDe_divide 4 = .ok (.aload_n 1, 1) := by decide +kernel
theorem d_XDe_divide_5 : decode b_XDe_divide 5 = .ok (.getfield 77, 3) := by decide +kernel
theorem d_XDe_divide_8 : decode b_XDe_divide 8 = .ok (.iload_n 2, 1) := by decide +kernel
theorem d_XDe_divide_9 : decode b_XDe_divide 9 = .ok (.invokevirtual 66, 3) := by decide +kernel
theorem d_XDe_divide_12 : decode b_XDe_divide 12 = .ok (.invokestatic 48, 3) := by decide +kernel
theorem d_XDe_divide_15 : decode b_XDe_divide 15 = .ok (.lstore 4, 2) := by decide +kernel
theorem d_XDe_divide_17 : decode b_XDe_divide 17 = .ok (.aload_n 0, 1) := by decide +kernel
theorem d_XDe_divide_18 : decode b_XDe_divide 18 = .ok (.getfield 25, 3) := by decide +kernel
theorem d_XDe_divide_21 : decode b_XDe_divide 21 = .ok (.aload_n 1, 1) := by decide +kernel
theorem d_XDe_divide_22 : decode b_XDe_divide 22 = .ok (.getfield 26, 3) := by decide +kernel
theorem d_XDe_divide_25 : decode b_XDe_divide 25 = .ok (.iload_n 3, 1) := by decide +kernel
theorem d_XDe_divide_26 : decode b_XDe_divide 26 = .ok (.invokevirtual 66, 3) := by decide +kernel
theorem d_XDe_divide_29 : decode b_XDe_divide 29 = .ok (.invokestatic 48, 3) := by decide +kernel
theorem d_XDe_divide_32 : decode b_XDe_divide 32 = .ok (.lstore 6, 2) := by decide +kernel
theorem d_XDe_divide_34 : decode b_XDe_divide 34 = .ok (.iload_n 2, 1) := by decide +kernel
theorem d_XDe_divide_35 : decode b_XDe_divide 35 = .ok (.iload_n 3, 1) := by decide +kernel
end
section
theorem d_XDe_divide_36 : decode b_XDe_divide 36 = .ok (.isub, 1) := by decide +kernel
theorem d_XDe_divide_37 : decode b_XDe_divide 37 = .ok (.istore 8, 2) := by decide +kernel
theorem d_XDe_divide_39 : decode b_XDe_divide 39 = .ok (.lload 6, 2) := by decide +kernel
theorem d_XDe_divide_41 : decode b_XDe_divide 41 = .ok (.lconst 0, 1) := by decide +kernel
theorem d_XDe_divide_42 : decode b_XDe_divide 42 = .ok (.lcmp, 1) := by decide +kernel
theorem d_XDe_divide_43 : decode b_XDe_divide 43 = .ok (.ifCond .eq 16, 3) := by decide +kernel
theorem d_XDe_divide_46 : decode b_XDe_divide 46 = .ok (.lload 4, 2) := by decide +kernel
theorem d_XDe_divide_48 : decode b_XDe_divide 48 = .ok (.lload 6, 2) := by decide +kernel
theorem d_XDe_divide_50 : decode b_XDe_divide 50 = .ok (.ldiv, 1) := by decide +kernel
theorem d_XDe_divide_51 : decode b_XDe_divide 51 = .ok (.iload 8, 2) := by decide +kernel
theorem d_XDe_divide_53 : decode b_XDe_divide 53 = .ok (.invokestatic 122, 3) := by decide +kernel
theorem d_XDe_divide_56 : decode b_XDe_divide 56 = .ok (.ifCond .ne 6, 3) := by decide +kernel
theorem d_XDe_divide_59 : decode b_XDe_divide 59 = .ok (.bipush 11, 2) := by decide +kernel
theorem d_XDe_divide_61 : decode b_XDe_divide 61 = .ok (.ireturn, 1) := by decide +kernel
theorem d_XDe_divide_62 : decode b_XDe_divide 62 = .ok (.aload_n 0, 1) := by decide +kernel
theorem d_XDe_divide_63 : decode b_XDe_divide 63 = .ok (.getfield 25, 3) := by decide +kernel
theorem d_XDe_divide_66 : decode b_XDe_divide 66 = .ok (.aload_n 1, 1) := by decide +kernel
theorem d_XDe_divide_67 : decode b_XDe_divide 67 = .ok (.getfield 77, 3) := by decide +kernel
theorem d_XDe_divide_70 : decode b_XDe_divide 70 = .ok (.iload_n 2, 1) := by decide +kernel
theorem d_XDe_divide_71 : decode b_XDe_divide 71 = .ok (.invokevirtual 130, 3) := by decide +kernel
theorem d_XDe_divide_74 : decode b_XDe_divide 74 = .ok (.istore 9, 2) := by decide +kernel
theorem d_XDe_divide_76 : decode b_XDe_divide 76 = .ok (.aload_n 0, 1) := by decide +kernel
theorem d_XDe_divide_77 : decode b_XDe_divide 77 = .ok (.getfield 25, 3) := by decide +kernel
theorem d_XDe_divide_80 : decode b_XDe_divide 80 = .ok (.aload_n 1, 1) := by decide +kernel
theorem d_XDe_divide_81 : decode b_XDe_divide 81 = .ok (.getfield 26, 3) := by decide +kernel
theorem d_XDe_divide_84 : decode b_XDe_divide 84 = .ok (.iload_n 3, 1) := by decide +kernel
theorem d_XDe_divide_85 : decode b_XDe_divide 85 = .ok (.invokevirtual 130, 3) := by decide +kernel
theorem d_XDe_divide_88 : decode b_XDe_divide 88 = .ok (.istore 10, 2) := by decide +kernel
theorem d_XDe_divide_90 : decode b_XDe_divide 90 = .ok (.aload_n 0, 1) := by decide +kernel
theorem d_XDe_divide_91 : decode b_XDe_divide 91 = .ok (.getfield 25, 3) := by decide +kernel
theorem d_XDe_divide_94 : decode b_XDe_divide 94 = .ok (.aload_n 1, 1) := by decide +kernel
theorem d_XDe_divide_95 : decode b_XDe_divide 95 = .ok (.getfield 77, 3) := by decide +kernel
theorem d_XDe_divide_98 : decode b_XDe_divide 98 = .ok (.iload 8, 2) := by decide +kernel
theorem d_XDe_divide_100 : decode b_XDe_divide 100 = .ok (.lload 4, 2) := by decide +kernel
theorem d_XDe_divide_102 : decode b_XDe_divide 102 = .ok (.lload 6, 2) := by decide +kernel
theorem d_XDe_divide_104 : decode b_XDe_divide 104 = .ok (.ldiv, 1) := by decide +kernel
theorem d_XDe_divide_105 : decode b_XDe_divide 105 = .ok (.iload 9, 2) := by decide +kernel
theorem d_XDe_divide_107 : decode b_XDe_divide 107 = .ok (.iload 10, 2) := by decide +kernel
theorem d_XDe_divide_109 : decode b_XDe_divide 109 = .ok (.if_icmp .eq 7, 3) := by decide +kernel
theorem d_XDe_divide_112 : decode b_XDe_divide 112 = .ok (.iconst 1, 1) := by decide +kernel
theorem d_XDe_divide_113 : decode b_XDe_divide 113 = .ok (.goto 4, 3) := by decide +kernel
theorem d_XDe_divide_116 : decode b_XDe_divide 116 = .ok (.iconst 0, 1) := by decide +kernel
theorem d_XDe_divide_117 : decode b_XDe_divide 117 = .ok (.invokevirtual 54, 3) := by decide +kernel
theorem d_XDe_divide_120 : decode b_XDe_divide 120 = .ok (.aload_n 0, 1) := by decide +kernel
theorem d_XDe_divide_121 : decode b_XDe_divide 121 = .ok (.getfield 25, 3) := by decide +kernel
theorem d_XDe_divide_124 : decode b_XDe_divide 124 = .ok (.aload_n 1, 1) := by decide +kernel
theorem d_XDe_divide_125 : decode b_XDe_divide 125 = .ok (.getfield 77, 3) := by decide +kernel
theorem d_XDe_divide_128 : decode b_XDe_divide 128 = .ok (.iload 8, 2) := by decide +kernel
theorem d_XDe_divide_130 : decode b_XDe_divide 130 = .ok (.iadd, 1) := by decide +kernel
theorem d_XDe_divide_131 : decode b_XDe_divide 131 = .ok (.iload_n 3, 1) := by decide +kernel
theorem d_XDe_divide_132 : decode b_XDe_divide 132 = .ok (.lload 4, 2) := by decide +kernel
theorem d_XDe_divide_134 : decode b_XDe_divide 134 = .ok (.lload 6, 2) := by decide +kernel
theorem d_XDe_divide_136 : decode b_XDe_divide 136 = .ok (.lrem, 1) := by decide +kernel
theorem d_XDe_divide_137 : decode b_XDe_divide 137 = .ok (.iload 9, 2) := by decide +kernel
theorem d_XDe_divide_139 : decode b_XDe_divide 139 = .ok (.invokevirtual 54, 3) := by decide +kernel
theorem d_XDe_divide_142 : decode b_XDe_divide 142 = .ok (.iconst 0, 1) := by decide +kernel
theorem d_XDe_divide_143 : decode b_XDe_divide 143 = .ok (.ireturn, 1) := by decide +kernel
theorem d_XDe_calculate_0 : decode b_XDe_calculate 0 = .ok (.aload_n 1, 1) := by decide +kernel
theorem d_XDe_calculate_1 : decode b_XDe_calculate 1 = .ok (.getfield 41, 3) := by decide +kernel
theorem d_XDe_calculate_4 : decode b_XDe_calculate 4 = .ok (.iconst 1, 1) := by decide +kernel
theorem d_XDe_calculate_5 : decode b_XDe_calculate 5 = .ok (.iadd, 1) := by decide +kernel
theorem d_XDe_calculate_6 : decode b_XDe_calculate 6 = .ok (.istore_n 2, 1) := by decide +kernel
theorem d_XDe_calculate_7 : decode b_XDe_calculate 7 = .ok (.aload_n 1, 1) := by decide +kernel
theorem d_XDe_calculate_8 : decode b_XDe_calculate 8 = .ok (.getfield 74, 3) := by decide +kernel
theorem d_XDe_calculate_11 : decode b_XDe_calculate 11 = .ok (.iconst 1, 1) := by decide +kernel
theorem d_XDe_calculate_12 : decode b_XDe_calculate 12 = .ok (.iadd, 1) := by decide +kernel
theorem d_XDe_calculate_13 : decode b_XDe_calculate 13 = .ok (.istore_n 3, 1) := by decide +kernel
theorem d_XDe_calculate_14 : decode b_XDe_calculate 14 = .ok (.aload_n 0, 1) := by decide +kernel
theorem d_XDe_calculate_15 : decode b_XDe_calculate 15 = .ok (.aload_n 1, 1) := by decide +kernel
theorem d_XDe_calculate_16 : decode b_XDe_calculate 16 = .ok (.iload_n 2, 1) := by decide +kernel
theorem d_XDe_calculate_17 : decode b_XDe_calculate 17 = .ok (.iload_n 3, 1) := by decide +kernel
theorem d_XDe_calculate_18 : decode b_XDe_calculate 18 = .ok (.invokevirtual 97, 3) := by decide +kernel
theorem d_XDe_calculate_21 : decode b_XDe_calculate 21 = .ok (.istore 4, 2) := by decide +kernel
theorem d_XDe_calculate_23 : decode b_XDe_calculate 23 = .ok (.iload 4, 2) := by decide +kernel
theorem d_XDe_calculate_25 : decode b_XDe_calculate 25 = .ok (.ifCond .eq 6, 3) := by decide +kernel
theorem d_XDe_calculate_28 : decode b_XDe_calculate 28 = .ok (.iload 4, 2) := by decide +kernel
theorem d_XDe_calculate_30 : decode b_XDe_calculate 30 = .ok (.ireturn, 1) := by decide +kernel
theorem d_XDe_calculate_31 : decode b_XDe_calculate 31 = .ok (.aload_n 0, 1) := by decide +kernel
theorem d_XDe_calculate_32 : decode b_XDe_calculate 32 = .ok (.getfield 25, 3) := by decide +kernel
theorem d_XDe_calculate_35 : decode b_XDe_calculate 35 = .ok (.aload_n 1, 1) := by decide +kernel
theorem d_XDe_calculate_36 : decode b_XDe_calculate 36 = .ok (.getfield 77, 3) := by decide +kernel
theorem d_XDe_calculate_39 : decode b_XDe_calculate 39 = .ok (.iload_n 2, 1) := by decide +kernel
theorem d_XDe_calculate_40 : decode b_XDe_calculate 40 = .ok (.invokevirtual 66, 3) := by decide +kernel
theorem d_XDe_calculate_43 : decode b_XDe_calculate 43 = .ok (.lstore 5, 2) := by decide +kernel
theorem d_XDe_calculate_45 : decode b_XDe_calculate 45 = .ok (.aload_n 0, 1) := by decide +kernel
theorem d_XDe_calculate_46 : decode b_XDe_calculate 46 = .ok (.getfield 25, 3) := by decide +kernel
theorem d_XDe_calculate_49 : decode b_XDe_calculate 49 = .ok (.aload_n 1, 1) := by decide +kernel
theorem d_XDe_calculate_50 : decode b_XDe_calculate 50 = .ok (.getfield 26, 3) := by decide +kernel
theorem d_XDe_calculate_53 : decode b_XDe_calculate 53 = .ok (.iload_n 3, 1) := by decide +kernel
theorem d_XDe_calculate_54 : decode b_XDe_calculate 54 = .ok (.invokevirtual 66, 3) := by decide +kernel
theorem d_XDe_calculate_57 : decode b_XDe_calculate 57 = .ok (.lstore 7, 2) := by decide +kernel
theorem d_XDe_calculate_59 : decode b_XDe_calculate 59 = .ok (.aload_n 1, 1) := by decide +kernel
theorem d_XDe_calculate_60 : decode b_XDe_calculate 60 = .ok (.getfield 38, 3) := by decide +kernel
theorem d_XDe_calculate_63 : decode b_XDe_calculate 63 = .ok (.tableswitch 97 248 252 #[33, 45, 59, 74, 89], 33) := by decide +kernel
theorem d_XDe_calculate_96 : decode b_XDe_calculate 96 = .ok (.aload_n 0, 1) := by decide +kernel
theorem d_XDe_calculate_97 : decode b_XDe_calculate 97 = .ok (.aload_n 1, 1) := by decide +kernel
theorem d_XDe_calculate_98 : decode b_XDe_calculate 98 = .ok (.getfield 77, 3) := by decide +kernel
theorem d_XDe_calculate_101 : decode b_XDe_calculate 101 = .ok (.iload_n 2, 1) := by decide +kernel
theorem d_XDe_calculate_102 : decode b_XDe_calculate 102 = .ok (.lload 7, 2) := by decide +kernel
theorem d_XDe_calculate_104 : decode b_XDe_calculate 104 = .ok (.invokevirtual 101, 3) := by decide +kernel
theorem d_XDe_calculate_107 : decode b_XDe_calculate 107 = .ok (.ireturn, 1) := by decide +kernel
theorem d_XDe_calculate_108 : decode b_XDe_calculate 108 = .ok (.aload_n 0, 1) := by decide +kernel
theorem d_XDe_calculate_109 : decode b_XDe_calculate 109 = .ok (.getfield 15, 3) := by decide +kernel
theorem d_XDe_calculate_112 : decode b_XDe_calculate 112 = .ok (.lload 5, 2) := by decide +kernel
theorem d_XDe_calculate_114 : decode b_XDe_calculate 114 = .ok (.lload 7, 2) := by decide +kernel
theorem d_XDe_calculate_116 : decode b_XDe_calculate 116 = .ok (.lsub, 1) := by decide +kernel
theorem d_XDe_calculate_117 : decode b_XDe_calculate 117 = .ok (.invokevirtual 105, 3) := by decide +kernel
theorem d_XDe_calculate_120 : decode b_XDe_calculate 120 = .ok (.iconst 0, 1) := by decide +kernel
theorem d_XDe_calculate_121 : decode b_XDe_calculate 121 = .ok (.ireturn, 1) := by decide +kernel
theorem d_XDe_calculate_122 : decode b_XDe_calculate 122 = .ok (.aload_n 0, 1) := by decide +kernel
theorem d_XDe_calculate_123 : decode b_XDe_calculate 123 = .ok (.aload_n 1, 1) := by decide +kernel
theorem d_XDe_calculate_124 : decode b_XDe_calculate 124 = .ok (.getfield 77, 3) := by decide +kernel
theorem d_XDe_calculate_127 : decode b_XDe_calculate 127 = .ok (.iload_n 2, 1) := by decide +kernel
theorem d_XDe_calculate_128 : decode b_XDe_calculate 128 = .ok (.lload 5, 2) := by decide +kernel
theorem d_XDe_calculate_130 : decode b_XDe_calculate 130 = .ok (.lload 7, 2) := by decide +kernel
theorem d_XDe_calculate_132 : decode b_XDe_calculate 132 = .ok (.ladd, 1) := by decide +kernel
theorem d_XDe_calculate_133 : decode b_XDe_calculate 133 = .ok (.invokevirtual 101, 3) := by decide +kernel
theorem d_XDe_calculate_136 : decode b_XDe_calculate 136 = .ok (.ireturn, 1) := by decide +kernel
theorem d_XDe_calculate_137 : decode b_XDe_calculate 137 = .ok (.aload_n 0, 1) := by decide +kernel
theorem d_XDe_calculate_138 : decode b_XDe_calculate 138 = .ok (.aload_n 1, 1) := by decide +kernel
theorem d_XDe_calculate_139 : decode b_XDe_calculate 139 = .ok (.getfield 77, 3) := by decide +kernel
theorem d_XDe_calculate_142 : decode b_XDe_calculate 142 = .ok (.iload_n 2, 1) := by decide +kernel
theorem d_XDe_calculate_143 : decode b_XDe_calculate 143 = .ok (.lload 5, 2) := by decide +kernel
theorem d_XDe_calculate_145 : decode b_XDe_calculate 145 = .ok (.lload 7, 2) := by decide +kernel
theorem d_XDe_calculate_147 : decode b_XDe_calculate 147 = .ok (.lsub, 1) := by decide +kernel
theorem d_XDe_calculate_148 : decode b_XDe_calculate 148 = .ok (.invokevirtual 101, 3) := by decide +kernel
theorem d_XDe_calculate_151 : decode b_XDe_calculate 151 = .ok (.ireturn, 1) := by decide +kernel
theorem d_XDe_calculate_152 : decode b_XDe_calculate 152 = .ok (.aload_n 0, 1) := by decide +kernel
theorem d_XDe_calculate_153 : decode b_XDe_calculate 153 = .ok (.aload_n 1, 1) := by decide +kernel
theorem d_XDe_calculate_154 : decode b_XDe_calculate 154 = .ok (.iload_n 2, 1) := by decide +kernel
theorem d_XDe_calculate_155 : decode b_XDe_calculate 155 = .ok (.iload_n 3, 1) := by decide +kernel
theorem d_XDe_calculate_156 : decode b_XDe_calculate 156 = .ok (.invokevirtual 109, 3) := by decide +kernel
theorem d_XDe_calculate_159 : decode b_XDe_calculate 159 = .ok (.ireturn, 1) := by decide +kernel
theorem d_XDe_calculate_160 : decode b_XDe_calculate 160 = .ok (.aload_n 0, 1) := by decide +kernel
theorem d_XDe_calculate_161 : decode b_XDe_calculate 161 = .ok (.aload_n 1, 1) := by decide +kernel
theorem d_XDe_calculate_162 : decode b_XDe_calculate 162 = .ok (.iload_n 2, 1) := by decide +kernel
theorem d_XDe_calculate_163 : decode b_XDe_calculate 163 = .ok (.iload_n 3, 1) := by decide +kernel
theorem d_XDe_calculate_164 : decode b_XDe_calculate 164 = .ok (.invokevirtual 112, 3) := by decide +kernel
theorem d_XDe_calculate_167 : decode b_XDe_calculate 167 = .ok (.ireturn, 1) := by decide +kernel
theorem d_XIn_place_0 : decode b_XIn_place 0 = .ok (.aload_n 0, 1) := by decide +kernel
theorem d_XIn_place_1 : decode b_XIn_place 1 = .ok (.getfield 15, 3) := by decide +kernel
theorem d_XIn_place_4 : decode b_XIn_place 4 = .ok (.iload_n 1, 1) := by decide +kernel
theorem d_XIn_place_5 : decode b_XIn_place 5 = .ok (.invokevirtual 25, 3) := by decide +kernel
theorem d_XIn_place_8 : decode b_XIn_place 8 = .ok (.iconst 4, 1) := by decide +kernel
theorem d_XIn_place_9 : decode b_XIn_place 9 = .ok (.ishr, 1) := by decide +kernel
theorem d_XIn_place_10 : decode b_XIn_place 10 = .ok (.istore_n 2, 1) := by decide +kernel
theorem d_XIn_place_11 : decode b_XIn_place 11 = .ok (.aload_n 0, 1) := by decide +kernel
theorem d_XIn_place_12 : decode b_XIn_place 12 = .ok (.getfield 15, 3) := by decide +kernel
theorem d_XIn_place_15 : decode b_XIn_place 15 = .ok (.iload_n 1, 1) := by decide +kernel
theorem d_XIn_place_16 : decode b_XIn_place 16 = .ok (.invokevirtual 25, 3) := by decide +kernel
theorem d_XIn_place_19 : decode b_XIn_place 19 = .ok (.bipush 15, 2) := by decide +kernel
theorem d_XIn_place_21 : decode b_XIn_place 21 = .ok (.iand, 1) := by decide +kernel
theorem d_XIn_place_22 : decode b_XIn_place 22 = .ok (.sipush 256, 3) := by decide +kernel
theorem d_XIn_place_25 : decode b_XIn_place 25 = .ok (.imul, 1) := by decide +kernel
theorem d_XIn_place_26 : decode b_XIn_place 26 = .ok (.aload_n 0, 1) := by decide +kernel
theorem d_XIn_place_27 : decode b_XIn_place 27 = .ok (.getfield 15, 3) := by decide +kernel
theorem d_XIn_place_30 : decode b_XIn_place 30 = .ok (.iload_n 1, 1) := by decide +kernel
theorem d_XIn_place_31 : decode b_XIn_place 31 = .ok (.iconst 1, 1) := by decide +kernel
theorem d_XIn_place_32 : decode b_XIn_place 32 = .ok (.iadd, 1) := by decide +kernel
theorem d_XIn_place_33 : decode b_XIn_place 33 = .ok (.invokevirtual 25, 3) := by decide +kernel
theorem d_XIn_place_36 : decode b_XIn_place 36 = .ok (.iadd, 1) := by decide +kernel
theorem d_XIn_place_37 : decode b_XIn_place 37 = .ok (.istore_n 3, 1) := by decide +kernel
theorem d_XIn_place_38 : decode b_XIn_place 38 = .ok (.iload_n 2, 1) := by decide +kernel
theorem d_XIn_place_39 : decode b_XIn_place 39 = .ok (.ifCond .ne 7, 3) := by decide +kernel
theorem d_XIn_place_42 : decode b_XIn_place 42 = .ok (.iload_n 3, 1) := by decide +kernel
theorem d_XIn_place_43 : decode b_XIn_place 43 = .ok (.goto 10, 3) := by decide +kernel
theorem d_XIn_place_46 : decode b_XIn_place 46 = .ok (.iload_n 3, 1) := by decide +kernel
theorem d_XIn_place_47 : decode b_XIn_place 47 = .ok (.aload_n 0, 1) := by decide +kernel
theorem d_XIn_place_48 : decode b_XIn_place 48 = .ok (.iload_n 2, 1) := by decide +kernel
theorem d_XIn_place_49 : decode b_XIn_place 49 = .ok (.invokevirtual 50, 3) := by decide +kernel
theorem d_XIn_place_52 : decode b_XIn_place 52 = .ok (.iadd, 1) := by decide +kernel
theorem d_XIn_place_53 : decode b_XIn_place 53 = .ok (.ireturn, 1) := by decide +kernel
theorem d_XIn_findAddresses_0 : decode b_XIn_findAddresses 0 = .ok (.aload_n 0, 1) := by decide +kernel
theorem d_XIn_findAddresses_1 : decode b_XIn_findAddresses 1 = .ok (.getfield 29, 3) := by decide +kernel
theorem d_XIn_findAddresses_4 : decode b_XIn_findAddresses 4 = .ok (.sipush 128, 3) := by decide +kernel
theorem d_XIn_findAddresses_7 : decode b_XIn_findAddresses 7 = .ok (.if_icmp .ge 21, 3) := by decide +kernel
theorem d_XIn_findAddresses_10 : decode b_XIn_findAddresses 10 = .ok (.aload_n 0, 1) := by decide +kernel
theorem d_XIn_findAddresses_11 : decode b_XIn_findAddresses 11 = .ok (.getfield 40, 3) := by decide +kernel
theorem d_XIn_findAddresses_14 : decode b_XIn_findAddresses 14 = .ok (.ifCond .eq 14, 3) := by decide +kernel
theorem d_XIn_findAddresses_17 : decode b_XIn_findAddresses 17 = .ok (.aload_n 1, 1) := by decide +kernel
theorem d_XIn_findAddresses_18 : decode b_XIn_findAddresses 18 = .ok (.aload_n 0, 1) := by decide +kernel
theorem d_XIn_findAddresses_19 : decode b_XIn_findAddresses 19 = .ok (.getfield 40, 3) := by decide +kernel
theorem d_XIn_findAddresses_22 : decode b_XIn_findAddresses 22 = .ok (.invokevirtual 50, 3) := by decide +kernel
theorem d_XIn_findAddresses_25 : decode b_XIn_findAddresses 25 = .ok (.goto 4, 3) := by decide +kernel
theorem d_XIn_findAddresses_28 : decode b_XIn_findAddresses 28 = .ok (.iconst 0, 1) := by decide +kernel
theorem d_XIn_findAddresses_29 : decode b_XIn_findAddresses 29 = .ok (.istore_n 3, 1) := by decide +kernel
theorem d_XIn_findAddresses_30 : decode b_XIn_findAddresses 30 = .ok (.aload_n 0, 1) := by decide +kernel
theorem d_XIn_findAddresses_31 : decode b_XIn_findAddresses 31 = .ok (.aload_n 1, 1) := by decide +kernel
theorem d_XIn_findAddresses_32 : decode b_XIn_findAddresses 32 = .ok (.iload_n 2, 1) := by decide +kernel
theorem d_XIn_findAddresses_33 : decode b_XIn_findAddresses 33 = .ok (.iconst 2, 1) := by decide +kernel
theorem d_XIn_findAddresses_34 : decode b_XIn_findAddresses 34 = .ok (.iadd, 1) := by decide +kernel
theorem d_XIn_findAddresses_35 : decode b_XIn_findAddresses 35 = .ok (.invokestatic 53, 3) := by decide +kernel
theorem d_XIn_findAddresses_38 : decode b_XIn_findAddresses 38 = .ok (.iload_n 3, 1) := by decide +kernel
theorem d_XIn_findAddresses_39 : decode b_XIn_findAddresses 39 = .ok (.iadd, 1) := by decide +kernel
theorem d_XIn_findAddresses_40 : decode b_XIn_findAddresses 40 = .ok (.ldc 57, 2) := by decide +kernel
theorem d_XIn_findAddresses_42 : decode b_XIn_findAddresses 42 = .ok (.iand, 1) := by decide +kernel
theorem d_XIn_findAddresses_43 : decode b_XIn_findAddresses 43 = .ok (.putfield 58, 3) := by decide +kernel
theorem d_XIn_findAddresses_46 : decode b_XIn_findAddresses 46 = .ok (.aload_n 0, 1) := by decide +kernel
theorem d_XIn_findAddresses_47 : decode b_XIn_findAddresses 47 = .ok (.aload_n 0, 1) := by decide +kernel
theorem d_XIn_findAddresses_48 : decode b_XIn_findAddresses 48 = .ok (.getfield 29, 3) := by decide +kernel
theorem d_XIn_findAddresses_51 : decode b_XIn_findAddresses 51 = .ok (.sipush 192, 3) := by decide +kernel
theorem d_XIn_findAddresses_54 : decode b_XIn_findAddresses 54 = .ok (.if_icmp .ge 10, 3) := by decide +kernel
theorem d_XIn_findAddresses_57 : decode b_XIn_findAddresses 57 = .ok (.aload_n 0, 1) := by decide +kernel
theorem d_XIn_findAddresses_58 : decode b_XIn_findAddresses 58 = .ok (.getfield 58, 3) := by decide +kernel
theorem d_XIn_findAddresses_61 : decode b_XIn_findAddresses 61 = .ok (.goto 13, 3) := by decide +kernel
theorem d_XIn_findAddresses_64 : decode b_XIn_findAddresses 64 = .ok (.aload_n 1, 1) := by decide +kernel
theorem d_XIn_findAddresses_65 : decode b_XIn_findAddresses 65 = .ok (.iload_n 2, 1) := by decide +kernel
theorem d_XIn_findAddresses_66 : decode b_XIn_findAddresses 66 = .ok (.iconst 4, 1) := by decide +kernel
theorem d_XIn_findAddresses_67 : decode b_XIn_findAddresses 67 = .ok (.iadd, 1) := by decide +kernel
theorem d_XIn_findAddresses_68 : decode b_XIn_findAddresses 68 = .ok (.invokestatic 53, 3) := by decide +kernel
theorem d_XIn_findAddresses_71 : decode b_XIn_findAddresses 71 = .ok (.ldc 57, 2) := by decide +kernel
theorem d_XIn_findAddresses_73 : decode b_XIn_findAddresses 73 = .ok (.iand, 1) := by decide +kernel
theorem d_XIn_findAddresses_74 : decode b_XIn_findAddresses 74 = .ok (.putfield 61, 3) := by decide +kernel
theorem d_XIn_findAddresses_77 : decode b_XIn_findAddresses 77 = .ok (.return_, 1) := by decide +kernel
theorem d_XIn_fetch_0 : decode b_XIn_fetch 0 = .ok (.aload_n 1, 1) := by decide +kernel
theorem d_XIn_fetch_1 : decode b_XIn_fetch 1 = .ok (.getfield 9, 3) := by decide +kernel
theorem d_XIn_fetch_4 : decode b_XIn_fetch 4 = .ok (.istore_n 2, 1) := by decide +kernel
theorem d_XIn_fetch_5 : decode b_XIn_fetch 5 = .ok (.iload_n 2, 1) := by decide +kernel
theorem d_XIn_fetch_6 : decode b_XIn_fetch 6 = .ok (.iconst 1, 1) := by decide +kernel
theorem d_XIn_fetch_7 : decode b_XIn_fetch 7 = .ok (.iand, 1) := by decide +kernel
theorem d_XIn_fetch_8 : decode b_XIn_fetch 8 = .ok (.ifCond .eq 6, 3) := by decide +kernel
theorem d_XIn_fetch_11 : decode b_XIn_fetch 11 = .ok (.bipush 6, 2) := by decide +kernel
theorem d_XIn_fetch_13 : decode b_XIn_fetch 13 = .ok (.ireturn, 1) := by decide +kernel
theorem d_XIn_fetch_14 : decode b_XIn_fetch 14 = .ok (.aload_n 1, 1) := by decide +kernel
theorem d_XIn_fetch_15 : decode b_XIn_fetch 15 = .ok (.getfield 15, 3) := by decide +kernel
theorem d_XIn_fetch_18 : decode b_XIn_fetch 18 = .ok (.iload_n 2, 1) := by decide +kernel
theorem d_XIn_fetch_19 : decode b_XIn_fetch 19 = .ok (.iconst 2, 1) := by decide +kernel
theorem d_XIn_fetch_20 : decode b_XIn_fetch 20 = .ok (.invokevirtual 19, 3) := by decide +kernel
theorem d_XIn_fetch_23 : decode b_XIn_fetch 23 = .ok (.ifCond .ne 5, 3) := by decide +kernel
theorem d_XIn_fetch_26 : decode b_XIn_fetch 26 = .ok (.iconst 5, 1) := by decide +kernel
theorem d_XIn_fetch_27 : decode b_XIn_fetch 27 = .ok (.ireturn, 1) := by decide +kernel
theorem d_XIn_fetch_28 : decode b_XIn_fetch 28 = .ok (.aload_n 0, 1) := by decide +kernel
theorem d_XIn_fetch_29 : decode b_XIn_fetch 29 = .ok (.aload_n 1, 1) := by decide +kernel
theorem d_XIn_fetch_30 : decode b_XIn_fetch 30 = .ok (.getfield 15, 3) := by decide +kernel
theorem d_XIn_fetch_33 : decode b_XIn_fetch 33 = .ok (.iload_n 2, 1) := by decide +kernel
theorem d_XIn_fetch_34 : decode b_XIn_fetch 34 = .ok (.invokevirtual 25, 3) := by decide +kernel
theorem d_XIn_fetch_37 : decode b_XIn_fetch 37 = .ok (.putfield 29, 3) := by decide +kernel
theorem d_XIn_fetch_40 : decode b_XIn_fetch 40 = .ok (.aload_n 0, 1) := by decide +kernel
theorem d_XIn_fetch_41 : decode b_XIn_fetch 41 = .ok (.getfield 29, 3) := by decide +kernel
theorem d_XIn_fetch_44 : decode b_XIn_fetch 44 = .ok (.bipush 64, 2) := by decide +kernel
theorem d_XIn_fetch_46 : decode b_XIn_fetch 46 = .ok (.if_icmp .ge 7, 3) := by decide +kernel
theorem d_XIn_fetch_49 : decode b_XIn_fetch 49 = .ok (.iconst 2, 1) := by decide +kernel
theorem d_XIn_fetch_50 : decode b_XIn_fetch 50 = .ok (.goto 19, 3) := by decide +kernel
theorem d_XIn_fetch_53 : decode b_XIn_fetch 53 = .ok (.aload_n 0, 1) := by decide +kernel
theorem d_XIn_fetch_54 : decode b_XIn_fetch 54 = .ok (.getfield 29, 3) := by decide +kernel
theorem d_XIn_fetch_57 : decode b_XIn_fetch 57 = .ok (.sipush 192, 3) := by decide +kernel
theorem d_XIn_fetch_60 : decode b_XIn_fetch 60 = .ok (.if_icmp .ge 7, 3) := by decide +kernel
theorem d_XIn_fetch_63 : decode b_XIn_fetch 63 = .ok (.iconst 4, 1) := by decide +kernel
theorem d_XIn_fetch_64 : decode b_XIn_fetch 64 = .ok (.goto 5, 3) := by decide +kernel
theorem d_XIn_fetch_67 : decode b_XIn_fetch 67 = .ok (.bipush 6, 2) := by decide +kernel
theorem d_XIn_fetch_69 : decode b_XIn_fetch 69 = .ok (.istore_n 3, 1) := by decide +kernel
theorem d_XIn_fetch_70 : decode b_XIn_fetch 70 = .ok (.aload_n 1, 1) := by decide +kernel
theorem d_XIn_fetch_71 : decode b_XIn_fetch 71 = .ok (.getfield 15, 3) := by decide +kernel
theorem d_XIn_fetch_74 : decode b_XIn_fetch 74 = .ok (.iload_n 2, 1) := by decide +kernel
theorem d_XIn_fetch_75 : decode b_XIn_fetch 75 = .ok (.iload_n 3, 1) := by decide +kernel
theorem d_XIn_fetch_76 : decode b_XIn_fetch 76 = .ok (.invokevirtual 19, 3) := by decide +kernel
theorem d_XIn_fetch_79 : decode b_XIn_fetch 79 = .ok (.ifCond .ne 5, 3) := by decide +kernel
theorem d_XIn_fetch_82 : decode b_XIn_fetch 82 = .ok (.iconst 5, 1) := by decide +kernel
theorem d_XIn_fetch_83 : decode b_XIn_fetch 83 = .ok (.ireturn, 1) := by decide +kernel
theorem d_XIn_fetch_84 : decode b_XIn_fetch 84 = .ok (.aload_n 0, 1) := by decide +kernel
theorem d_XIn_fetch_85 : decode b_XIn_fetch 85 = .ok (.aload_n 1, 1) := by decide +kernel
theorem d_XIn_fetch_86 : decode b_XIn_fetch 86 = .ok (.getfield 15, 3) := by decide +kernel
theorem d_XIn_fetch_89 : decode b_XIn_fetch 89 = .ok (.iload_n 2, 1) := by decide +kernel
theorem d_XIn_fetch_90 : decode b_XIn_fetch 90 = .ok (.iconst 1, 1) := by decide +kernel
theorem d_XIn_fetch_91 : decode b_XIn_fetch 91 = .ok (.iadd, 1) := by decide +kernel
theorem d_XIn_fetch_92 : decode b_XIn_fetch 92 = .ok (.invokevirtual 25, 3) := by decide +kernel
theorem d_XIn_fetch_95 : decode b_XIn_fetch 95 = .ok (.putfield 34, 3) := by decide +kernel
theorem d_XIn_fetch_98 : decode b_XIn_fetch 98 = .ok (.aload_n 0, 1) := by decide +kernel
theorem d_XIn_fetch_99 : decode b_XIn_fetch 99 = .ok (.aload_n 0, 1) := by decide +kernel
theorem d_XIn_fetch_100 : decode b_XIn_fetch 100 = .ok (.getfield 34, 3) := by decide +kernel
theorem d_XIn_fetch_103 : decode b_XIn_fetch 103 = .ok (.iconst 4, 1) := by decide +kernel
theorem d_XIn_fetch_104 : decode b_XIn_fetch 104 = .ok (.ishr, 1) := by decide +kernel
theorem d_XIn_fetch_105 : decode b_XIn_fetch 105 = .ok (.putfield 37, 3) := by decide +kernel
theorem d_XIn_fetch_108 : decode b_XIn_fetch 108 = .ok (.aload_n 0, 1) := by decide +kernel
theorem d_XIn_fetch_109 : decode b_XIn_fetch 109 = .ok (.aload_n 0, 1) := by decide +kernel
theorem d_XIn_fetch_110 : decode b_XIn_fetch 110 = .ok (.getfield 34, 3) := by decide +kernel
theorem d_XIn_fetch_113 : decode b_XIn_fetch 113 = .ok (.bipush 15, 2) := by decide +kernel
theorem d_XIn_fetch_115 : decode b_XIn_fetch 115 = .ok (.iand, 1) := by decide +kernel
theorem d_XIn_fetch_116 : decode b_XIn_fetch 116 = .ok (.putfield 40, 3) := by decide +kernel
theorem d_XIn_fetch_119 : decode b_XIn_fetch 119 = .ok (.aload_n 0, 1) := by decide +kernel
theorem d_XIn_fetch_120 : decode b_XIn_fetch 120 = .ok (.iload_n 2, 1) := by decide +kernel
theorem d_XIn_fetch_121 : decode b_XIn_fetch 121 = .ok (.iload_n 3, 1) := by decide +kernel
theorem d_XIn_fetch_122 : decode b_XIn_fetch 122 = .ok (.iadd, 1) := by decide +kernel
theorem d_XIn_fetch_123 : decode b_XIn_fetch 123 = .ok (.putfield 43, 3) := by decide +kernel
theorem d_XIn_fetch_126 : decode b_XIn_fetch 126 = .ok (.iload_n 3, 1) := by decide +kernel
theorem d_XIn_fetch_127 : decode b_XIn_fetch 127 = .ok (.iconst 2, 1) := by decide +kernel
theorem d_XIn_fetch_128 : decode b_XIn_fetch 128 = .ok (.if_icmp .le 9, 3) := by decide +kernel
theorem d_XIn_fetch_131 : decode b_XIn_fetch 131 = .ok (.aload_n 0, 1) := by decide +kernel
theorem d_XIn_fetch_132 : decode b_XIn_fetch 132 = .ok (.aload_n 1, 1) := by decide +kernel
theorem d_XIn_fetch_133 : decode b_XIn_fetch 133 = .ok (.iload_n 2, 1) := by decide +kernel
theorem d_XIn_fetch_134 : decode b_XIn_fetch 134 = .ok (.invokevirtual 46, 3) := by decide +kernel
theorem d_XIn_fetch_137 : decode b_XIn_fetch 137 = .ok (.iconst 0, 1) := by decide +kernel
theorem d_XIn_fetch_138 : decode b_XIn_fetch 138 = .ok (.ireturn, 1) := by decide +kernel
theorem d_XMe_store_0 : decode b_XMe_store 0 = .ok (.lload_n 3, 1) := by decide +kernel
theorem d_XMe_store_1 : decode b_XMe_store 1 = .ok (.lstore 5, 2) := by decide +kernel
theorem d_XMe_store_3 : decode b_XMe_store 3 = .ok (.iload_n 2, 1) := by decide +kernel
theorem d_XMe_store_4 : decode b_XMe_store 4 = .ok (.iconst 1, 1) := by decide +kernel
theorem d_XMe_store_5 : decode b_XMe_store 5 = .ok (.isub, 1) := by decide +kernel
theorem d_XMe_store_6 : decode b_XMe_store 6 = .ok (.istore 7, 2) := by decide +kernel
theorem d_XMe_store_8 : decode b_XMe_store 8 = .ok (.iload 7, 2) := by decide +kernel
theorem d_XMe_store_10 : decode b_XMe_store 10 = .ok (.ifCond .lt 31, 3) := by decide +kernel
theorem d_XMe_store_13 : decode b_XMe_store 13 = .ok (.aload_n 0, 1) := by decide +kernel
theorem d_XMe_store_14 : decode b_XMe_store 14 = .ok (.iload_n 1, 1) := by decide +kernel
theorem d_XMe_store_15 : decode b_XMe_store 15 = .ok (.iload 7, 2) := by decide +kernel
theorem d_XMe_store_17 : decode b_XMe_store 17 = .ok (.iadd, 1) := by decide +kernel
theorem d_XMe_store_18 : decode b_XMe_store 18 = .ok (.lload 5, 2) := by decide +kernel
theorem d_XMe_store_20 : decode b_XMe_store 20 = .ok (.ldc2_w 23, 3) := by decide +kernel
theorem d_XMe_store_23 : decode b_XMe_store 23 = .ok (.land, 1) := by decide +kernel
theorem d_XMe_store_24 : decode b_XMe_store 24 = .ok (.l2i, 1) := by decide +kernel
theorem d_XMe_store_25 : decode b_XMe_store 25 = .ok (.invokevirtual 25, 3) := by decide +kernel
theorem d_XMe_store_28 : decode b_XMe_store 28 = .ok (.lload 5, 2) := by decide +kernel
theorem d_XMe_store_30 : decode b_XMe_store 30 = .ok (.bipush 8, 2) := by decide +kernel
theorem d_XMe_store_32 : decode b_XMe_store 32 = .ok (.lshr, 1) := by decide +kernel
theorem d_XMe_store_33 : decode b_XMe_store 33 = .ok (.lstore 5, 2) := by decide +kernel
theorem d_XMe_store_35 : decode b_XMe_store 35 = .ok (.iinc 7 (-1), 3) := by decide +kernel
theorem d_XMe_store_38 : decode b_XMe_store 38 = .ok (.goto (-30), 3) := by decide +kernel
theorem d_XMe_store_41 : decode b_XMe_store 41 = .ok (.return_, 1) := by decide +kernel
theorem d_XOc_testBits_0 : decode b_XOc_testBits 0 = .ok (.iload_n 1, 1) := by decide +kernel
theorem d_XOc_testBits_1 : decode b_XOc_testBits 1 = .ok (.iload_n 2, 1) := by decide +kernel
theorem d_XOc_testBits_2 : decode b_XOc_testBits 2 = .ok (.iand, 1) := by decide +kernel
theorem d_XOc_testBits_3 : decode b_XOc_testBits 3 = .ok (.istore_n 3, 1) := by decide +kernel
theorem d_XOc_testBits_4 : decode b_XOc_testBits 4 = .ok (.aload_n 0, 1) := by decide +kernel
theorem d_XOc_testBits_5 : decode b_XOc_testBits 5 = .ok (.getfield 9, 3) := by decide +kernel
theorem d_XOc_testBits_8 : decode b_XOc_testBits 8 = .ok (.iload_n 3, 1) := by decide +kernel
theorem d_XOc_testBits_9 : decode b_XOc_testBits 9 = .ok (.ifCond .ne 7, 3) := by decide +kernel
theorem d_XOc_testBits_12 : decode b_XOc_testBits 12 = .ok (.iconst 0, 1) := by decide +kernel
theorem d_XOc_testBits_13 : decode b_XOc_testBits 13 = .ok (.goto 13, 3) := by decide +kernel
theorem d_XOc_testBits_16 : decode b_XOc_testBits 16 = .ok (.iload_n 3, 1) := by decide +kernel
theorem d_XOc_testBits_17 : decode b_XOc_testBits 17 = .ok (.iload_n 2, 1) := by decide +kernel
theorem d_XOc_testBits_18 : decode b_XOc_testBits 18 = .ok (.if_icmp .ne 7, 3) := by decide +kernel
theorem d_XOc_testBits_21 : decode b_XOc_testBits 21 = .ok (.iconst 3, 1) := by decide +kernel
theorem d_XOc_testBits_22 : decode b_XOc_testBits 22 = .ok (.goto 4, 3) := by decide +kernel
theorem d_XOc_testBits_25 : decode b_XOc_testBits 25 = .ok (.iconst 1, 1) := by decide +kernel
theorem d_XOc_testBits_26 : decode b_XOc_testBits 26 = .ok (.putfield 72, 3) := by decide +kernel
theorem d_XOc_testBits_29 : decode b_XOc_testBits 29 = .ok (.return_, 1) := by decide +kernel
theorem d_XOc_putBits_0 : decode b_XOc_putBits 0 = .ok (.aload_n 0, 1) := by decide +kernel
theorem d_XOc_putBits_1 : decode b_XOc_putBits 1 = .ok (.getfield 21, 3) := by decide +kernel
theorem d_XOc_putBits_4 : decode b_XOc_putBits 4 = .ok (.iload_n 1, 1) := by decide +kernel
theorem d_XOc_putBits_5 : decode b_XOc_putBits 5 = .ok (.iload_n 2, 1) := by decide +kernel
theorem d_XOc_putBits_6 : decode b_XOc_putBits 6 = .ok (.invokevirtual 48, 3) := by decide +kernel
theorem d_XOc_putBits_9 : decode b_XOc_putBits 9 = .ok (.aload_n 0, 1) := by decide +kernel
theorem d_XOc_putBits_10 : decode b_XOc_putBits 10 = .ok (.getfield 9, 3) := by decide +kernel
theorem d_XOc_putBits_13 : decode b_XOc_putBits 13 = .ok (.iload_n 2, 1) := by decide +kernel
theorem d_XOc_putBits_14 : decode b_XOc_putBits 14 = .ok (.invokevirtual 75, 3) := by decide +kernel
theorem d_XOc_putBits_17 : decode b_XOc_putBits 17 = .ok (.iconst 0, 1) := by decide +kernel
theorem d_XOc_putBits_18 : decode b_XOc_putBits 18 = .ok (.ireturn, 1) := by decide +kernel
theorem d_XOc_withImmediate_0 : decode b_XOc_withImmediate 0 = .ok (.aload_n 0, 1) := by decide +kernel
theorem d_XOc_withImmediate_1 : decode b_XOc_withImmediate 1 = .ok (.getfield 21, 3) := by decide +kernel
theorem d_XOc_withImmediate_4 : decode b_XOc_withImmediate 4 = .ok (.aload_n 1, 1) := by decide +kernel
theorem d_XOc_withImmediate_5 : decode b_XOc_withImmediate 5 = .ok (.getfield 22, 3) := by decide +kernel
theorem d_XOc_withImmediate_8 : decode b_XOc_withImmediate 8 = .ok (.iconst 1, 1) := by decide +kernel
theorem d_XOc_withImmediate_9 : decode b_XOc_withImmediate 9 = .ok (.invokevirtual 28, 3) := by decide +kernel
theorem d_XOc_withImmediate_12 : decode b_XOc_withImmediate 12 = .ok (.ifCond .ne 5, 3) := by decide +kernel
theorem d_XOc_withImmediate_15 : decode b_XOc_withImmediate 15 = .ok (.iconst 5, 1) := by decide +kernel
theorem d_XOc_withImmediate_16 : decode b_XOc_withImmediate 16 = .ok (.ireturn, 1) := by decide +kernel
theorem d_XOc_withImmediate_17 : decode b_XOc_withImmediate 17 = .ok (.aload_n 0, 1) := by decide +kernel
theorem d_XOc_withImmediate_18 : decode b_XOc_withImmediate 18 = .ok (.getfield 21, 3) := by decide +kernel
theorem d_XOc_withImmediate_21 : decode b_XOc_withImmediate 21 = .ok (.aload_n 1, 1) := by decide +kernel
theorem d_XOc_withImmediate_22 : decode b_XOc_withImmediate 22 = .ok (.getfield 22, 3) := by decide +kernel
theorem d_XOc_withImmediate_25 : decode b_XOc_withImmediate 25 = .ok (.invokevirtual 34, 3) := by decide +kernel
theorem d_XOc_withImmediate_28 : decode b_XOc_withImmediate 28 = .ok (.istore_n 2, 1) := by decide +kernel
theorem d_XOc_withImmediate_29 : decode b_XOc_withImmediate 29 = .ok (.aload_n 1, 1) := by decide +kernel
theorem d_XOc_withImmediate_30 : decode b_XOc_withImmediate 30 = .ok (.getfield 38, 3) := by decide +kernel
theorem d_XOc_withImmediate_33 : decode b_XOc_withImmediate 33 = .ok (.tableswitch 113 145 150 #[39, 50, 113, 67, 82, 98], 39) := by decide +kernel
theorem d_XOc_withImmediate_72 : decode b_XOc_withImmediate 72 = .ok (.aload_n 0, 1) := by decide +kernel
theorem d_XOc_withImmediate_73 : decode b_XOc_withImmediate 73 = .ok (.iload_n 2, 1) := by decide +kernel
theorem d_XOc_withImmediate_74 : decode b_XOc_withImmediate 74 = .ok (.aload_n 1, 1) := by decide +kernel
theorem d_XOc_withImmediate_75 : decode b_XOc_withImmediate 75 = .ok (.getfield 41, 3) := by decide +kernel
theorem d_XOc_withImmediate_78 : decode b_XOc_withImmediate 78 = .ok (.invokevirtual 44, 3) := by decide +kernel
theorem d_XOc_withImmediate_81 : decode b_XOc_withImmediate 81 = .ok (.iconst 0, 1) := by decide +kernel
theorem d_XOc_withImmediate_82 : decode b_XOc_withImmediate 82 = .ok (.ireturn, 1) := by decide +kernel
theorem d_XOc_withImmediate_83 : decode b_XOc_withImmediate 83 = .ok (.aload_n 0, 1) := by decide +kernel
theorem d_XOc_withImmediate_84 : decode b_XOc_withImmediate 84 = .ok (.getfield 21, 3) := by decide +kernel
theorem d_XOc_withImmediate_87 : decode b_XOc_withImmediate 87 = .ok (.aload_n 1, 1) := by decide +kernel
theorem d_XOc_withImmediate_88 : decode b_XOc_withImmediate 88 = .ok (.getfield 22, 3) := by decide +kernel
theorem d_XOc_withImmediate_91 : decode b_XOc_withImmediate 91 = .ok (.aload_n 1, 1) := by decide +kernel
theorem d_XOc_withImmediate_92 : decode b_XOc_withImmediate 92 = .ok (.getfield 41, 3) := by decide +kernel
theorem d_XOc_withImmediate_95 : decode b_XOc_withImmediate 95 = .ok (.invokevirtual 48, 3) := by decide +kernel
theorem d_XOc_withImmediate_98 : decode b_XOc_withImmediate 98 = .ok (.iconst 0, 1) := by decide +kernel
theorem d_XOc_withImmediate_99 : decode b_XOc_withImmediate 99 = .ok (.ireturn, 1) := by decide +kernel
theorem d_XOc_withImmediate_100 : decode b_XOc_withImmediate 100 = .ok (.aload_n 0, 1) := by decide +kernel
theorem d_XOc_withImmediate_101 : decode b_XOc_withImmediate 101 = .ok (.aload_n 1, 1) := by decide +kernel
theorem d_XOc_withImmediate_102 : decode b_XOc_withImmediate 102 = .ok (.getfield 22, 3) := by decide +kernel
theorem d_XOc_withImmediate_105 : decode b_XOc_withImmediate 105 = .ok (.iload_n 2, 1) := by decide +kernel
theorem d_XOc_withImmediate_106 : decode b_XOc_withImmediate 106 = .ok (.aload_n 1, 1) := by decide +kernel
theorem d_XOc_withImmediate_107 : decode b_XOc_withImmediate 107 = .ok (.getfield 41, 3) := by decide +kernel
theorem d_XOc_withImmediate_110 : decode b_XOc_withImmediate 110 = .ok (.iand, 1) := by decide +kernel
theorem d_XOc_withImmediate_111 : decode b_XOc_withImmediate 111 = .ok (.invokevirtual 51, 3) := by decide +kernel
theorem d_XOc_withImmediate_114 : decode b_XOc_withImmediate 114 = .ok (.ireturn, 1) := by decide +kernel
theorem d_XOc_withImmediate_115 : decode b_XOc_withImmediate 115 = .ok (.aload_n 0, 1) := by decide +kernel
theorem d_XOc_withImmediate_116 : decode b_XOc_withImmediate 116 = .ok (.getfield 9, 3) := by decide +kernel
theorem d_XOc_withImmediate_119 : decode b_XOc_withImmediate 119 = .ok (.iload_n 2, 1) := by decide +kernel
theorem d_XOc_withImmediate_120 : decode b_XOc_withImmediate 120 = .ok (.aload_n 1, 1) := by decide +kernel
theorem d_XOc_withImmediate_121 : decode b_XOc_withImmediate 121 = .ok (.getfield 41, 3) := by decide +kernel
theorem d_XOc_withImmediate_124 : decode b_XOc_withImmediate 124 = .ok (.isub, 1) := by decide +kernel
theorem d_XOc_withImmediate_125 : decode b_XOc_withImmediate 125 = .ok (.i2l, 1) := by decide +kernel
theorem d_XOc_withImmediate_126 : decode b_XOc_withImmediate 126 = .ok (.invokevirtual 55, 3) := by decide +kernel
theorem d_XOc_withImmediate_129 : decode b_XOc_withImmediate 129 = .ok (.iconst 0, 1) := by decide +kernel
theorem d_XOc_withImmediate_130 : decode b_XOc_withImmediate 130 = .ok (.ireturn, 1) := by decide +kernel
theorem d_XOc_withImmediate_131 : decode b_XOc_withImmediate 131 = .ok (.aload_n 0, 1) := by decide +kernel
theorem d_XOc_withImmediate_132 : decode b_XOc_withImmediate 132 = .ok (.aload_n 1, 1) := by decide +kernel
theorem d_XOc_withImmediate_133 : decode b_XOc_withImmediate 133 = .ok (.getfield 22, 3) := by decide +kernel
theorem d_XOc_withImmediate_136 : decode b_XOc_withImmediate 136 = .ok (.iload_n 2, 1) := by decide +kernel
theorem d_XOc_withImmediate_137 : decode b_XOc_withImmediate 137 = .ok (.aload_n 1, 1) := by decide +kernel
theorem d_XOc_withImmediate_138 : decode b_XOc_withImmediate 138 = .ok (.getfield 41, 3) := by decide +kernel
theorem d_XOc_withImmediate_141 : decode b_XOc_withImmediate 141 = .ok (.ior, 1) := by decide +kernel
theorem d_XOc_withImmediate_142 : decode b_XOc_withImmediate 142 = .ok (.invokevirtual 51, 3) := by decide +kernel
theorem d_XOc_withImmediate_145 : decode b_XOc_withImmediate 145 = .ok (.ireturn, 1) := by decide +kernel
theorem d_XOc_withImmediate_146 : decode b_XOc_withImmediate 146 = .ok (.aload_n 0, 1) := by decide +kernel
theorem d_XOc_withImmediate_147 : decode b_XOc_withImmediate 147 = .ok (.aload_n 1, 1) := by decide +kernel
theorem d_XOc_withImmediate_148 : decode b_XOc_withImmediate 148 = .ok (.getfield 22, 3) := by decide +kernel
theorem d_XOc_withImmediate_151 : decode b_XOc_withImmediate 151 = .ok (.iload_n 2, 1) := by decide +kernel
theorem d_XOc_withImmediate_152 : decode b_XOc_withImmediate 152 = .ok (.aload_n 1, 1) := by decide +kernel
theorem d_XOc_withImmediate_153 : decode b_XOc_withImmediate 153 = .ok (.getfield 41, 3) := by decide +kernel
theorem d_XOc_withImmediate_156 : decode b_XOc_withImmediate 156 = .ok (.ixor, 1) := by decide +kernel
theorem d_XOc_withImmediate_157 : decode b_XOc_withImmediate 157 = .ok (.invokevirtual 51, 3) := by decide +kernel
theorem d_XOc_withImmediate_160 : decode b_XOc_withImmediate 160 = .ok (.ireturn, 1) := by decide +kernel
theorem d_XOc_entry_0 : decode b_XOc_entry 0 = .ok (.aload_n 1, 1) := by decide +kernel
theorem d_XOc_entry_1 : decode b_XOc_entry 1 = .ok (.getfield 63, 3) := by decide +kernel
theorem d_XOc_entry_4 : decode b_XOc_entry 4 = .ok (.aload_n 0, 1) := by decide +kernel
theorem d_XOc_entry_5 : decode b_XOc_entry 5 = .ok (.getfield 21, 3) := by decide +kernel
theorem d_XOc_entry_8 : decode b_XOc_entry 8 = .ok (.aload_n 1, 1) := by decide +kernel
theorem d_XOc_entry_9 : decode b_XOc_entry 9 = .ok (.getfield 22, 3) := by decide +kernel
theorem d_XOc_entry_12 : decode b_XOc_entry 12 = .ok (.iload_n 2, 1) := by decide +kernel
theorem d_XOc_entry_13 : decode b_XOc_entry 13 = .ok (.iadd, 1) := by decide +kernel
theorem d_XOc_entry_14 : decode b_XOc_entry 14 = .ok (.invokevirtual 34, 3) := by decide +kernel
theorem d_XOc_entry_17 : decode b_XOc_entry 17 = .ok (.iadd, 1) := by decide +kernel
theorem d_XOc_entry_18 : decode b_XOc_entry 18 = .ok (.ldc 86, 2) := by decide +kernel
theorem d_XOc_entry_20 : decode b_XOc_entry 20 = .ok (.iand, 1) := by decide +kernel
theorem d_XOc_entry_21 : decode b_XOc_entry 21 = .ok (.ireturn, 1) := by decide +kernel
theorem d_XOc_translate_0 : decode b_XOc_translate 0 = .ok (.iconst 0, 1) := by decide +kernel
theorem d_XOc_translate_1 : decode b_XOc_translate 1 = .ok (.istore_n 3, 1) := by decide +kernel
theorem d_XOc_translate_2 : decode b_XOc_translate 2 = .ok (.iload_n 3, 1) := by decide +kernel
theorem d_XOc_translate_3 : decode b_XOc_translate 3 = .ok (.iload_n 2, 1) := by decide +kernel
theorem d_XOc_translate_4 : decode b_XOc_translate 4 = .ok (.if_icmp .ge 28, 3) := by decide +kernel
theorem d_XOc_translate_7 : decode b_XOc_translate 7 = .ok (.aload_n 0, 1) := by decide +kernel
theorem d_XOc_translate_8 : decode b_XOc_translate 8 = .ok (.getfield 21, 3) := by decide +kernel
theorem d_XOc_translate_11 : decode b_XOc_translate 11 = .ok (.aload_n 0, 1) := by decide +kernel
theorem d_XOc_translate_12 : decode b_XOc_translate 12 = .ok (.aload_n 1, 1) := by decide +kernel
theorem d_XOc_translate_13 : decode b_XOc_translate 13 = .ok (.iload_n 3, 1) := by decide +kernel
theorem d_XOc_translate_14 : decode b_XOc_translate 14 = .ok (.invokevirtual 83, 3) := by decide +kernel
theorem d_XOc_translate_17 : decode b_XOc_translate 17 = .ok (.iconst 1, 1) := by decide +kernel
theorem d_XOc_translate_18 : decode b_XOc_translate 18 = .ok (.invokevirtual 28, 3) := by decide +kernel
theorem d_XOc_translate_21 : decode b_XOc_translate 21 = .ok (.ifCond .ne 5, 3) := by decide +kernel
theorem d_XOc_translate_24 : decode b_XOc_translate 24 = .ok (.iconst 5, 1) := by decide +kernel
theorem d_XOc_translate_25 : decode b_XOc_translate 25 = .ok (.ireturn, 1) := by decide +kernel
theorem d_XOc_translate_26 : decode b_XOc_translate 26 = .ok (.iinc 3 1, 3) := by decide +kernel
theorem d_XOc_translate_29 : decode b_XOc_translate 29 = .ok (.goto (-27), 3) := by decide +kernel
theorem d_XOc_translate_32 : decode b_XOc_translate 32 = .ok (.iconst 0, 1) := by decide +kernel
theorem d_XOc_translate_33 : decode b_XOc_translate 33 = .ok (.istore_n 3, 1) := by decide +kernel
theorem d_XOc_translate_34 : decode b_XOc_translate 34 = .ok (.iload_n 3, 1) := by decide +kernel
theorem d_XOc_translate_35 : decode b_XOc_translate 35 = .ok (.iload_n 2, 1) := by decide +kernel
theorem d_XOc_translate_36 : decode b_XOc_translate 36 = .ok (.if_icmp .ge 35, 3) := by decide +kernel
theorem d_XOc_translate_39 : decode b_XOc_translate 39 = .ok (.aload_n 0, 1) := by decide +kernel
theorem d_XOc_translate_40 : decode b_XOc_translate 40 = .ok (.getfield 21, 3) := by decide +kernel
theorem d_XOc_translate_43 : decode b_XOc_translate 43 = .ok (.aload_n 1, 1) := by decide +kernel
theorem d_XOc_translate_44 : decode b_XOc_translate 44 = .ok (.getfield 22, 3) := by decide +kernel
theorem d_XOc_translate_47 : decode b_XOc_translate 47 = .ok (.iload_n 3, 1) := by decide +kernel
theorem d_XOc_translate_48 : decode b_XOc_translate 48 = .ok (.iadd, 1) := by decide +kernel
theorem d_XOc_translate_49 : decode b_XOc_translate 49 = .ok (.aload_n 0, 1) := by decide +kernel
theorem d_XOc_translate_50 : decode b_XOc_translate 50 = .ok (.getfield 21, 3) := by decide +kernel
theorem d_XOc_translate_53 : decode b_XOc_translate 53 = .ok (.aload_n 0, 1) := by decide +kernel
theorem d_XOc_translate_54 : decode b_XOc_translate 54 = .ok (.aload_n 1, 1) := by decide +kernel
theorem d_XOc_translate_55 : decode b_XOc_translate 55 = .ok (.iload_n 3, 1) := by decide +kernel
theorem d_XOc_translate_56 : decode b_XOc_translate 56 = .ok (.invokevirtual 83, 3) := by decide +kernel
theorem d_XOc_translate_59 : decode b_XOc_translate 59 = .ok (.invokevirtual 34, 3) := by decide +kernel
theorem d_XOc_translate_62 : decode b_XOc_translate 62 = .ok (.invokevirtual 48, 3) := by decide +kernel
theorem d_XOc_translate_65 : decode b_XOc_translate 65 = .ok (.iinc 3 1, 3) := by decide +kernel
theorem d_XOc_translate_68 : decode b_XOc_translate 68 = .ok (.goto (-34), 3) := by decide +kernel
theorem d_XOc_translate_71 : decode b_XOc_translate 71 = .ok (.iconst 0, 1) := by decide +kernel
theorem d_XOc_translate_72 : decode b_XOc_translate 72 = .ok (.ireturn, 1) := by decide +kernel
theorem d_XOc_compare_0 : decode b_XOc_compare 0 = .ok (.iconst 0, 1) := by decide +kernel
theorem d_XOc_compare_1 : decode b_XOc_compare 1 = .ok (.istore_n 3, 1) := by decide +kernel
theorem d_XOc_compare_2 : decode b_XOc_compare 2 = .ok (.iconst 0, 1) := by decide +kernel
theorem d_XOc_compare_3 : decode b_XOc_compare 3 = .ok (.istore 4, 2) := by decide +kernel
theorem d_XOc_compare_5 : decode b_XOc_compare 5 = .ok (.iload 4, 2) := by decide +kernel
theorem d_XOc_compare_7 : decode b_XOc_compare 7 = .ok (.iload_n 2, 1) := by decide +kernel
theorem d_XOc_compare_8 : decode b_XOc_compare 8 = .ok (.if_icmp .ge 43, 3) := by decide +kernel
theorem d_XOc_compare_11 : decode b_XOc_compare 11 = .ok (.iload_n 3, 1) := by decide +kernel
theorem d_XOc_compare_12 : decode b_XOc_compare 12 = .ok (.ifCond .ne 39, 3) := by decide +kernel
theorem d_XOc_compare_15 : decode b_XOc_compare 15 = .ok (.aload_n 0, 1) := by decide +kernel
theorem d_XOc_compare_16 : decode b_XOc_compare 16 = .ok (.getfield 21, 3) := by decide +kernel
theorem d_XOc_compare_19 : decode b_XOc_compare 19 = .ok (.aload_n 1, 1) := by decide +kernel
theorem d_XOc_compare_20 : decode b_XOc_compare 20 = .ok (.getfield 22, 3) := by decide +kernel
theorem d_XOc_compare_23 : decode b_XOc_compare 23 = .ok (.iload 4, 2) := by decide +kernel
theorem d_XOc_compare_25 : decode b_XOc_compare 25 = .ok (.iadd, 1) := by decide +kernel
theorem d_XOc_compare_26 : decode b_XOc_compare 26 = .ok (.invokevirtual 34, 3) := by decide +kernel
theorem d_XOc_compare_29 : decode b_XOc_compare 29 = .ok (.aload_n 0, 1) := by decide +kernel
theorem d_XOc_compare_30 : decode b_XOc_compare 30 = .ok (.getfield 21, 3) := by decide +kernel
theorem d_XOc_compare_33 : decode b_XOc_compare 33 = .ok (.aload_n 1, 1) := by decide +kernel
theorem d_XOc_compare_34 : decode b_XOc_compare 34 = .ok (.getfield 63, 3) := by decide +kernel
theorem d_XOc_compare_37 : decode b_XOc_compare 37 = .ok (.iload 4, 2) := by decide +kernel
theorem d_XOc_compare_39 : decode b_XOc_compare 39 = .ok (.iadd, 1) := by decide +kernel
theorem d_XOc_compare_40 : decode b_XOc_compare 40 = .ok (.invokevirtual 34, 3) := by decide +kernel
theorem d_XOc_compare_43 : decode b_XOc_compare 43 = .ok (.isub, 1) := by decide +kernel
theorem d_XOc_compare_44 : decode b_XOc_compare 44 = .ok (.istore_n 3, 1) := by decide +kernel
theorem d_XOc_compare_45 : decode b_XOc_compare 45 = .ok (.iinc 4 1, 3) := by decide +kernel
theorem d_XOc_compare_48 : decode b_XOc_compare 48 = .ok (.goto (-43), 3) := by decide +kernel
theorem d_XOc_compare_51 : decode b_XOc_compare 51 = .ok (.aload_n 0, 1) := by decide +kernel
theorem d_XOc_compare_52 : decode b_XOc_compare 52 = .ok (.getfield 9, 3) := by decide +kernel
end
section
theorem d_XOc_compare_55 : decode b_XOc_compare 55 = .ok (.iload_n 3, 1) := by decide +kernel
theorem d_XOc_compare_56 : decode b_XOc_compare 56 = .ok (.i2l, 1) := by decide +kernel
theorem d_XOc_compare_57 : decode b_XOc_compare 57 = .ok (.invokevirtual 55, 3) := by decide +kernel
theorem d_XOc_compare_60 : decode b_XOc_compare 60 = .ok (.iconst 0, 1) := by decide +kernel
theorem d_XOc_compare_61 : decode b_XOc_compare 61 = .ok (.ireturn, 1) := by decide +kernel
theorem d_XOc_join_0 : decode b_XOc_join 0 = .ok (.iload_n 0, 1) := by decide +kernel
theorem d_XOc_join_1 : decode b_XOc_join 1 = .ok (.tableswitch 77 209 215 #[43, 77, 54, 65, 77, 69, 73], 43) := by decide +kernel
theorem d_XOc_join_44 : decode b_XOc_join 44 = .ok (.iload_n 1, 1) := by decide +kernel
theorem d_XOc_join_45 : decode b_XOc_join 45 = .ok (.sipush 240, 3) := by decide +kernel
theorem d_XOc_join_48 : decode b_XOc_join 48 = .ok (.iand, 1) := by decide +kernel
theorem d_XOc_join_49 : decode b_XOc_join 49 = .ok (.iload_n 2, 1) := by decide +kernel
theorem d_XOc_join_50 : decode b_XOc_join 50 = .ok (.bipush 15, 2) := by decide +kernel
theorem d_XOc_join_52 : decode b_XOc_join 52 = .ok (.iand, 1) := by decide +kernel
theorem d_XOc_join_53 : decode b_XOc_join 53 = .ok (.ior, 1) := by decide +kernel
theorem d_XOc_join_54 : decode b_XOc_join 54 = .ok (.ireturn, 1) := by decide +kernel
theorem d_XOc_join_55 : decode b_XOc_join 55 = .ok (.iload_n 1, 1) := by decide +kernel
theorem d_XOc_join_56 : decode b_XOc_join 56 = .ok (.bipush 15, 2) := by decide +kernel
theorem d_XOc_join_58 : decode b_XOc_join 58 = .ok (.iand, 1) := by decide +kernel
theorem d_XOc_join_59 : decode b_XOc_join 59 = .ok (.iload_n 2, 1) := by decide +kernel
theorem d_XOc_join_60 : decode b_XOc_join 60 = .ok (.sipush 240, 3) := by decide +kernel
theorem d_XOc_join_63 : decode b_XOc_join 63 = .ok (.iand, 1) := by decide +kernel
theorem d_XOc_join_64 : decode b_XOc_join 64 = .ok (.ior, 1) := by decide +kernel
theorem d_XOc_join_65 : decode b_XOc_join 65 = .ok (.ireturn, 1) := by decide +kernel
theorem d_XOc_join_66 : decode b_XOc_join 66 = .ok (.iload_n 1, 1) := by decide +kernel
theorem d_XOc_join_67 : decode b_XOc_join 67 = .ok (.iload_n 2, 1) := by decide +kernel
theorem d_XOc_join_68 : decode b_XOc_join 68 = .ok (.iand, 1) := by decide +kernel
theorem d_XOc_join_69 : decode b_XOc_join 69 = .ok (.ireturn, 1) := by decide +kernel
theorem d_XOc_join_70 : decode b_XOc_join 70 = .ok (.iload_n 1, 1) := by decide +kernel
theorem d_XOc_join_71 : decode b_XOc_join 71 = .ok (.iload_n 2, 1) := by decide +kernel
theorem d_XOc_join_72 : decode b_XOc_join 72 = .ok (.ior, 1) := by decide +kernel
theorem d_XOc_join_73 : decode b_XOc_join 73 = .ok (.ireturn, 1) := by decide +kernel
theorem d_XOc_join_74 : decode b_XOc_join 74 = .ok (.iload_n 1, 1) := by decide +kernel
theorem d_XOc_join_75 : decode b_XOc_join 75 = .ok (.iload_n 2, 1) := by decide +kernel
theorem d_XOc_join_76 : decode b_XOc_join 76 = .ok (.ixor, 1) := by decide +kernel
theorem d_XOc_join_77 : decode b_XOc_join 77 = .ok (.ireturn, 1) := by decide +kernel
theorem d_XOc_join_78 : decode b_XOc_join 78 = .ok (.iload_n 2, 1) := by decide +kernel
theorem d_XOc_join_79 : decode b_XOc_join 79 = .ok (.ireturn, 1) := by decide +kernel
theorem d_XOc_rewrite_0 : decode b_XOc_rewrite 0 = .ok (.iconst 0, 1) := by decide +kernel
theorem d_XOc_rewrite_1 : decode b_XOc_rewrite 1 = .ok (.istore_n 3, 1) := by decide +kernel
theorem d_XOc_rewrite_2 : decode b_XOc_rewrite 2 = .ok (.iconst 0, 1) := by decide +kernel
theorem d_XOc_rewrite_3 : decode b_XOc_rewrite 3 = .ok (.istore 4, 2) := by decide +kernel
theorem d_XOc_rewrite_5 : decode b_XOc_rewrite 5 = .ok (.iload 4, 2) := by decide +kernel
theorem d_XOc_rewrite_7 : decode b_XOc_rewrite 7 = .ok (.iload_n 2, 1) := by decide +kernel
theorem d_XOc_rewrite_8 : decode b_XOc_rewrite 8 = .ok (.if_icmp .ge 67, 3) := by decide +kernel
theorem d_XOc_rewrite_11 : decode b_XOc_rewrite 11 = .ok (.aload_n 1, 1) := by decide +kernel
theorem d_XOc_rewrite_12 : decode b_XOc_rewrite 12 = .ok (.getfield 38, 3) := by decide +kernel
theorem d_XOc_rewrite_15 : decode b_XOc_rewrite 15 = .ok (.aload_n 0, 1) := by decide +kernel
theorem d_XOc_rewrite_16 : decode b_XOc_rewrite 16 = .ok (.getfield 21, 3) := by decide +kernel
theorem d_XOc_rewrite_19 : decode b_XOc_rewrite 19 = .ok (.aload_n 1, 1) := by decide +kernel
theorem d_XOc_rewrite_20 : decode b_XOc_rewrite 20 = .ok (.getfield 22, 3) := by decide +kernel
theorem d_XOc_rewrite_23 : decode b_XOc_rewrite 23 = .ok (.iload 4, 2) := by decide +kernel
theorem d_XOc_rewrite_25 : decode b_XOc_rewrite 25 = .ok (.iadd, 1) := by decide +kernel
theorem d_XOc_rewrite_26 : decode b_XOc_rewrite 26 = .ok (.invokevirtual 34, 3) := by decide +kernel
theorem d_XOc_rewrite_29 : decode b_XOc_rewrite 29 = .ok (.aload_n 0, 1) := by decide +kernel
theorem d_XOc_rewrite_30 : decode b_XOc_rewrite 30 = .ok (.getfield 21, 3) := by decide +kernel
theorem d_XOc_rewrite_33 : decode b_XOc_rewrite 33 = .ok (.aload_n 1, 1) := by decide +kernel
theorem d_XOc_rewrite_34 : decode b_XOc_rewrite 34 = .ok (.getfield 63, 3) := by decide +kernel
theorem d_XOc_rewrite_37 : decode b_XOc_rewrite 37 = .ok (.iload 4, 2) := by decide +kernel
theorem d_XOc_rewrite_39 : decode b_XOc_rewrite 39 = .ok (.iadd, 1) := by decide +kernel
theorem d_XOc_rewrite_40 : decode b_XOc_rewrite 40 = .ok (.invokevirtual 34, 3) := by decide +kernel
theorem d_XOc_rewrite_43 : decode b_XOc_rewrite 43 = .ok (.invokestatic 79, 3) := by decide +kernel
theorem d_XOc_rewrite_46 : decode b_XOc_rewrite 46 = .ok (.istore 5, 2) := by decide +kernel
theorem d_XOc_rewrite_48 : decode b_XOc_rewrite 48 = .ok (.aload_n 0, 1) := by decide +kernel
theorem d_XOc_rewrite_49 : decode b_XOc_rewrite 49 = .ok (.getfield 21, 3) := by decide +kernel
theorem d_XOc_rewrite_52 : decode b_XOc_rewrite 52 = .ok (.aload_n 1, 1) := by decide +kernel
theorem d_XOc_rewrite_53 : decode b_XOc_rewrite 53 = .ok (.getfield 22, 3) := by decide +kernel
theorem d_XOc_rewrite_56 : decode b_XOc_rewrite 56 = .ok (.iload 4, 2) := by decide +kernel
theorem d_XOc_rewrite_58 : decode b_XOc_rewrite 58 = .ok (.iadd, 1) := by decide +kernel
theorem d_XOc_rewrite_59 : decode b_XOc_rewrite 59 = .ok (.iload 5, 2) := by decide +kernel
theorem d_XOc_rewrite_61 : decode b_XOc_rewrite 61 = .ok (.invokevirtual 48, 3) := by decide +kernel
theorem d_XOc_rewrite_64 : decode b_XOc_rewrite 64 = .ok (.iload_n 3, 1) := by decide +kernel
theorem d_XOc_rewrite_65 : decode b_XOc_rewrite 65 = .ok (.iload 5, 2) := by decide +kernel
theorem d_XOc_rewrite_67 : decode b_XOc_rewrite 67 = .ok (.ior, 1) := by decide +kernel
theorem d_XOc_rewrite_68 : decode b_XOc_rewrite 68 = .ok (.istore_n 3, 1) := by decide +kernel
theorem d_XOc_rewrite_69 : decode b_XOc_rewrite 69 = .ok (.iinc 4 1, 3) := by decide +kernel
theorem d_XOc_rewrite_72 : decode b_XOc_rewrite 72 = .ok (.goto (-67), 3) := by decide +kernel
theorem d_XOc_rewrite_75 : decode b_XOc_rewrite 75 = .ok (.aload_n 1, 1) := by decide +kernel
theorem d_XOc_rewrite_76 : decode b_XOc_rewrite 76 = .ok (.getfield 38, 3) := by decide +kernel
theorem d_XOc_rewrite_79 : decode b_XOc_rewrite 79 = .ok (.sipush 212, 3) := by decide +kernel
theorem d_XOc_rewrite_82 : decode b_XOc_rewrite 82 = .ok (.if_icmp .lt 11, 3) := by decide +kernel
theorem d_XOc_rewrite_85 : decode b_XOc_rewrite 85 = .ok (.aload_n 0, 1) := by decide +kernel
theorem d_XOc_rewrite_86 : decode b_XOc_rewrite 86 = .ok (.getfield 9, 3) := by decide +kernel
theorem d_XOc_rewrite_89 : decode b_XOc_rewrite 89 = .ok (.iload_n 3, 1) := by decide +kernel
theorem d_XOc_rewrite_90 : decode b_XOc_rewrite 90 = .ok (.invokevirtual 75, 3) := by decide +kernel
theorem d_XOc_rewrite_93 : decode b_XOc_rewrite 93 = .ok (.iconst 0, 1) := by decide +kernel
theorem d_XOc_rewrite_94 : decode b_XOc_rewrite 94 = .ok (.ireturn, 1) := by decide +kernel
theorem d_XOc_withField_0 : decode b_XOc_withField 0 = .ok (.aload_n 1, 1) := by decide +kernel
theorem d_XOc_withField_1 : decode b_XOc_withField 1 = .ok (.getfield 41, 3) := by decide +kernel
theorem d_XOc_withField_4 : decode b_XOc_withField 4 = .ok (.iconst 1, 1) := by decide +kernel
theorem d_XOc_withField_5 : decode b_XOc_withField 5 = .ok (.iadd, 1) := by decide +kernel
theorem d_XOc_withField_6 : decode b_XOc_withField 6 = .ok (.istore_n 2, 1) := by decide +kernel
theorem d_XOc_withField_7 : decode b_XOc_withField 7 = .ok (.aload_n 0, 1) := by decide +kernel
theorem d_XOc_withField_8 : decode b_XOc_withField 8 = .ok (.getfield 21, 3) := by decide +kernel
theorem d_XOc_withField_11 : decode b_XOc_withField 11 = .ok (.aload_n 1, 1) := by decide +kernel
theorem d_XOc_withField_12 : decode b_XOc_withField 12 = .ok (.getfield 22, 3) := by decide +kernel
theorem d_XOc_withField_15 : decode b_XOc_withField 15 = .ok (.iload_n 2, 1) := by decide +kernel
theorem d_XOc_withField_16 : decode b_XOc_withField 16 = .ok (.invokevirtual 28, 3) := by decide +kernel
theorem d_XOc_withField_19 : decode b_XOc_withField 19 = .ok (.ifCond .ne 5, 3) := by decide +kernel
theorem d_XOc_withField_22 : decode b_XOc_withField 22 = .ok (.iconst 5, 1) := by decide +kernel
theorem d_XOc_withField_23 : decode b_XOc_withField 23 = .ok (.ireturn, 1) := by decide +kernel
theorem d_XOc_withField_24 : decode b_XOc_withField 24 = .ok (.aload_n 1, 1) := by decide +kernel
theorem d_XOc_withField_25 : decode b_XOc_withField 25 = .ok (.getfield 38, 3) := by decide +kernel
theorem d_XOc_withField_28 : decode b_XOc_withField 28 = .ok (.sipush 220, 3) := by decide +kernel
theorem d_XOc_withField_31 : decode b_XOc_withField 31 = .ok (.if_icmp .ne 10, 3) := by decide +kernel
theorem d_XOc_withField_34 : decode b_XOc_withField 34 = .ok (.aload_n 0, 1) := by decide +kernel
theorem d_XOc_withField_35 : decode b_XOc_withField 35 = .ok (.aload_n 1, 1) := by decide +kernel
theorem d_XOc_withField_36 : decode b_XOc_withField 36 = .ok (.iload_n 2, 1) := by decide +kernel
theorem d_XOc_withField_37 : decode b_XOc_withField 37 = .ok (.invokevirtual 59, 3) := by decide +kernel
theorem d_XOc_withField_40 : decode b_XOc_withField 40 = .ok (.ireturn, 1) := by decide +kernel
theorem d_XOc_withField_41 : decode b_XOc_withField 41 = .ok (.aload_n 0, 1) := by decide +kernel
theorem d_XOc_withField_42 : decode b_XOc_withField 42 = .ok (.getfield 21, 3) := by decide +kernel
theorem d_XOc_withField_45 : decode b_XOc_withField 45 = .ok (.aload_n 1, 1) := by decide +kernel
theorem d_XOc_withField_46 : decode b_XOc_withField 46 = .ok (.getfield 63, 3) := by decide +kernel
theorem d_XOc_withField_49 : decode b_XOc_withField 49 = .ok (.iload_n 2, 1) := by decide +kernel
theorem d_XOc_withField_50 : decode b_XOc_withField 50 = .ok (.invokevirtual 28, 3) := by decide +kernel
theorem d_XOc_withField_53 : decode b_XOc_withField 53 = .ok (.ifCond .ne 5, 3) := by decide +kernel
theorem d_XOc_withField_56 : decode b_XOc_withField 56 = .ok (.iconst 5, 1) := by decide +kernel
theorem d_XOc_withField_57 : decode b_XOc_withField 57 = .ok (.ireturn, 1) := by decide +kernel
theorem d_XOc_withField_58 : decode b_XOc_withField 58 = .ok (.aload_n 1, 1) := by decide +kernel
theorem d_XOc_withField_59 : decode b_XOc_withField 59 = .ok (.getfield 38, 3) := by decide +kernel
theorem d_XOc_withField_62 : decode b_XOc_withField 62 = .ok (.sipush 213, 3) := by decide +kernel
theorem d_XOc_withField_65 : decode b_XOc_withField 65 = .ok (.if_icmp .ne 12, 3) := by decide +kernel
theorem d_XOc_withField_68 : decode b_XOc_withField 68 = .ok (.aload_n 0, 1) := by decide +kernel
theorem d_XOc_withField_69 : decode b_XOc_withField 69 = .ok (.aload_n 1, 1) := by decide +kernel
theorem d_XOc_withField_70 : decode b_XOc_withField 70 = .ok (.iload_n 2, 1) := by decide +kernel
theorem d_XOc_withField_71 : decode b_XOc_withField 71 = .ok (.invokevirtual 66, 3) := by decide +kernel
theorem d_XOc_withField_74 : decode b_XOc_withField 74 = .ok (.goto 9, 3) := by decide +kernel
theorem d_XOc_withField_77 : decode b_XOc_withField 77 = .ok (.aload_n 0, 1) := by decide +kernel
theorem d_XOc_withField_78 : decode b_XOc_withField 78 = .ok (.aload_n 1, 1) := by decide +kernel
theorem d_XOc_withField_79 : decode b_XOc_withField 79 = .ok (.iload_n 2, 1) := by decide +kernel
theorem d_XOc_withField_80 : decode b_XOc_withField 80 = .ok (.invokevirtual 69, 3) := by decide +kernel
theorem d_XOc_withField_83 : decode b_XOc_withField 83 = .ok (.ireturn, 1) := by decide +kernel
theorem d_XTr_store_0 : decode b_XTr_store 0 = .ok (.aload_n 0, 1) := by decide +kernel
theorem d_XTr_store_1 : decode b_XTr_store 1 = .ok (.getfield 9, 3) := by decide +kernel
theorem d_XTr_store_4 : decode b_XTr_store 4 = .ok (.getfield 44, 3) := by decide +kernel
theorem d_XTr_store_7 : decode b_XTr_store 7 = .ok (.aload_n 1, 1) := by decide +kernel
theorem d_XTr_store_8 : decode b_XTr_store 8 = .ok (.getfield 28, 3) := by decide +kernel
theorem d_XTr_store_11 : decode b_XTr_store 11 = .ok (.iload_n 2, 1) := by decide +kernel
theorem d_XTr_store_12 : decode b_XTr_store 12 = .ok (.invokevirtual 48, 3) := by decide +kernel
theorem d_XTr_store_15 : decode b_XTr_store 15 = .ok (.istore_n 3, 1) := by decide +kernel
theorem d_XTr_store_16 : decode b_XTr_store 16 = .ok (.iload_n 3, 1) := by decide +kernel
theorem d_XTr_store_17 : decode b_XTr_store 17 = .ok (.ifCond .ne 30, 3) := by decide +kernel
theorem d_XTr_store_20 : decode b_XTr_store 20 = .ok (.aload_n 0, 1) := by decide +kernel
theorem d_XTr_store_21 : decode b_XTr_store 21 = .ok (.getfield 9, 3) := by decide +kernel
theorem d_XTr_store_24 : decode b_XTr_store 24 = .ok (.getfield 44, 3) := by decide +kernel
theorem d_XTr_store_27 : decode b_XTr_store 27 = .ok (.aload_n 1, 1) := by decide +kernel
theorem d_XTr_store_28 : decode b_XTr_store 28 = .ok (.getfield 28, 3) := by decide +kernel
theorem d_XTr_store_31 : decode b_XTr_store 31 = .ok (.iload_n 2, 1) := by decide +kernel
theorem d_XTr_store_32 : decode b_XTr_store 32 = .ok (.aload_n 0, 1) := by decide +kernel
theorem d_XTr_store_33 : decode b_XTr_store 33 = .ok (.getfield 9, 3) := by decide +kernel
theorem d_XTr_store_36 : decode b_XTr_store 36 = .ok (.aload_n 1, 1) := by decide +kernel
theorem d_XTr_store_37 : decode b_XTr_store 37 = .ok (.getfield 25, 3) := by decide +kernel
theorem d_XTr_store_40 : decode b_XTr_store 40 = .ok (.invokevirtual 54, 3) := by decide +kernel
theorem d_XTr_store_43 : decode b_XTr_store 43 = .ok (.i2l, 1) := by decide +kernel
theorem d_XTr_store_44 : decode b_XTr_store 44 = .ok (.invokevirtual 58, 3) := by decide +kernel
theorem d_XTr_store_47 : decode b_XTr_store 47 = .ok (.iload_n 3, 1) := by decide +kernel
theorem d_XTr_store_48 : decode b_XTr_store 48 = .ok (.ireturn, 1) := by decide +kernel
theorem d_XTr_insert_0 : decode b_XTr_insert 0 = .ok (.aload_n 0, 1) := by decide +kernel
theorem d_XTr_insert_1 : decode b_XTr_insert 1 = .ok (.getfield 9, 3) := by decide +kernel
theorem d_XTr_insert_4 : decode b_XTr_insert 4 = .ok (.getfield 44, 3) := by decide +kernel
theorem d_XTr_insert_7 : decode b_XTr_insert 7 = .ok (.aload_n 1, 1) := by decide +kernel
theorem d_XTr_insert_8 : decode b_XTr_insert 8 = .ok (.getfield 28, 3) := by decide +kernel
theorem d_XTr_insert_11 : decode b_XTr_insert 11 = .ok (.iconst 1, 1) := by decide +kernel
theorem d_XTr_insert_12 : decode b_XTr_insert 12 = .ok (.invokevirtual 61, 3) := by decide +kernel
theorem d_XTr_insert_15 : decode b_XTr_insert 15 = .ok (.ifCond .ne 5, 3) := by decide +kernel
theorem d_XTr_insert_18 : decode b_XTr_insert 18 = .ok (.iconst 5, 1) := by decide +kernel
theorem d_XTr_insert_19 : decode b_XTr_insert 19 = .ok (.ireturn, 1) := by decide +kernel
theorem d_XTr_insert_20 : decode b_XTr_insert 20 = .ok (.aload_n 0, 1) := by decide +kernel
theorem d_XTr_insert_21 : decode b_XTr_insert 21 = .ok (.getfield 9, 3) := by decide +kernel
theorem d_XTr_insert_24 : decode b_XTr_insert 24 = .ok (.aload_n 1, 1) := by decide +kernel
theorem d_XTr_insert_25 : decode b_XTr_insert 25 = .ok (.getfield 25, 3) := by decide +kernel
theorem d_XTr_insert_28 : decode b_XTr_insert 28 = .ok (.aload_n 0, 1) := by decide +kernel
theorem d_XTr_insert_29 : decode b_XTr_insert 29 = .ok (.getfield 9, 3) := by decide +kernel
theorem d_XTr_insert_32 : decode b_XTr_insert 32 = .ok (.aload_n 1, 1) := by decide +kernel
theorem d_XTr_insert_33 : decode b_XTr_insert 33 = .ok (.getfield 25, 3) := by decide +kernel
theorem d_XTr_insert_36 : decode b_XTr_insert 36 = .ok (.invokevirtual 54, 3) := by decide +kernel
theorem d_XTr_insert_39 : decode b_XTr_insert 39 = .ok (.sipush (-256), 3) := by decide +kernel
theorem d_XTr_insert_42 : decode b_XTr_insert 42 = .ok (.iand, 1) := by decide +kernel
theorem d_XTr_insert_43 : decode b_XTr_insert 43 = .ok (.aload_n 0, 1) := by decide +kernel
theorem d_XTr_insert_44 : decode b_XTr_insert 44 = .ok (.getfield 9, 3) := by decide +kernel
theorem d_XTr_insert_47 : decode b_XTr_insert 47 = .ok (.getfield 44, 3) := by decide +kernel
theorem d_XTr_insert_50 : decode b_XTr_insert 50 = .ok (.aload_n 1, 1) := by decide +kernel
theorem d_XTr_insert_51 : decode b_XTr_insert 51 = .ok (.getfield 28, 3) := by decide +kernel
theorem d_XTr_insert_54 : decode b_XTr_insert 54 = .ok (.invokevirtual 65, 3) := by decide +kernel
theorem d_XTr_insert_57 : decode b_XTr_insert 57 = .ok (.ior, 1) := by decide +kernel
theorem d_XTr_insert_58 : decode b_XTr_insert 58 = .ok (.invokevirtual 31, 3) := by decide +kernel
theorem d_XTr_insert_61 : decode b_XTr_insert 61 = .ok (.iconst 0, 1) := by decide +kernel
theorem d_XTr_insert_62 : decode b_XTr_insert 62 = .ok (.ireturn, 1) := by decide +kernel
theorem d_XTr_several_0 : decode b_XTr_several 0 = .ok (.aload_n 1, 1) := by decide +kernel
theorem d_XTr_several_1 : decode b_XTr_several 1 = .ok (.getfield 68, 3) := by decide +kernel
theorem d_XTr_several_4 : decode b_XTr_several 4 = .ok (.aload_n 1, 1) := by decide +kernel
theorem d_XTr_several_5 : decode b_XTr_several 5 = .ok (.getfield 25, 3) := by decide +kernel
theorem d_XTr_several_8 : decode b_XTr_several 8 = .ok (.isub, 1) := by decide +kernel
theorem d_XTr_several_9 : decode b_XTr_several 9 = .ok (.bipush 15, 2) := by decide +kernel
theorem d_XTr_several_11 : decode b_XTr_several 11 = .ok (.iand, 1) := by decide +kernel
theorem d_XTr_several_12 : decode b_XTr_several 12 = .ok (.iconst 1, 1) := by decide +kernel
theorem d_XTr_several_13 : decode b_XTr_several 13 = .ok (.iadd, 1) := by decide +kernel
theorem d_XTr_several_14 : decode b_XTr_several 14 = .ok (.istore_n 2, 1) := by decide +kernel
theorem d_XTr_several_15 : decode b_XTr_several 15 = .ok (.aload_n 1, 1) := by decide +kernel
theorem d_XTr_several_16 : decode b_XTr_several 16 = .ok (.getfield 28, 3) := by decide +kernel
theorem d_XTr_several_19 : decode b_XTr_several 19 = .ok (.iconst 3, 1) := by decide +kernel
theorem d_XTr_several_20 : decode b_XTr_several 20 = .ok (.iand, 1) := by decide +kernel
theorem d_XTr_several_21 : decode b_XTr_several 21 = .ok (.ifCond .eq 6, 3) := by decide +kernel
theorem d_XTr_several_24 : decode b_XTr_several 24 = .ok (.bipush 6, 2) := by decide +kernel
theorem d_XTr_several_26 : decode b_XTr_several 26 = .ok (.ireturn, 1) := by decide +kernel
theorem d_XTr_several_27 : decode b_XTr_several 27 = .ok (.aload_n 0, 1) := by decide +kernel
theorem d_XTr_several_28 : decode b_XTr_several 28 = .ok (.getfield 9, 3) := by decide +kernel
theorem d_XTr_several_31 : decode b_XTr_several 31 = .ok (.getfield 44, 3) := by decide +kernel
theorem d_XTr_several_34 : decode b_XTr_several 34 = .ok (.aload_n 1, 1) := by decide +kernel
theorem d_XTr_several_35 : decode b_XTr_several 35 = .ok (.getfield 28, 3) := by decide +kernel
theorem d_XTr_several_38 : decode b_XTr_several 38 = .ok (.iconst 4, 1) := by decide +kernel
theorem d_XTr_several_39 : decode b_XTr_several 39 = .ok (.iload_n 2, 1) := by decide +kernel
theorem d_XTr_several_40 : decode b_XTr_several 40 = .ok (.imul, 1) := by decide +kernel
theorem d_XTr_several_41 : decode b_XTr_several 41 = .ok (.invokevirtual 61, 3) := by decide +kernel
theorem d_XTr_several_44 : decode b_XTr_several 44 = .ok (.ifCond .ne 5, 3) := by decide +kernel
theorem d_XTr_several_47 : decode b_XTr_several 47 = .ok (.iconst 5, 1) := by decide +kernel
theorem d_XTr_several_48 : decode b_XTr_several 48 = .ok (.ireturn, 1) := by decide +kernel
theorem d_XTr_several_49 : decode b_XTr_several 49 = .ok (.iconst 0, 1) := by decide +kernel
theorem d_XTr_several_50 : decode b_XTr_several 50 = .ok (.istore_n 3, 1) := by decide +kernel
theorem d_XTr_several_51 : decode b_XTr_several 51 = .ok (.iload_n 3, 1) := by decide +kernel
theorem d_XTr_several_52 : decode b_XTr_several 52 = .ok (.iload_n 2, 1) := by decide +kernel
theorem d_XTr_several_53 : decode b_XTr_several 53 = .ok (.if_icmp .ge 89, 3) := by decide +kernel
theorem d_XTr_several_56 : decode b_XTr_several 56 = .ok (.aload_n 1, 1) := by decide +kernel
theorem d_XTr_several_57 : decode b_XTr_several 57 = .ok (.getfield 25, 3) := by decide +kernel
theorem d_XTr_several_60 : decode b_XTr_several 60 = .ok (.iload_n 3, 1) := by decide +kernel
theorem d_XTr_several_61 : decode b_XTr_several 61 = .ok (.iadd, 1) := by decide +kernel
theorem d_XTr_several_62 : decode b_XTr_several 62 = .ok (.bipush 15, 2) := by decide +kernel
theorem d_XTr_several_64 : decode b_XTr_several 64 = .ok (.iand, 1) := by decide +kernel
theorem d_XTr_several_65 : decode b_XTr_several 65 = .ok (.istore 4, 2) := by decide +kernel
theorem d_XTr_several_67 : decode b_XTr_several 67 = .ok (.aload_n 1, 1) := by decide +kernel
theorem d_XTr_several_68 : decode b_XTr_several 68 = .ok (.getfield 15, 3) := by decide +kernel
theorem d_XTr_several_71 : decode b_XTr_several 71 = .ok (.sipush 144, 3) := by decide +kernel
theorem d_XTr_several_74 : decode b_XTr_several 74 = .ok (.if_icmp .ne 35, 3) := by decide +kernel
theorem d_XTr_several_77 : decode b_XTr_several 77 = .ok (.aload_n 0, 1) := by decide +kernel
theorem d_XTr_several_78 : decode b_XTr_several 78 = .ok (.getfield 9, 3) := by decide +kernel
theorem d_XTr_several_81 : decode b_XTr_several 81 = .ok (.getfield 44, 3) := by decide +kernel
theorem d_XTr_several_84 : decode b_XTr_several 84 = .ok (.aload_n 1, 1) := by decide +kernel
theorem d_XTr_several_85 : decode b_XTr_several 85 = .ok (.getfield 28, 3) := by decide +kernel
theorem d_XTr_several_88 : decode b_XTr_several 88 = .ok (.iconst 4, 1) := by decide +kernel
theorem d_XTr_several_89 : decode b_XTr_several 89 = .ok (.iload_n 3, 1) := by decide +kernel
theorem d_XTr_several_90 : decode b_XTr_several 90 = .ok (.imul, 1) := by decide +kernel
theorem d_XTr_several_91 : decode b_XTr_several 91 = .ok (.iadd, 1) := by decide +kernel
theorem d_XTr_several_92 : decode b_XTr_several 92 = .ok (.iconst 4, 1) := by decide +kernel
theorem d_XTr_several_93 : decode b_XTr_several 93 = .ok (.aload_n 0, 1) := by decide +kernel
theorem d_XTr_several_94 : decode b_XTr_several 94 = .ok (.getfield 9, 3) := by decide +kernel
theorem d_XTr_several_97 : decode b_XTr_several 97 = .ok (.iload 4, 2) := by decide +kernel
theorem d_XTr_several_99 : decode b_XTr_several 99 = .ok (.invokevirtual 54, 3) := by decide +kernel
theorem d_XTr_several_102 : decode b_XTr_several 102 = .ok (.i2l, 1) := by decide +kernel
theorem d_XTr_several_103 : decode b_XTr_several 103 = .ok (.invokevirtual 58, 3) := by decide +kernel
theorem d_XTr_several_106 : decode b_XTr_several 106 = .ok (.goto 30, 3) := by decide +kernel
theorem d_XTr_several_109 : decode b_XTr_several 109 = .ok (.aload_n 0, 1) := by decide +kernel
theorem d_XTr_several_110 : decode b_XTr_several 110 = .ok (.getfield 9, 3) := by decide +kernel
theorem d_XTr_several_113 : decode b_XTr_several 113 = .ok (.iload 4, 2) := by decide +kernel
theorem d_XTr_several_115 : decode b_XTr_several 115 = .ok (.aload_n 0, 1) := by decide +kernel
theorem d_XTr_several_116 : decode b_XTr_several 116 = .ok (.getfield 9, 3) := by decide +kernel
theorem d_XTr_several_119 : decode b_XTr_several 119 = .ok (.getfield 44, 3) := by decide +kernel
theorem d_XTr_several_122 : decode b_XTr_several 122 = .ok (.aload_n 1, 1) := by decide +kernel
theorem d_XTr_several_123 : decode b_XTr_several 123 = .ok (.getfield 28, 3) := by decide +kernel
theorem d_XTr_several_126 : decode b_XTr_several 126 = .ok (.iconst 4, 1) := by decide +kernel
theorem d_XTr_several_127 : decode b_XTr_several 127 = .ok (.iload_n 3, 1) := by decide +kernel
theorem d_XTr_several_128 : decode b_XTr_several 128 = .ok (.imul, 1) := by decide +kernel
theorem d_XTr_several_129 : decode b_XTr_several 129 = .ok (.iadd, 1) := by decide +kernel
theorem d_XTr_several_130 : decode b_XTr_several 130 = .ok (.invokevirtual 71, 3) := by decide +kernel
theorem d_XTr_several_133 : decode b_XTr_several 133 = .ok (.invokevirtual 31, 3) := by decide +kernel
theorem d_XTr_several_136 : decode b_XTr_several 136 = .ok (.iinc 3 1, 3) := by decide +kernel
theorem d_XTr_several_139 : decode b_XTr_several 139 = .ok (.goto (-88), 3) := by decide +kernel
theorem d_XTr_several_142 : decode b_XTr_several 142 = .ok (.iconst 0, 1) := by decide +kernel
theorem d_XTr_several_143 : decode b_XTr_several 143 = .ok (.ireturn, 1) := by decide +kernel
theorem d_XTr_perform_0 : decode b_XTr_perform 0 = .ok (.aload_n 1, 1) := by decide +kernel
theorem d_XTr_perform_1 : decode b_XTr_perform 1 = .ok (.getfield 15, 3) := by decide +kernel
theorem d_XTr_perform_4 : decode b_XTr_perform 4 = .ok (.lookupswitch 96 #[(64, 52), (65, 59), (66, 76), (67, 83), (80, 89)], 52) := by decide +kernel
theorem d_XTr_perform_56 : decode b_XTr_perform 56 = .ok (.aload_n 0, 1) := by decide +kernel
theorem d_XTr_perform_57 : decode b_XTr_perform 57 = .ok (.aload_n 1, 1) := by decide +kernel
theorem d_XTr_perform_58 : decode b_XTr_perform 58 = .ok (.iconst 2, 1) := by decide +kernel
theorem d_XTr_perform_59 : decode b_XTr_perform 59 = .ok (.invokevirtual 21, 3) := by decide +kernel
theorem d_XTr_perform_62 : decode b_XTr_perform 62 = .ok (.ireturn, 1) := by decide +kernel
theorem d_XTr_perform_63 : decode b_XTr_perform 63 = .ok (.aload_n 0, 1) := by decide +kernel
theorem d_XTr_perform_64 : decode b_XTr_perform 64 = .ok (.getfield 9, 3) := by decide +kernel
theorem d_XTr_perform_67 : decode b_XTr_perform 67 = .ok (.aload_n 1, 1) := by decide +kernel
theorem d_XTr_perform_68 : decode b_XTr_perform 68 = .ok (.getfield 25, 3) := by decide +kernel
theorem d_XTr_perform_71 : decode b_XTr_perform 71 = .ok (.aload_n 1, 1) := by decide +kernel
theorem d_XTr_perform_72 : decode b_XTr_perform 72 = .ok (.getfield 28, 3) := by decide +kernel
theorem d_XTr_perform_75 : decode b_XTr_perform 75 = .ok (.invokevirtual 31, 3) := by decide +kernel
theorem d_XTr_perform_78 : decode b_XTr_perform 78 = .ok (.iconst 0, 1) := by decide +kernel
theorem d_XTr_perform_79 : decode b_XTr_perform 79 = .ok (.ireturn, 1) := by decide +kernel
theorem d_XTr_perform_80 : decode b_XTr_perform 80 = .ok (.aload_n 0, 1) := by decide +kernel
theorem d_XTr_perform_81 : decode b_XTr_perform 81 = .ok (.aload_n 1, 1) := by decide +kernel
theorem d_XTr_perform_82 : decode b_XTr_perform 82 = .ok (.iconst 1, 1) := by decide +kernel
theorem d_XTr_perform_83 : decode b_XTr_perform 83 = .ok (.invokevirtual 21, 3) := by decide +kernel
theorem d_XTr_perform_86 : decode b_XTr_perform 86 = .ok (.ireturn, 1) := by decide +kernel
theorem d_XTr_perform_87 : decode b_XTr_perform 87 = .ok (.aload_n 0, 1) := by decide +kernel
theorem d_XTr_perform_88 : decode b_XTr_perform 88 = .ok (.aload_n 1, 1) := by decide +kernel
theorem d_XTr_perform_89 : decode b_XTr_perform 89 = .ok (.invokevirtual 37, 3) := by decide +kernel
theorem d_XTr_perform_92 : decode b_XTr_perform 92 = .ok (.ireturn, 1) := by decide +kernel
theorem d_XTr_perform_93 : decode b_XTr_perform 93 = .ok (.aload_n 0, 1) := by decide +kernel
theorem d_XTr_perform_94 : decode b_XTr_perform 94 = .ok (.aload_n 1, 1) := by decide +kernel
theorem d_XTr_perform_95 : decode b_XTr_perform 95 = .ok (.iconst 4, 1) := by decide +kernel
theorem d_XTr_perform_96 : decode b_XTr_perform 96 = .ok (.invokevirtual 21, 3) := by decide +kernel
theorem d_XTr_perform_99 : decode b_XTr_perform 99 = .ok (.ireturn, 1) := by decide +kernel
theorem d_XTr_perform_100 : decode b_XTr_perform 100 = .ok (.aload_n 0, 1) := by decide +kernel
theorem d_XTr_perform_101 : decode b_XTr_perform 101 = .ok (.aload_n 1, 1) := by decide +kernel
theorem d_XTr_perform_102 : decode b_XTr_perform 102 = .ok (.invokevirtual 41, 3) := by decide +kernel
theorem d_XTr_perform_105 : decode b_XTr_perform 105 = .ok (.ireturn, 1) := by decide +kernel
theorem d_XPr_performRegular_0 : decode b_XPr_performRegular 0 = .ok (.aload_n 1, 1) := by decide +kernel
theorem d_XPr_performRegular_1 : decode b_XPr_performRegular 1 = .ok (.getfield 85, 3) := by decide +kernel
theorem d_XPr_performRegular_4 : decode b_XPr_performRegular 4 = .ok (.bipush 16, 2) := by decide +kernel
theorem d_XPr_performRegular_6 : decode b_XPr_performRegular 6 = .ok (.if_icmp .lt 21, 3) := by decide +kernel
theorem d_XPr_performRegular_9 : decode b_XPr_performRegular 9 = .ok (.aload_n 1, 1) := by decide +kernel
theorem d_XPr_performRegular_10 : decode b_XPr_performRegular 10 = .ok (.getfield 85, 3) := by decide +kernel
theorem d_XPr_performRegular_13 : decode b_XPr_performRegular 13 = .ok (.bipush 31, 2) := by decide +kernel
theorem d_XPr_performRegular_15 : decode b_XPr_performRegular 15 = .ok (.if_icmp .gt 12, 3) := by decide +kernel
theorem d_XPr_performRegular_18 : decode b_XPr_performRegular 18 = .ok (.aload_n 0, 1) := by decide +kernel
theorem d_XPr_performRegular_19 : decode b_XPr_performRegular 19 = .ok (.getfield 37, 3) := by decide +kernel
theorem d_XPr_performRegular_22 : decode b_XPr_performRegular 22 = .ok (.aload_n 1, 1) := by decide +kernel
theorem d_XPr_performRegular_23 : decode b_XPr_performRegular 23 = .ok (.invokevirtual 120, 3) := by decide +kernel
theorem d_XPr_performRegular_26 : decode b_XPr_performRegular 26 = .ok (.ireturn, 1) := by decide +kernel
theorem d_XPr_performRegular_27 : decode b_XPr_performRegular 27 = .ok (.aload_n 1, 1) := by decide +kernel
theorem d_XPr_performRegular_28 : decode b_XPr_performRegular 28 = .ok (.getfield 85, 3) := by decide +kernel
theorem d_XPr_performRegular_31 : decode b_XPr_performRegular 31 = .ok (.bipush 84, 2) := by decide +kernel
theorem d_XPr_performRegular_33 : decode b_XPr_performRegular 33 = .ok (.if_icmp .lt 23, 3) := by decide +kernel
theorem d_XPr_performRegular_36 : decode b_XPr_performRegular 36 = .ok (.aload_n 1, 1) := by decide +kernel
theorem d_XPr_performRegular_37 : decode b_XPr_performRegular 37 = .ok (.getfield 85, 3) := by decide +kernel
theorem d_XPr_performRegular_40 : decode b_XPr_performRegular 40 = .ok (.bipush 95, 2) := by decide +kernel
theorem d_XPr_performRegular_42 : decode b_XPr_performRegular 42 = .ok (.if_icmp .gt 14, 3) := by decide +kernel
theorem d_XPr_performRegular_45 : decode b_XPr_performRegular 45 = .ok (.aload_n 0, 1) := by decide +kernel
theorem d_XPr_performRegular_46 : decode b_XPr_performRegular 46 = .ok (.getfield 37, 3) := by decide +kernel
theorem d_XPr_performRegular_49 : decode b_XPr_performRegular 49 = .ok (.aload_n 1, 1) := by decide +kernel
theorem d_XPr_performRegular_50 : decode b_XPr_performRegular 50 = .ok (.invokevirtual 123, 3) := by decide +kernel
theorem d_XPr_performRegular_53 : decode b_XPr_performRegular 53 = .ok (.goto 4, 3) := by decide +kernel
theorem d_XPr_performRegular_56 : decode b_XPr_performRegular 56 = .ok (.iconst 1, 1) := by decide +kernel
theorem d_XPr_performRegular_57 : decode b_XPr_performRegular 57 = .ok (.ireturn, 1) := by decide +kernel
theorem d_XPr_perform_0 : decode b_XPr_perform 0 = .ok (.aload_n 1, 1) := by decide +kernel
theorem d_XPr_perform_1 : decode b_XPr_perform 1 = .ok (.getfield 85, 3) := by decide +kernel
theorem d_XPr_perform_4 : decode b_XPr_perform 4 = .ok (.lookupswitch 498 #[(5, 417), (6, 417), (7, 417), (10, 404), (64, 426), (65, 426), (66, 426), (67, 426), (69, 417), (70, 417), (71, 417), (72, 435), (73, 435), (74, 435), (75, 435), (76, 435), (78, 444), (79, 444), (80, 426), (134, 417), (135, 417), (136, 453), (137, 453), (138, 453), (139, 453), (144, 426), (145, 462), (146, 462), (148, 462), (149, 462), (150, 462), (151, 462), (152, 426), (209, 471), (210, 471), (211, 471), (212, 471), (213, 471), (214, 471), (215, 471), (220, 471), (242, 480), (243, 480), (248, 489), (249, 489), (250, 489), (251, 489), (252, 489), (253, 489)], 404) := by decide +kernel
theorem d_XPr_perform_408 : decode b_XPr_perform 408 = .ok (.aload_n 0, 1) := by decide +kernel
theorem d_XPr_perform_409 : decode b_XPr_perform 409 = .ok (.getfield 28, 3) := by decide +kernel
theorem d_XPr_perform_412 : decode b_XPr_perform 412 = .ok (.aload_n 1, 1) := by decide +kernel
theorem d_XPr_perform_413 : decode b_XPr_perform 413 = .ok (.getfield 88, 3) := by decide +kernel
theorem d_XPr_perform_416 : decode b_XPr_perform 416 = .ok (.putfield 91, 3) := by decide +kernel
theorem d_XPr_perform_419 : decode b_XPr_perform 419 = .ok (.iconst 0, 1) := by decide +kernel
theorem d_XPr_perform_420 : decode b_XPr_perform 420 = .ok (.ireturn, 1) := by decide +kernel
theorem d_XPr_perform_421 : decode b_XPr_perform 421 = .ok (.aload_n 0, 1) := by decide +kernel
theorem d_XPr_perform_422 : decode b_XPr_perform 422 = .ok (.getfield 51, 3) := by decide +kernel
theorem d_XPr_perform_425 : decode b_XPr_perform 425 = .ok (.aload_n 1, 1) := by decide +kernel
theorem d_XPr_perform_426 : decode b_XPr_perform 426 = .ok (.invokevirtual 94, 3) := by decide +kernel
theorem d_XPr_perform_429 : decode b_XPr_perform 429 = .ok (.ireturn, 1) := by decide +kernel
theorem d_XPr_perform_430 : decode b_XPr_perform 430 = .ok (.aload_n 0, 1) := by decide +kernel
theorem d_XPr_perform_431 : decode b_XPr_perform 431 = .ok (.getfield 44, 3) := by decide +kernel
theorem d_XPr_perform_434 : decode b_XPr_perform 434 = .ok (.aload_n 1, 1) := by decide +kernel
theorem d_XPr_perform_435 : decode b_XPr_perform 435 = .ok (.invokevirtual 95, 3) := by decide +kernel
theorem d_XPr_perform_438 : decode b_XPr_perform 438 = .ok (.ireturn, 1) := by decide +kernel
theorem d_XPr_perform_439 : decode b_XPr_perform 439 = .ok (.aload_n 0, 1) := by decide +kernel
theorem d_XPr_perform_440 : decode b_XPr_perform 440 = .ok (.getfield 37, 3) := by decide +kernel
theorem d_XPr_perform_443 : decode b_XPr_perform 443 = .ok (.aload_n 1, 1) := by decide +kernel
theorem d_XPr_perform_444 : decode b_XPr_perform 444 = .ok (.invokevirtual 96, 3) := by decide +kernel
theorem d_XPr_perform_447 : decode b_XPr_perform 447 = .ok (.ireturn, 1) := by decide +kernel
theorem d_XPr_perform_448 : decode b_XPr_perform 448 = .ok (.aload_n 0, 1) := by decide +kernel
theorem d_XPr_perform_449 : decode b_XPr_perform 449 = .ok (.getfield 65, 3) := by decide +kernel
theorem d_XPr_perform_452 : decode b_XPr_perform 452 = .ok (.aload_n 1, 1) := by decide +kernel
theorem d_XPr_perform_453 : decode b_XPr_perform 453 = .ok (.invokevirtual 99, 3) := by decide +kernel
theorem d_XPr_perform_456 : decode b_XPr_perform 456 = .ok (.ireturn, 1) := by decide +kernel
theorem d_XPr_perform_457 : decode b_XPr_perform 457 = .ok (.aload_n 0, 1) := by decide +kernel
theorem d_XPr_perform_458 : decode b_XPr_perform 458 = .ok (.getfield 37, 3) := by decide +kernel
theorem d_XPr_perform_461 : decode b_XPr_perform 461 = .ok (.aload_n 1, 1) := by decide +kernel
theorem d_XPr_perform_462 : decode b_XPr_perform 462 = .ok (.invokevirtual 102, 3) := by decide +kernel
theorem d_XPr_perform_465 : decode b_XPr_perform 465 = .ok (.ireturn, 1) := by decide +kernel
theorem d_XPr_perform_466 : decode b_XPr_perform 466 = .ok (.aload_n 0, 1) := by decide +kernel
theorem d_XPr_perform_467 : decode b_XPr_perform 467 = .ok (.getfield 58, 3) := by decide +kernel
theorem d_XPr_perform_470 : decode b_XPr_perform 470 = .ok (.aload_n 1, 1) := by decide +kernel
theorem d_XPr_perform_471 : decode b_XPr_perform 471 = .ok (.invokevirtual 105, 3) := by decide +kernel
theorem d_XPr_perform_474 : decode b_XPr_perform 474 = .ok (.ireturn, 1) := by decide +kernel
theorem d_XPr_perform_475 : decode b_XPr_perform 475 = .ok (.aload_n 0, 1) := by decide +kernel
theorem d_XPr_perform_476 : decode b_XPr_perform 476 = .ok (.getfield 58, 3) := by decide +kernel
theorem d_XPr_perform_479 : decode b_XPr_perform 479 = .ok (.aload_n 1, 1) := by decide +kernel
theorem d_XPr_perform_480 : decode b_XPr_perform 480 = .ok (.invokevirtual 108, 3) := by decide +kernel
theorem d_XPr_perform_483 : decode b_XPr_perform 483 = .ok (.ireturn, 1) := by decide +kernel
theorem d_XPr_perform_484 : decode b_XPr_perform 484 = .ok (.aload_n 0, 1) := by decide +kernel
theorem d_XPr_perform_485 : decode b_XPr_perform 485 = .ok (.getfield 65, 3) := by decide +kernel
theorem d_XPr_perform_488 : decode b_XPr_perform 488 = .ok (.aload_n 1, 1) := by decide +kernel
theorem d_XPr_perform_489 : decode b_XPr_perform 489 = .ok (.invokevirtual 111, 3) := by decide +kernel
theorem d_XPr_perform_492 : decode b_XPr_perform 492 = .ok (.ireturn, 1) := by decide +kernel
theorem d_XPr_perform_493 : decode b_XPr_perform 493 = .ok (.aload_n 0, 1) := by decide +kernel
theorem d_XPr_perform_494 : decode b_XPr_perform 494 = .ok (.getfield 65, 3) := by decide +kernel
theorem d_XPr_perform_497 : decode b_XPr_perform 497 = .ok (.aload_n 1, 1) := by decide +kernel
theorem d_XPr_perform_498 : decode b_XPr_perform 498 = .ok (.invokevirtual 114, 3) := by decide +kernel
theorem d_XPr_perform_501 : decode b_XPr_perform 501 = .ok (.ireturn, 1) := by decide +kernel
theorem d_XPr_perform_502 : decode b_XPr_perform 502 = .ok (.aload_n 0, 1) := by decide +kernel
theorem d_XPr_perform_503 : decode b_XPr_perform 503 = .ok (.aload_n 1, 1) := by decide +kernel
theorem d_XPr_perform_504 : decode b_XPr_perform 504 = .ok (.invokevirtual 117, 3) := by decide +kernel
theorem d_XPr_perform_507 : decode b_XPr_perform 507 = .ok (.ireturn, 1) := by decide +kernel
theorem d_XPr_step_0 : decode b_XPr_step 0 = .ok (.aload_n 0, 1) := by decide +kernel
theorem d_XPr_step_1 : decode b_XPr_step 1 = .ok (.getfield 28, 3) := by decide +kernel
theorem d_XPr_step_4 : decode b_XPr_step 4 = .ok (.getfield 69, 3) := by decide +kernel
theorem d_XPr_step_7 : decode b_XPr_step 7 = .ok (.istore_n 1, 1) := by decide +kernel
theorem d_XPr_step_8 : decode b_XPr_step 8 = .ok (.aload_n 0, 1) := by decide +kernel
theorem d_XPr_step_9 : decode b_XPr_step 9 = .ok (.getfield 12, 3) := by decide +kernel
theorem d_XPr_step_12 : decode b_XPr_step 12 = .ok (.aload_n 0, 1) := by decide +kernel
theorem d_XPr_step_13 : decode b_XPr_step 13 = .ok (.getfield 28, 3) := by decide +kernel
theorem d_XPr_step_16 : decode b_XPr_step 16 = .ok (.invokevirtual 74, 3) := by decide +kernel
theorem d_XPr_step_19 : decode b_XPr_step 19 = .ok (.istore_n 2, 1) := by decide +kernel
theorem d_XPr_step_20 : decode b_XPr_step 20 = .ok (.iload_n 2, 1) := by decide +kernel
theorem d_XPr_step_21 : decode b_XPr_step 21 = .ok (.ifCond .ne 26, 3) := by decide +kernel
theorem d_XPr_step_24 : decode b_XPr_step 24 = .ok (.aload_n 0, 1) := by decide +kernel
theorem d_XPr_step_25 : decode b_XPr_step 25 = .ok (.getfield 28, 3) := by decide +kernel
theorem d_XPr_step_28 : decode b_XPr_step 28 = .ok (.aload_n 0, 1) := by decide +kernel
theorem d_XPr_step_29 : decode b_XPr_step 29 = .ok (.getfield 12, 3) := by decide +kernel
theorem d_XPr_step_32 : decode b_XPr_step 32 = .ok (.getfield 78, 3) := by decide +kernel
theorem d_XPr_step_35 : decode b_XPr_step 35 = .ok (.putfield 69, 3) := by decide +kernel
theorem d_XPr_step_38 : decode b_XPr_step 38 = .ok (.aload_n 0, 1) := by decide +kernel
theorem d_XPr_step_39 : decode b_XPr_step 39 = .ok (.aload_n 0, 1) := by decide +kernel
theorem d_XPr_step_40 : decode b_XPr_step 40 = .ok (.getfield 12, 3) := by decide +kernel
theorem d_XPr_step_43 : decode b_XPr_step 43 = .ok (.invokevirtual 81, 3) := by decide +kernel
theorem d_XPr_step_46 : decode b_XPr_step 46 = .ok (.istore_n 2, 1) := by decide +kernel
theorem d_XPr_step_47 : decode b_XPr_step 47 = .ok (.iload_n 2, 1) := by decide +kernel
theorem d_XPr_step_48 : decode b_XPr_step 48 = .ok (.ifCond .eq 15, 3) := by decide +kernel
theorem d_XPr_step_51 : decode b_XPr_step 51 = .ok (.iload_n 2, 1) := by decide +kernel
theorem d_XPr_step_52 : decode b_XPr_step 52 = .ok (.bipush 8, 2) := by decide +kernel
theorem d_XPr_step_54 : decode b_XPr_step 54 = .ok (.if_icmp .eq 9, 3) := by decide +kernel
theorem d_XPr_step_57 : decode b_XPr_step 57 = .ok (.iload_n 2, 1) := by decide +kernel
theorem d_XPr_step_58 : decode b_XPr_step 58 = .ok (.bipush 10, 2) := by decide +kernel
theorem d_XPr_step_60 : decode b_XPr_step 60 = .ok (.if_icmp .ne 16, 3) := by decide +kernel
theorem d_XPr_step_63 : decode b_XPr_step 63 = .ok (.aload_n 0, 1) := by decide +kernel
theorem d_XPr_step_64 : decode b_XPr_step 64 = .ok (.dup, 1) := by decide +kernel
theorem d_XPr_step_65 : decode b_XPr_step 65 = .ok (.getfield 18, 3) := by decide +kernel
theorem d_XPr_step_68 : decode b_XPr_step 68 = .ok (.iconst 1, 1) := by decide +kernel
theorem d_XPr_step_69 : decode b_XPr_step 69 = .ok (.iadd, 1) := by decide +kernel
theorem d_XPr_step_70 : decode b_XPr_step 70 = .ok (.putfield 18, 3) := by decide +kernel
theorem d_XPr_step_73 : decode b_XPr_step 73 = .ok (.goto 11, 3) := by decide +kernel
theorem d_XPr_step_76 : decode b_XPr_step 76 = .ok (.aload_n 0, 1) := by decide +kernel
theorem d_XPr_step_77 : decode b_XPr_step 77 = .ok (.getfield 28, 3) := by decide +kernel
theorem d_XPr_step_80 : decode b_XPr_step 80 = .ok (.iload_n 1, 1) := by decide +kernel
theorem d_XPr_step_81 : decode b_XPr_step 81 = .ok (.putfield 69, 3) := by decide +kernel
theorem d_XPr_step_84 : decode b_XPr_step 84 = .ok (.iload_n 2, 1) := by decide +kernel
theorem d_XPr_step_85 : decode b_XPr_step 85 = .ok (.ifCond .eq 18, 3) := by decide +kernel
theorem d_XPr_step_88 : decode b_XPr_step 88 = .ok (.aload_n 0, 1) := by decide +kernel
theorem d_XPr_step_89 : decode b_XPr_step 89 = .ok (.dup, 1) := by decide +kernel
theorem d_XPr_step_90 : decode b_XPr_step 90 = .ok (.getfield 22, 3) := by decide +kernel
theorem d_XPr_step_93 : decode b_XPr_step 93 = .ok (.iconst 1, 1) := by decide +kernel
theorem d_XPr_step_94 : decode b_XPr_step 94 = .ok (.iadd, 1) := by decide +kernel
theorem d_XPr_step_95 : decode b_XPr_step 95 = .ok (.putfield 22, 3) := by decide +kernel
theorem d_XPr_step_98 : decode b_XPr_step 98 = .ok (.aload_n 0, 1) := by decide +kernel
theorem d_XPr_step_99 : decode b_XPr_step 99 = .ok (.iload_n 2, 1) := by decide +kernel
theorem d_XPr_step_100 : decode b_XPr_step 100 = .ok (.putfield 25, 3) := by decide +kernel
theorem d_XPr_step_103 : decode b_XPr_step 103 = .ok (.iload_n 2, 1) := by decide +kernel
theorem d_XPr_step_104 : decode b_XPr_step 104 = .ok (.ireturn, 1) := by decide +kernel
end
section
theorem z_nz64 {x : Int32} (h : ¬ x = 0) : ¬ x.toInt64 = 0 := fun q => h (by
  have q1 : x.toInt64.toInt = (0 : Int64).toInt := by rw [q]
  rw [Int32.toInt_toInt64] at q1
  exact Int32.toInt_inj.mp q1)
/-! the class's state: octets, registers, the decimals' source, the fields that are ints -/
abbrev XS : Type := (Nat → Int32) × (Nat → Int32) × (Nat → Int32) × (Nat → Int32)
def xM (u : XS) : Nat → Int32 := u.1
def xR (u : XS) : Nat → Int32 := u.2.1
def xO (u : XS) : Nat → Int32 := u.2.2.1
def xF (u : XS) : Nat → Int32 := u.2.2.2
def xsM (u : XS) (i : Nat) (v : Int32) : XS := (upd u.1 i v, u.2.1, u.2.2.1, u.2.2.2)
def xsR (u : XS) (i : Nat) (v : Int32) : XS := (u.1, upd u.2.1 i v, u.2.2.1, u.2.2.2)
def xsO (u : XS) (i : Nat) (v : Int32) : XS := (u.1, u.2.1, upd u.2.2.1 i v, u.2.2.2)
def xsF (u : XS) (i : Nat) (v : Int32) : XS := (u.1, u.2.1, u.2.2.1, upd u.2.2.2 i v)
def tyX (k : Nat → ClassId) : List (ClassId × FieldType) := [(k 0, .int), (k 1, .int), (k 2, .int)]
def xW (a : Nat → Nat) (k : Nat → ClassId) (u : XS) : va_W := [(a 0, .inr (0, [.ref (a 1), .ref (a 5)])), (a 1, .inr (1, [.ref (a 2), .ref (a 4), .int (xF u 0), .int (xF u 1), .int (xF u 2), .int (xF u 3)])), (a 2, .inr (2, [.ref (a 3)])), (a 3, .inl (k 0, 1024, .inl (xM u))), (a 4, .inl (k 1, 16, .inl (xR u))), (a 5, .inr (3, [.ref (a 1), .ref (a 6), .ref (a 7), .ref (a 8), .ref (a 9), .ref (a 10), .ref (a 11), .int (xF u 11), .int (xF u 12), .int (xF u 13)])), (a 6, .inr (4, [.int (xF u 4), .int (xF u 5), .int (xF u 6), .int (xF u 7), .int (xF u 8), .int (xF u 9), .int (xF u 10)])), (a 7, .inr (5, [.ref (a 1)])), (a 8, .inr (6, [.ref (a 1)])), (a 9, .inr (7, [.ref (a 1)])), (a 10, .inr (8, [.ref (a 1), .ref (a 2)])), (a 11, .inr (9, [.ref (a 1), .ref (a 2), .ref (a 12)])), (a 12, .inl (k 2, 16, .inl (xO u)))]
end
section
def f_XDM_isWithin (u0 : XS) (x0 : Int32) (x1 : Int32) (x2 : Int32) : Bool := if x0 < x1 then false else if x2 < x0 then false else true
set_option maxHeartbeats 4000000 in
set_option maxRecDepth 100000 in
theorem c_XDM_isWithin (l : Launch) (D : va_G) (a : Nat → Nat) (k : Nat → ClassId) (u0 : XS) (x0 : Int32) (x1 : Int32) (x2 : Int32) : zRz l y_XDM_isWithin w_XDM_isWithin rm_XDM_isWithin D clX (tyX k) nwX (xW a k) [.int x0, .int x1, .int x2] u0 (f_XDM_isWithin u0 x0 x1 x2) := by
  generalize hF : f_XDM_isWithin u0 x0 x1 x2 = F
  have hf := hF.symm
  unfold f_XDM_isWithin at hf
  refine zRz_of (cc := b_XDM_isWithin) (maxL := 3) (own := RX_DM) (by decide) rfl rfl (Nat.le_of_ble_eq_true rfl) ?_
  intro p e R st m args below meth c H locs Q ls hR hx hb hml hown hts hw hret hl
  subst hR
  have hcs : 0 ≤ (rm_XDM_isWithin).cells ∧ 0 ≤ (rm_XDM_isWithin).slots := ⟨Nat.zero_le _, Nat.zero_le _⟩
  have hl : lv_has ls 3 [(0, .int x0), (1, .int x1), (2, .int x2)] := hl
  refine lv_iload_n hx hb d_XDM_isWithin_0 rfl (lv_at hl 0 rfl) ?_
  refine lv_iload_n hx hb d_XDM_isWithin_1 rfl (lv_at hl 1 rfl) ?_
  refine lv_icmp_lt (tgt := 14) hx hb d_XDM_isWithin_2 (by decide) (fun c_1 => ?_) (fun c_1 => ?_)
  · have hf := hf.trans (if_pos c_1)
    refine lv_iconst (v := (0 : Int32)) hx hb d_XDM_isWithin_14 (by decide) ?_
    exact hret false _ _ d_XDM_isWithin_15 hf
  · have hf := hf.trans (if_neg c_1)
    refine lv_iload_n hx hb d_XDM_isWithin_5 rfl (lv_at hl 0 rfl) ?_
    refine lv_iload_n hx hb d_XDM_isWithin_6 rfl (lv_at hl 2 rfl) ?_
    refine lv_icmp_gt (tgt := 14) hx hb d_XDM_isWithin_7 (by decide) (fun c_2 => ?_) (fun c_2 => ?_)
    · have hf := hf.trans (if_pos c_2)
      refine lv_iconst (v := (0 : Int32)) hx hb d_XDM_isWithin_14 (by decide) ?_
      exact hret false _ _ d_XDM_isWithin_15 hf
    · have hf := hf.trans (if_neg c_2)
      refine lv_iconst (v := (1 : Int32)) hx hb d_XDM_isWithin_10 (by decide) ?_
      refine lv_goto (tgt := 15) hx hb d_XDM_isWithin_11 (by decide) ?_
      exact hret true _ _ d_XDM_isWithin_15 hf
def f_XDM_isNibble (u0 : XS) (x0 : Int32) : Bool := nm (f_XDM_isWithin u0 x0 (0 : Int32) (15 : Int32)) (fun (z_1 : Bool) => z_1)
set_option maxHeartbeats 4000000 in
set_option maxRecDepth 100000 in
theorem c_XDM_isNibble (l : Launch) (D : va_G) (a : Nat → Nat) (k : Nat → ClassId) (u0 : XS) (x0 : Int32) : zRz l y_XDM_isNibble w_XDM_isNibble rm_XDM_isNibble D clX (tyX k) nwX (xW a k) [.int x0] u0 (f_XDM_isNibble u0 x0) := by
  generalize hF : f_XDM_isNibble u0 x0 = F
  have hf := hF.symm
  unfold f_XDM_isNibble at hf
  refine zRz_of (cc := b_XDM_isNibble) (maxL := 1) (own := RX_DM) (by decide) rfl rfl (Nat.le_of_ble_eq_true rfl) ?_
  intro p e R st m args below meth c H locs Q ls hR hx hb hml hown hts hw hret hl
  subst hR
  have hcs : 0 ≤ (rm_XDM_isNibble).cells ∧ 0 ≤ (rm_XDM_isNibble).slots := ⟨Nat.zero_le _, Nat.zero_le _⟩
  have hl : lv_has ls 1 [(0, .int x0)] := hl
  refine lv_iload_n hx hb d_XDM_isNibble_0 rfl (lv_at hl 0 rfl) ?_
  refine lv_iconst (v := (0 : Int32)) hx hb d_XDM_isNibble_1 (by decide) ?_
  refine lv_bipush (v := (15 : Int32)) hx hb d_XDM_isNibble_2 (by decide) ?_
  refine z_rz (z_runS (As := [.int x0, .int (0 : Int32), .int (15 : Int32)]) (rest := []) ⟨hx, hb, hml, hown, hts⟩ (c_XDM_isWithin l D a k u0 x0 (0 : Int32) (15 : Int32)) (qX_DM_25 hts (by decide)) hw  hl.1 rfl (lv_room (Nat.le_of_ble_eq_true rfl)) d_XDM_isNibble_4 hcs) (fun z_1 ez_1 => ?_)
  have hf := hf.trans (nm_eq ez_1)
  exact hret z_1 _ _ d_XDM_isNibble_7 hf
def f_XDM_isPlace (u0 : XS) (x0 : Int32) (x1 : Int32) : Bool := nm (f_XDM_isNibble u0 x0) (fun (z_1 : Bool) => if (bI z_1) = (0 : Int32) then false else nm (f_XDM_isWithin u0 x1 (0 : Int32) (4095 : Int32)) (fun (z_3 : Bool) => if (bI z_3) = (0 : Int32) then false else true))
set_option maxHeartbeats 4000000 in
set_option maxRecDepth 100000 in
theorem c_XDM_isPlace (l : Launch) (D : va_G) (a : Nat → Nat) (k : Nat → ClassId) (u0 : XS) (x0 : Int32) (x1 : Int32) : zRz l y_XDM_isPlace w_XDM_isPlace rm_XDM_isPlace D clX (tyX k) nwX (xW a k) [.int x0, .int x1] u0 (f_XDM_isPlace u0 x0 x1) := by
  generalize hF : f_XDM_isPlace u0 x0 x1 = F
  have hf := hF.symm
  unfold f_XDM_isPlace at hf
  refine zRz_of (cc := b_XDM_isPlace) (maxL := 2) (own := RX_DM) (by decide) rfl rfl (Nat.le_of_ble_eq_true rfl) ?_
  intro p e R st m args below meth c H locs Q ls hR hx hb hml hown hts hw hret hl
  subst hR
  have hcs : 0 ≤ (rm_XDM_isPlace).cells ∧ 0 ≤ (rm_XDM_isPlace).slots := ⟨Nat.zero_le _, Nat.zero_le _⟩
  have hl : lv_has ls 2 [(0, .int x0), (1, .int x1)] := hl
  refine lv_iload_n hx hb d_XDM_isPlace_0 rfl (lv_at hl 0 rfl) ?_
  refine z_rz (z_runS (As := [.int x0]) (rest := []) ⟨hx, hb, hml, hown, hts⟩ (c_XDM_isNibble l D a k u0 x0) (qX_DM_51 hts (by decide)) hw  hl.1 rfl (lv_room (Nat.le_of_ble_eq_true rfl)) d_XDM_isPlace_1 hcs) (fun z_1 ez_1 => ?_)
  have hf := hf.trans (nm_eq ez_1)
  refine lv_if_eq (tgt := 22) hx hb d_XDM_isPlace_4 (by decide) (fun c_2 => ?_) (fun c_2 => ?_)
  · have hf := hf.trans (if_pos c_2)
    refine lv_iconst (v := (0 : Int32)) hx hb d_XDM_isPlace_22 (by decide) ?_
    exact hret false _ _ d_XDM_isPlace_23 hf
  · have hf := hf.trans (if_neg c_2)
    refine lv_iload_n hx hb d_XDM_isPlace_7 rfl (lv_at hl 1 rfl) ?_
    refine lv_iconst (v := (0 : Int32)) hx hb d_XDM_isPlace_8 (by decide) ?_
    refine lv_sipush (v := (4095 : Int32)) hx hb d_XDM_isPlace_9 (by decide) ?_
    refine z_rz (z_runS (As := [.int x1, .int (0 : Int32), .int (4095 : Int32)]) (rest := []) ⟨hx, hb, hml, hown, hts⟩ (c_XDM_isWithin l D a k u0 x1 (0 : Int32) (4095 : Int32)) (qX_DM_25 hts (by decide)) hw  hl.1 rfl (lv_room (Nat.le_of_ble_eq_true rfl)) d_XDM_isPlace_12 hcs) (fun z_3 ez_3 => ?_)
    have hf := hf.trans (nm_eq ez_3)
    refine lv_if_eq (tgt := 22) hx hb d_XDM_isPlace_15 (by decide) (fun c_4 => ?_) (fun c_4 => ?_)
    · have hf := hf.trans (if_pos c_4)
      refine lv_iconst (v := (0 : Int32)) hx hb d_XDM_isPlace_22 (by decide) ?_
      exact hret false _ _ d_XDM_isPlace_23 hf
    · have hf := hf.trans (if_neg c_4)
      refine lv_iconst (v := (1 : Int32)) hx hb d_XDM_isPlace_18 (by decide) ?_
      refine lv_goto (tgt := 23) hx hb d_XDM_isPlace_19 (by decide) ?_
      exact hret true _ _ d_XDM_isPlace_23 hf
end
section
def f_XAr_lacksPair (u0 : XS) (x0 : Int32) (x1 : Int32) : Bool := jn (fun (K_1 : Bool) => if x0 = (28 : Int32) then K_1 else if x0 = (29 : Int32) then K_1 else false) (if (x1 &&& (1 : Int32)) = (0 : Int32) then false else true)
set_option maxHeartbeats 4000000 in
set_option maxRecDepth 100000 in
theorem c_XAr_lacksPair (l : Launch) (D : va_G) (a : Nat → Nat) (k : Nat → ClassId) (u0 : XS) (x0 : Int32) (x1 : Int32) : zRz l y_XAr_lacksPair w_XAr_lacksPair rm_XAr_lacksPair D clX (tyX k) nwX (xW a k) [.int x0, .int x1] u0 (f_XAr_lacksPair u0 x0 x1) := by
  generalize hF : f_XAr_lacksPair u0 x0 x1 = F
  have hf := hF.symm
  unfold f_XAr_lacksPair at hf
  refine zRz_of (cc := b_XAr_lacksPair) (maxL := 2) (own := RX_Ar) (by decide) rfl rfl (Nat.le_of_ble_eq_true rfl) ?_
  intro p e R st m args below meth c H locs Q ls hR hx hb hml hown hts hw hret hl
  subst hR
  have hcs : 0 ≤ (rm_XAr_lacksPair).cells ∧ 0 ≤ (rm_XAr_lacksPair).slots := ⟨Nat.zero_le _, Nat.zero_le _⟩
  have hl : lv_has ls 2 [(0, .int x0), (1, .int x1)] := hl
  refine lv_iload_n hx hb d_XAr_lacksPair_0 rfl (lv_at hl 0 rfl) ?_
  refine lv_bipush (v := (28 : Int32)) hx hb d_XAr_lacksPair_1 (by decide) ?_
  refine jn_cut hf (fun (K_1 : Bool) => ∀ (ls : Array Slot), lv_has ls 2 [(1, .int x1)] → F = K_1 → W p l e rm_XAr_lacksPair st m args below meth c H locs 0 0 Q (F0 m 12 ls [])) ?_ ?_
  · intro ls hl hf
    refine lv_iload_n hx hb d_XAr_lacksPair_12 rfl (lv_at hl 0 rfl) ?_
    refine lv_iconst (v := (1 : Int32)) hx hb d_XAr_lacksPair_13 (by decide) ?_
    refine lv_iand hx hb d_XAr_lacksPair_14 ?_
    refine lv_if_eq (tgt := 22) hx hb d_XAr_lacksPair_15 (by decide) (fun c_2 => ?_) (fun c_2 => ?_)
    · have hf := hf.trans (if_pos c_2)
      refine lv_iconst (v := (0 : Int32)) hx hb d_XAr_lacksPair_22 (by decide) ?_
      exact hret false _ _ d_XAr_lacksPair_23 hf
    · have hf := hf.trans (if_neg c_2)
      refine lv_iconst (v := (1 : Int32)) hx hb d_XAr_lacksPair_18 (by decide) ?_
      refine lv_goto (tgt := 23) hx hb d_XAr_lacksPair_19 (by decide) ?_
      exact hret true _ _ d_XAr_lacksPair_23 hf
  · intro K_1 hK_1 hf
    refine lv_icmp_eq (tgt := 12) hx hb d_XAr_lacksPair_3 (by decide) (fun c_3 => ?_) (fun c_3 => ?_)
    · have hf := hf.trans (if_pos c_3)
      exact hK_1 _ (lv_sub hl [1] rfl) hf
    · have hf := hf.trans (if_neg c_3)
      refine lv_iload_n hx hb d_XAr_lacksPair_6 rfl (lv_at hl 0 rfl) ?_
      refine lv_bipush (v := (29 : Int32)) hx hb d_XAr_lacksPair_7 (by decide) ?_
      refine lv_icmp_ne (tgt := 22) hx hb d_XAr_lacksPair_9 (by decide) (fun c_4 => ?_) (fun c_4 => ?_)
      · have hf := hf.trans (if_neg c_4)
        refine lv_iconst (v := (0 : Int32)) hx hb d_XAr_lacksPair_22 (by decide) ?_
        exact hret false _ _ d_XAr_lacksPair_23 hf
      · have hf := hf.trans (if_pos c_4)
        exact hK_1 _ (lv_sub hl [1] rfl) hf
end
section
def f_XSt_value (u0 : XS) (x1 : Int32) : Int32 := (xR u0 (Int32.toNatClampNeg (x1 &&& (15 : Int32))))
set_option maxHeartbeats 4000000 in
set_option maxRecDepth 100000 in
theorem c_XSt_value (l : Launch) (D : va_G) (a : Nat → Nat) (k : Nat → ClassId) (u0 : XS) (x1 : Int32) : zRi l y_XSt_value w_XSt_value rm_XSt_value D clX (tyX k) nwX (xW a k) [.ref (a 1), .int x1] u0 (f_XSt_value u0 x1) := by
  generalize hF : f_XSt_value u0 x1 = F
  have hf := hF.symm
  unfold f_XSt_value at hf
  refine zRi_of (cc := b_XSt_value) (maxL := 2) (own := RX_St) (by decide) rfl rfl (Nat.le_of_ble_eq_true rfl) ?_
  intro p e R st m args below meth c H locs Q ls hR hx hb hml hown hts hw hret hl
  subst hR
  have hcs : 0 ≤ (rm_XSt_value).cells ∧ 0 ≤ (rm_XSt_value).slots := ⟨Nat.zero_le _, Nat.zero_le _⟩
  have hl : lv_has ls 2 [(0, .ref (a 1)), (1, .int x1)] := hl
  refine lv_aload_n hx hb d_XSt_value_0 rfl (lv_at hl 0 rfl) ?_
  refine va_get (v := .ref (a 4)) hx hb hts iX_St hown hw.2.1 hw.1 1 rfl rfl 1 (by decide) (hts _ kX_St_18) (fun _ h => h) rfl d_XSt_value_1 ?_
  refine lv_iload_n hx hb d_XSt_value_4 rfl (lv_at hl 1 rfl) ?_
  refine lv_bipush (v := (15 : Int32)) hx hb d_XSt_value_5 (by decide) ?_
  refine lv_iand hx hb d_XSt_value_7 ?_
  refine va_iald hx hb hw.2.1 hw.1 4 1 rfl rfl (z_in15 _) d_XSt_value_8 ?_
  exact hret (xR u0 (Int32.toNatClampNeg (x1 &&& (15 : Int32)))) _ _ d_XSt_value_9 hf
def f_XSt_put (u0 : XS) (x1 : Int32) (x2 : Int32) : XS := nm (xsR u0 (Int32.toNatClampNeg (x1 &&& (15 : Int32))) x2) (fun (u_1 : XS) => u_1)
set_option maxHeartbeats 4000000 in
set_option maxRecDepth 100000 in
theorem c_XSt_put (l : Launch) (D : va_G) (a : Nat → Nat) (k : Nat → ClassId) (u0 : XS) (x1 : Int32) (x2 : Int32) : zMv l y_XSt_put w_XSt_put rm_XSt_put D clX (tyX k) nwX (xW a k) [.ref (a 1), .int x1, .int x2] u0 (f_XSt_put u0 x1 x2) := by
  generalize hF : f_XSt_put u0 x1 x2 = F
  have hf := hF.symm
  unfold f_XSt_put at hf
  refine zMv_of (cc := b_XSt_put) (maxL := 3) (own := RX_St) (by decide) rfl rfl (Nat.le_of_ble_eq_true rfl) ?_
  intro p e R st m args below meth c A H locs Q ls hR hx hb hml hown hts hw hS hret hl
  subst hR
  have hcs : 0 ≤ (rm_XSt_put).cells ∧ 0 ≤ (rm_XSt_put).slots := ⟨Nat.zero_le _, Nat.zero_le _⟩
  have hl : lv_has ls 3 [(0, .ref (a 1)), (1, .int x1), (2, .int x2)] := hl
  refine lv_aload_n hx hb d_XSt_put_0 rfl (lv_at hl 0 rfl) ?_
  refine va_get (v := .ref (a 4)) hx hb hts iX_St hown hw.2.1 hw.1 1 rfl rfl 1 (by decide) (hts _ kX_St_18) (fun _ h => h) rfl d_XSt_put_1 ?_
  refine lv_iload_n hx hb d_XSt_put_4 rfl (lv_at hl 1 rfl) ?_
  refine lv_bipush (v := (15 : Int32)) hx hb d_XSt_put_5 (by decide) ?_
  refine lv_iand hx hb d_XSt_put_7 ?_
  refine lv_iload_n hx hb d_XSt_put_8 rfl (lv_at hl 2 rfl) ?_
  refine z_iast (u' := xsR u0 (Int32.toNatClampNeg (x1 &&& (15 : Int32))) x2) hx hb hw hS 4 1 rfl rfl (z_in15 _) rfl d_XSt_put_9 (fun u_1 H locs eu_1 hw hS => ?_)
  have hf := hf.trans (nm_eq eu_1)
  exact hret _ _ _ _ _ d_XSt_put_10 hw hS hf
def f_XSt_conditionBySign (u0 : XS) (y1 : Int64) : XS := if y1 = (0 : Int64) then nm (xsF u0 1 (0 : Int32)) (fun (u_5 : XS) => u_5) else if (0 : Int64) ≤ y1 then nm (xsF u0 1 (2 : Int32)) (fun (u_3 : XS) => u_3) else nm (xsF u0 1 (1 : Int32)) (fun (u_4 : XS) => u_4)
set_option maxHeartbeats 4000000 in
set_option maxRecDepth 100000 in
theorem c_XSt_conditionBySign (l : Launch) (D : va_G) (a : Nat → Nat) (k : Nat → ClassId) (u0 : XS) (y1 : Int64) : zMv l y_XSt_conditionBySign w_XSt_conditionBySign rm_XSt_conditionBySign D clX (tyX k) nwX (xW a k) [.ref (a 1), .long y1] u0 (f_XSt_conditionBySign u0 y1) := by
  generalize hF : f_XSt_conditionBySign u0 y1 = F
  have hf := hF.symm
  unfold f_XSt_conditionBySign at hf
  refine zMv_of (cc := b_XSt_conditionBySign) (maxL := 3) (own := RX_St) (by decide) rfl rfl (Nat.le_of_ble_eq_true rfl) ?_
  intro p e R st m args below meth c A H locs Q ls hR hx hb hml hown hts hw hS hret hl
  subst hR
  have hcs : 0 ≤ (rm_XSt_conditionBySign).cells ∧ 0 ≤ (rm_XSt_conditionBySign).slots := ⟨Nat.zero_le _, Nat.zero_le _⟩
  have hl : lv_has ls 3 [(0, .ref (a 1)), (1, .long y1)] := hl
  refine lv_aload_n hx hb d_XSt_conditionBySign_0 rfl (lv_at hl 0 rfl) ?_
  refine lv_lload_n hx hb d_XSt_conditionBySign_1 rfl (lv_at hl 1 rfl) ?_
  refine lv_lconst (v := 0) hx hb d_XSt_conditionBySign_2 (by decide) ?_
  refine z_lcmp_ne (tgt := 11) hx hb d_XSt_conditionBySign_3 d_XSt_conditionBySign_4 (by decide) (fun c_1 => ?_) (fun c_1 => ?_)
  · have hf := hf.trans (if_neg c_1)
    refine lv_lload_n hx hb d_XSt_conditionBySign_11 rfl (lv_at hl 1 rfl) ?_
    refine lv_lconst (v := 0) hx hb d_XSt_conditionBySign_12 (by decide) ?_
    refine z_lcmp_ge (tgt := 21) hx hb d_XSt_conditionBySign_13 d_XSt_conditionBySign_14 (by decide) (fun c_2 => ?_) (fun c_2 => ?_)
    · have hf := hf.trans (if_pos c_2)
      refine lv_iconst (v := (2 : Int32)) hx hb d_XSt_conditionBySign_21 (by decide) ?_
      refine z_put (u' := xsF u0 1 (2 : Int32)) hx hb hts iX_St tX_St tX_St_ok nX_St hown hw hS 1 rfl rfl 3 (by decide) (hts _ kX_St_26) (fun _ h => h) rfl rfl (Nat.le_of_ble_eq_true rfl) rfl d_XSt_conditionBySign_22 (fun u_3 H locs eu_3 hw hS => ?_)
      have hf := hf.trans (nm_eq eu_3)
      exact hret _ _ _ _ _ d_XSt_conditionBySign_25 hw hS hf
    · have hf := hf.trans (if_neg c_2)
      refine lv_iconst (v := (1 : Int32)) hx hb d_XSt_conditionBySign_17 (by decide) ?_
      refine lv_goto (tgt := 22) hx hb d_XSt_conditionBySign_18 (by decide) ?_
      refine z_put (u' := xsF u0 1 (1 : Int32)) hx hb hts iX_St tX_St tX_St_ok nX_St hown hw hS 1 rfl rfl 3 (by decide) (hts _ kX_St_26) (fun _ h => h) rfl rfl (Nat.le_of_ble_eq_true rfl) rfl d_XSt_conditionBySign_22 (fun u_4 H locs eu_4 hw hS => ?_)
      have hf := hf.trans (nm_eq eu_4)
      exact hret _ _ _ _ _ d_XSt_conditionBySign_25 hw hS hf
  · have hf := hf.trans (if_pos c_1)
    refine lv_iconst (v := (0 : Int32)) hx hb d_XSt_conditionBySign_7 (by decide) ?_
    refine lv_goto (tgt := 22) hx hb d_XSt_conditionBySign_8 (by decide) ?_
    refine z_put (u' := xsF u0 1 (0 : Int32)) hx hb hts iX_St tX_St tX_St_ok nX_St hown hw hS 1 rfl rfl 3 (by decide) (hts _ kX_St_26) (fun _ h => h) rfl rfl (Nat.le_of_ble_eq_true rfl) rfl d_XSt_conditionBySign_22 (fun u_5 H locs eu_5 hw hS => ?_)
    have hf := hf.trans (nm_eq eu_5)
    exact hret _ _ _ _ _ d_XSt_conditionBySign_25 hw hS hf
def f_XSt_fixedOverflow (u0 : XS)  : Int32 × XS := nm (xsF u0 1 (3 : Int32)) (fun (u_1 : XS) => if ((xF u_1 2) &&& (1 : Int32)) = (0 : Int32) then ((0 : Int32), u_1) else ((8 : Int32), u_1))
set_option maxHeartbeats 4000000 in
set_option maxRecDepth 100000 in
theorem c_XSt_fixedOverflow (l : Launch) (D : va_G) (a : Nat → Nat) (k : Nat → ClassId) (u0 : XS)  : zMi l y_XSt_fixedOverflow w_XSt_fixedOverflow rm_XSt_fixedOverflow D clX (tyX k) nwX (xW a k) [.ref (a 1)] u0 (f_XSt_fixedOverflow u0) := by
  generalize hF : f_XSt_fixedOverflow u0 = F
  have hf := hF.symm
  unfold f_XSt_fixedOverflow at hf
  refine zMi_of (cc := b_XSt_fixedOverflow) (maxL := 1) (own := RX_St) (by decide) rfl rfl (Nat.le_of_ble_eq_true rfl) ?_
  intro p e R st m args below meth c A H locs Q ls hR hx hb hml hown hts hw hS hret hl
  subst hR
  have hcs : 0 ≤ (rm_XSt_fixedOverflow).cells ∧ 0 ≤ (rm_XSt_fixedOverflow).slots := ⟨Nat.zero_le _, Nat.zero_le _⟩
  have hl : lv_has ls 1 [(0, .ref (a 1))] := hl
  refine lv_aload_n hx hb d_XSt_fixedOverflow_0 rfl (lv_at hl 0 rfl) ?_
  refine lv_iconst (v := (3 : Int32)) hx hb d_XSt_fixedOverflow_1 (by decide) ?_
  refine z_put (u' := xsF u0 1 (3 : Int32)) hx hb hts iX_St tX_St tX_St_ok nX_St hown hw hS 1 rfl rfl 3 (by decide) (hts _ kX_St_26) (fun _ h => h) rfl rfl (Nat.le_of_ble_eq_true rfl) rfl d_XSt_fixedOverflow_2 (fun u_1 H locs eu_1 hw hS => ?_)
  have hf := hf.trans (nm_eq eu_1)
  refine lv_aload_n hx hb d_XSt_fixedOverflow_5 rfl (lv_at hl 0 rfl) ?_
  refine va_get (v := .int (xF u_1 2)) hx hb hts iX_St hown hw.2.1 hw.1 1 rfl rfl 4 (by decide) (hts _ kX_St_29) (fun _ h => h) rfl d_XSt_fixedOverflow_6 ?_
  refine lv_iconst (v := (1 : Int32)) hx hb d_XSt_fixedOverflow_9 (by decide) ?_
  refine lv_iand hx hb d_XSt_fixedOverflow_10 ?_
  refine lv_if_eq (tgt := 19) hx hb d_XSt_fixedOverflow_11 (by decide) (fun c_2 => ?_) (fun c_2 => ?_)
  · have hf := hf.trans (if_pos c_2)
    refine lv_iconst (v := (0 : Int32)) hx hb d_XSt_fixedOverflow_19 (by decide) ?_
    exact hret (0 : Int32) _ _ _ _ _ d_XSt_fixedOverflow_20 hw hS hf
  · have hf := hf.trans (if_neg c_2)
    refine lv_bipush (v := (8 : Int32)) hx hb d_XSt_fixedOverflow_14 (by decide) ?_
    refine lv_goto (tgt := 20) hx hb d_XSt_fixedOverflow_16 (by decide) ?_
    exact hret (8 : Int32) _ _ _ _ _ d_XSt_fixedOverflow_20 hw hS hf
end
section
def f_XAr_putSigned (u0 : XS) (x1 : Int32) (y2 : Int64) : Int32 × XS := nm (Int64.toInt32 y2) (fun (x_1 : Int32) => nm (f_XSt_put u0 x1 x_1) (fun (u_2 : XS) => nm (f_XSt_conditionBySign u_2 (Int32.toInt64 x_1)) (fun (u_3 : XS) => if (Int32.toInt64 x_1) = y2 then ((0 : Int32), u_3) else pr (f_XSt_fixedOverflow u_3) (fun (x_6 : Int32) (u_5 : XS) => (x_6, u_5)))))
set_option maxHeartbeats 4000000 in
set_option maxRecDepth 100000 in
theorem c_XAr_putSigned (l : Launch) (D : va_G) (a : Nat → Nat) (k : Nat → ClassId) (u0 : XS) (x1 : Int32) (y2 : Int64) : zMi l y_XAr_putSigned w_XAr_putSigned rm_XAr_putSigned D clX (tyX k) nwX (xW a k) [.ref (a 7), .int x1, .long y2] u0 (f_XAr_putSigned u0 x1 y2) := by
  generalize hF : f_XAr_putSigned u0 x1 y2 = F
  have hf := hF.symm
  unfold f_XAr_putSigned at hf
  refine zMi_of (cc := b_XAr_putSigned) (maxL := 5) (own := RX_Ar) (by decide) rfl rfl (Nat.le_of_ble_eq_true rfl) ?_
  intro p e R st m args below meth c A H locs Q ls hR hx hb hml hown hts hw hS hret hl
  subst hR
  have hcs : 0 ≤ (rm_XAr_putSigned).cells ∧ 0 ≤ (rm_XAr_putSigned).slots := ⟨Nat.zero_le _, Nat.zero_le _⟩
  have hl : lv_has ls 5 [(0, .ref (a 7)), (1, .int x1), (2, .long y2)] := hl
  refine lv_lload_n hx hb d_XAr_putSigned_0 rfl (lv_at hl 2 rfl) ?_
  refine lv_l2i (v := Int64.toInt32 y2) hx hb d_XAr_putSigned_1 rfl ?_
  refine lv_topi (fun x_1 ex_1 => ?_)
  have hf := hf.trans (nm_eq ex_1)
  refine lv_istore (lv' := [(4, .int x_1), (0, .ref (a 7)), (1, .int x1), (2, .long y2)]) hx hb d_XAr_putSigned_2 hl (by decide) rfl (fun ls hl => ?_)
  refine lv_aload_n hx hb d_XAr_putSigned_4 rfl (lv_at hl 1 rfl) ?_
  refine va_get (v := .ref (a 1)) hx hb hts iX_Ar hown hw.2.1 hw.1 7 rfl rfl 0 (by decide) (hts _ kX_Ar_9) (fun _ h => h) rfl d_XAr_putSigned_5 ?_
  refine lv_iload_n hx hb d_XAr_putSigned_8 rfl (lv_at hl 2 rfl) ?_
  refine lv_iload hx hb d_XAr_putSigned_9 (lv_at hl 0 rfl) ?_
  refine z_wv (z_runV (As := [.int x1, .int x_1]) (rest := []) ⟨hx, hb, hml, hown, hts⟩ (c_XSt_put l D a k u0 x1 x_1) (qX_Ar_60 hts (by decide)) hw 1 rfl rfl hl.1 rfl (lv_room (Nat.le_of_ble_eq_true rfl)) d_XAr_putSigned_11 hcs) hw hS (fun u_2 H locs eu_2 hw hS => ?_)
  have hf := hf.trans (nm_eq eu_2)
  refine lv_aload_n hx hb d_XAr_putSigned_14 rfl (lv_at hl 1 rfl) ?_
  refine va_get (v := .ref (a 1)) hx hb hts iX_Ar hown hw.2.1 hw.1 7 rfl rfl 0 (by decide) (hts _ kX_Ar_9) (fun _ h => h) rfl d_XAr_putSigned_15 ?_
  refine lv_iload hx hb d_XAr_putSigned_18 (lv_at hl 0 rfl) ?_
  refine lv_i2l (v := Int32.toInt64 x_1) hx hb d_XAr_putSigned_20 rfl ?_
  refine z_wv (z_runV (As := [.long (Int32.toInt64 x_1)]) (rest := []) ⟨hx, hb, hml, hown, hts⟩ (c_XSt_conditionBySign l D a k u_2 (Int32.toInt64 x_1)) (qX_Ar_98 hts (by decide)) hw 1 rfl rfl hl.1 rfl (lv_room (Nat.le_of_ble_eq_true rfl)) d_XAr_putSigned_21 hcs) hw hS (fun u_3 H locs eu_3 hw hS => ?_)
  have hf := hf.trans (nm_eq eu_3)
  refine lv_iload hx hb d_XAr_putSigned_24 (lv_at hl 0 rfl) ?_
  refine lv_i2l (v := Int32.toInt64 x_1) hx hb d_XAr_putSigned_26 rfl ?_
  refine lv_lload_n hx hb d_XAr_putSigned_27 rfl (lv_at hl 3 rfl) ?_
  refine z_lcmp_ne (tgt := 36) hx hb d_XAr_putSigned_28 d_XAr_putSigned_29 (by decide) (fun c_4 => ?_) (fun c_4 => ?_)
  · have hf := hf.trans (if_neg c_4)
    refine lv_aload_n hx hb d_XAr_putSigned_36 rfl (lv_at hl 1 rfl) ?_
    refine va_get (v := .ref (a 1)) hx hb hts iX_Ar hown hw.2.1 hw.1 7 rfl rfl 0 (by decide) (hts _ kX_Ar_9) (fun _ h => h) rfl d_XAr_putSigned_37 ?_
    refine z_wi (z_runV (As := []) (rest := []) ⟨hx, hb, hml, hown, hts⟩ (c_XSt_fixedOverflow l D a k u_3) (qX_Ar_106 hts (by decide)) hw 1 rfl rfl hl.1 rfl (lv_room (Nat.le_of_ble_eq_true rfl)) d_XAr_putSigned_40 hcs) hw hS (fun x_6 u_5 H locs ex_6 hw hS => ?_)
    have hf := hf.trans (pr_eq ex_6)
    exact hret x_6 _ _ _ _ _ d_XAr_putSigned_43 hw hS hf
  · have hf := hf.trans (if_pos c_4)
    refine lv_iconst (v := (0 : Int32)) hx hb d_XAr_putSigned_32 (by decide) ?_
    refine lv_goto (tgt := 43) hx hb d_XAr_putSigned_33 (by decide) ?_
    exact hret (0 : Int32) _ _ _ _ _ d_XAr_putSigned_43 hw hS hf
end
section
def f_XSt_conditionByBits (u0 : XS) (x1 : Int32) : XS := if x1 = (0 : Int32) then nm (xsF u0 1 (0 : Int32)) (fun (u_3 : XS) => u_3) else nm (xsF u0 1 (1 : Int32)) (fun (u_2 : XS) => u_2)
set_option maxHeartbeats 4000000 in
set_option maxRecDepth 100000 in
theorem c_XSt_conditionByBits (l : Launch) (D : va_G) (a : Nat → Nat) (k : Nat → ClassId) (u0 : XS) (x1 : Int32) : zMv l y_XSt_conditionByBits w_XSt_conditionByBits rm_XSt_conditionByBits D clX (tyX k) nwX (xW a k) [.ref (a 1), .int x1] u0 (f_XSt_conditionByBits u0 x1) := by
  generalize hF : f_XSt_conditionByBits u0 x1 = F
  have hf := hF.symm
  unfold f_XSt_conditionByBits at hf
  refine zMv_of (cc := b_XSt_conditionByBits) (maxL := 2) (own := RX_St) (by decide) rfl rfl (Nat.le_of_ble_eq_true rfl) ?_
  intro p e R st m args below meth c A H locs Q ls hR hx hb hml hown hts hw hS hret hl
  subst hR
  have hcs : 0 ≤ (rm_XSt_conditionByBits).cells ∧ 0 ≤ (rm_XSt_conditionByBits).slots := ⟨Nat.zero_le _, Nat.zero_le _⟩
  have hl : lv_has ls 2 [(0, .ref (a 1)), (1, .int x1)] := hl
  refine lv_aload_n hx hb d_XSt_conditionByBits_0 rfl (lv_at hl 0 rfl) ?_
  refine lv_iload_n hx hb d_XSt_conditionByBits_1 rfl (lv_at hl 1 rfl) ?_
  refine lv_if_ne (tgt := 9) hx hb d_XSt_conditionByBits_2 (by decide) (fun c_1 => ?_) (fun c_1 => ?_)
  · have hf := hf.trans (if_neg c_1)
    refine lv_iconst (v := (1 : Int32)) hx hb d_XSt_conditionByBits_9 (by decide) ?_
    refine z_put (u' := xsF u0 1 (1 : Int32)) hx hb hts iX_St tX_St tX_St_ok nX_St hown hw hS 1 rfl rfl 3 (by decide) (hts _ kX_St_26) (fun _ h => h) rfl rfl (Nat.le_of_ble_eq_true rfl) rfl d_XSt_conditionByBits_10 (fun u_2 H locs eu_2 hw hS => ?_)
    have hf := hf.trans (nm_eq eu_2)
    exact hret _ _ _ _ _ d_XSt_conditionByBits_13 hw hS hf
  · have hf := hf.trans (if_pos c_1)
    refine lv_iconst (v := (0 : Int32)) hx hb d_XSt_conditionByBits_5 (by decide) ?_
    refine lv_goto (tgt := 10) hx hb d_XSt_conditionByBits_6 (by decide) ?_
    refine z_put (u' := xsF u0 1 (0 : Int32)) hx hb hts iX_St tX_St tX_St_ok nX_St hown hw hS 1 rfl rfl 3 (by decide) (hts _ kX_St_26) (fun _ h => h) rfl rfl (Nat.le_of_ble_eq_true rfl) rfl d_XSt_conditionByBits_10 (fun u_3 H locs eu_3 hw hS => ?_)
    have hf := hf.trans (nm_eq eu_3)
    exact hret _ _ _ _ _ d_XSt_conditionByBits_13 hw hS hf
end
section
def f_XAr_putBits (u0 : XS) (x1 : Int32) (x2 : Int32) : Int32 × XS := nm (f_XSt_put u0 x1 x2) (fun (u_1 : XS) => nm (f_XSt_conditionByBits u_1 x2) (fun (u_2 : XS) => ((0 : Int32), u_2)))
set_option maxHeartbeats 4000000 in
set_option maxRecDepth 100000 in
theorem c_XAr_putBits (l : Launch) (D : va_G) (a : Nat → Nat) (k : Nat → ClassId) (u0 : XS) (x1 : Int32) (x2 : Int32) : zMi l y_XAr_putBits w_XAr_putBits rm_XAr_putBits D clX (tyX k) nwX (xW a k) [.ref (a 7), .int x1, .int x2] u0 (f_XAr_putBits u0 x1 x2) := by
  generalize hF : f_XAr_putBits u0 x1 x2 = F
  have hf := hF.symm
  unfold f_XAr_putBits at hf
  refine zMi_of (cc := b_XAr_putBits) (maxL := 3) (own := RX_Ar) (by decide) rfl rfl (Nat.le_of_ble_eq_true rfl) ?_
  intro p e R st m args below meth c A H locs Q ls hR hx hb hml hown hts hw hS hret hl
  subst hR
  have hcs : 0 ≤ (rm_XAr_putBits).cells ∧ 0 ≤ (rm_XAr_putBits).slots := ⟨Nat.zero_le _, Nat.zero_le _⟩
  have hl : lv_has ls 3 [(0, .ref (a 7)), (1, .int x1), (2, .int x2)] := hl
  refine lv_aload_n hx hb d_XAr_putBits_0 rfl (lv_at hl 0 rfl) ?_
  refine va_get (v := .ref (a 1)) hx hb hts iX_Ar hown hw.2.1 hw.1 7 rfl rfl 0 (by decide) (hts _ kX_Ar_9) (fun _ h => h) rfl d_XAr_putBits_1 ?_
  refine lv_iload_n hx hb d_XAr_putBits_4 rfl (lv_at hl 1 rfl) ?_
  refine lv_iload_n hx hb d_XAr_putBits_5 rfl (lv_at hl 2 rfl) ?_
  refine z_wv (z_runV (As := [.int x1, .int x2]) (rest := []) ⟨hx, hb, hml, hown, hts⟩ (c_XSt_put l D a k u0 x1 x2) (qX_Ar_60 hts (by decide)) hw 1 rfl rfl hl.1 rfl (lv_room (Nat.le_of_ble_eq_true rfl)) d_XAr_putBits_6 hcs) hw hS (fun u_1 H locs eu_1 hw hS => ?_)
  have hf := hf.trans (nm_eq eu_1)
  refine lv_aload_n hx hb d_XAr_putBits_9 rfl (lv_at hl 0 rfl) ?_
  refine va_get (v := .ref (a 1)) hx hb hts iX_Ar hown hw.2.1 hw.1 7 rfl rfl 0 (by decide) (hts _ kX_Ar_9) (fun _ h => h) rfl d_XAr_putBits_10 ?_
  refine lv_iload_n hx hb d_XAr_putBits_13 rfl (lv_at hl 2 rfl) ?_
  refine z_wv (z_runV (As := [.int x2]) (rest := []) ⟨hx, hb, hml, hown, hts⟩ (c_XSt_conditionByBits l D a k u_1 x2) (qX_Ar_102 hts (by decide)) hw 1 rfl rfl hl.1 rfl (lv_room (Nat.le_of_ble_eq_true rfl)) d_XAr_putBits_14 hcs) hw hS (fun u_2 H locs eu_2 hw hS => ?_)
  have hf := hf.trans (nm_eq eu_2)
  refine lv_iconst (v := (0 : Int32)) hx hb d_XAr_putBits_17 (by decide) ?_
  exact hret (0 : Int32) _ _ _ _ _ d_XAr_putBits_18 hw hS hf
def f_XAr_compare (u0 : XS) (y1 : Int64) (y3 : Int64) : Int32 × XS := nm (f_XSt_conditionBySign u0 (y1 - y3)) (fun (u_1 : XS) => ((0 : Int32), u_1))
set_option maxHeartbeats 4000000 in
set_option maxRecDepth 100000 in
theorem c_XAr_compare (l : Launch) (D : va_G) (a : Nat → Nat) (k : Nat → ClassId) (u0 : XS) (y1 : Int64) (y3 : Int64) : zMi l y_XAr_compare w_XAr_compare rm_XAr_compare D clX (tyX k) nwX (xW a k) [.ref (a 7), .long y1, .long y3] u0 (f_XAr_compare u0 y1 y3) := by
  generalize hF : f_XAr_compare u0 y1 y3 = F
  have hf := hF.symm
  unfold f_XAr_compare at hf
  refine zMi_of (cc := b_XAr_compare) (maxL := 5) (own := RX_Ar) (by decide) rfl rfl (Nat.le_of_ble_eq_true rfl) ?_
  intro p e R st m args below meth c A H locs Q ls hR hx hb hml hown hts hw hS hret hl
  subst hR
  have hcs : 0 ≤ (rm_XAr_compare).cells ∧ 0 ≤ (rm_XAr_compare).slots := ⟨Nat.zero_le _, Nat.zero_le _⟩
  have hl : lv_has ls 5 [(0, .ref (a 7)), (1, .long y1), (3, .long y3)] := hl
  refine lv_aload_n hx hb d_XAr_compare_0 rfl (lv_at hl 0 rfl) ?_
  refine va_get (v := .ref (a 1)) hx hb hts iX_Ar hown hw.2.1 hw.1 7 rfl rfl 0 (by decide) (hts _ kX_Ar_9) (fun _ h => h) rfl d_XAr_compare_1 ?_
  refine lv_lload_n hx hb d_XAr_compare_4 rfl (lv_at hl 1 rfl) ?_
  refine lv_lload_n hx hb d_XAr_compare_5 rfl (lv_at hl 2 rfl) ?_
  refine lv_lsub hx hb d_XAr_compare_6 ?_
  refine z_wv (z_runV (As := [.long (y1 - y3)]) (rest := []) ⟨hx, hb, hml, hown, hts⟩ (c_XSt_conditionBySign l D a k u0 (y1 - y3)) (qX_Ar_98 hts (by decide)) hw 1 rfl rfl hl.1 rfl (lv_room (Nat.le_of_ble_eq_true rfl)) d_XAr_compare_7 hcs) hw hS (fun u_1 H locs eu_1 hw hS => ?_)
  have hf := hf.trans (nm_eq eu_1)
  refine lv_iconst (v := (0 : Int32)) hx hb d_XAr_compare_10 (by decide) ?_
  exact hret (0 : Int32) _ _ _ _ _ d_XAr_compare_11 hw hS hf
def f_XAr_load (u0 : XS) (x1 : Int32) (x2 : Int32) : Int32 × XS := nm (f_XSt_put u0 x1 x2) (fun (u_1 : XS) => ((0 : Int32), u_1))
set_option maxHeartbeats 4000000 in
set_option maxRecDepth 100000 in
theorem c_XAr_load (l : Launch) (D : va_G) (a : Nat → Nat) (k : Nat → ClassId) (u0 : XS) (x1 : Int32) (x2 : Int32) : zMi l y_XAr_load w_XAr_load rm_XAr_load D clX (tyX k) nwX (xW a k) [.ref (a 7), .int x1, .int x2] u0 (f_XAr_load u0 x1 x2) := by
  generalize hF : f_XAr_load u0 x1 x2 = F
  have hf := hF.symm
  unfold f_XAr_load at hf
  refine zMi_of (cc := b_XAr_load) (maxL := 3) (own := RX_Ar) (by decide) rfl rfl (Nat.le_of_ble_eq_true rfl) ?_
  intro p e R st m args below meth c A H locs Q ls hR hx hb hml hown hts hw hS hret hl
  subst hR
  have hcs : 0 ≤ (rm_XAr_load).cells ∧ 0 ≤ (rm_XAr_load).slots := ⟨Nat.zero_le _, Nat.zero_le _⟩
  have hl : lv_has ls 3 [(0, .ref (a 7)), (1, .int x1), (2, .int x2)] := hl
  refine lv_aload_n hx hb d_XAr_load_0 rfl (lv_at hl 0 rfl) ?_
  refine va_get (v := .ref (a 1)) hx hb hts iX_Ar hown hw.2.1 hw.1 7 rfl rfl 0 (by decide) (hts _ kX_Ar_9) (fun _ h => h) rfl d_XAr_load_1 ?_
  refine lv_iload_n hx hb d_XAr_load_4 rfl (lv_at hl 1 rfl) ?_
  refine lv_iload_n hx hb d_XAr_load_5 rfl (lv_at hl 2 rfl) ?_
  refine z_wv (z_runV (As := [.int x1, .int x2]) (rest := []) ⟨hx, hb, hml, hown, hts⟩ (c_XSt_put l D a k u0 x1 x2) (qX_Ar_60 hts (by decide)) hw 1 rfl rfl hl.1 rfl (lv_room (Nat.le_of_ble_eq_true rfl)) d_XAr_load_6 hcs) hw hS (fun u_1 H locs eu_1 hw hS => ?_)
  have hf := hf.trans (nm_eq eu_1)
  refine lv_iconst (v := (0 : Int32)) hx hb d_XAr_load_9 (by decide) ?_
  exact hret (0 : Int32) _ _ _ _ _ d_XAr_load_10 hw hS hf
def f_XAr_multiply (u0 : XS) (x1 : Int32) (x2 : Int32) : Int32 × XS := nm (f_XSt_value u0 (x1 + (1 : Int32))) (fun (x_1 : Int32) => nm ((Int32.toInt64 x_1) * (Int32.toInt64 x2)) (fun (y_2 : Int64) => nm (f_XSt_put u0 x1 (Int64.toInt32 (y_2 >>> (Int32.toInt64 (32 : Int32) &&& 63)))) (fun (u_3 : XS) => nm (f_XSt_put u_3 (x1 + (1 : Int32)) (Int64.toInt32 y_2)) (fun (u_4 : XS) => ((0 : Int32), u_4)))))
set_option maxHeartbeats 4000000 in
set_option maxRecDepth 100000 in
theorem c_XAr_multiply (l : Launch) (D : va_G) (a : Nat → Nat) (k : Nat → ClassId) (u0 : XS) (x1 : Int32) (x2 : Int32) : zMi l y_XAr_multiply w_XAr_multiply rm_XAr_multiply D clX (tyX k) nwX (xW a k) [.ref (a 7), .int x1, .int x2] u0 (f_XAr_multiply u0 x1 x2) := by
  generalize hF : f_XAr_multiply u0 x1 x2 = F
  have hf := hF.symm
  unfold f_XAr_multiply at hf
  refine zMi_of (cc := b_XAr_multiply) (maxL := 5) (own := RX_Ar) (by decide) rfl rfl (Nat.le_of_ble_eq_true rfl) ?_
  intro p e R st m args below meth c A H locs Q ls hR hx hb hml hown hts hw hS hret hl
  subst hR
  have hcs : 0 ≤ (rm_XAr_multiply).cells ∧ 0 ≤ (rm_XAr_multiply).slots := ⟨Nat.zero_le _, Nat.zero_le _⟩
  have hl : lv_has ls 5 [(0, .ref (a 7)), (1, .int x1), (2, .int x2)] := hl
  refine lv_aload_n hx hb d_XAr_multiply_0 rfl (lv_at hl 0 rfl) ?_
  refine va_get (v := .ref (a 1)) hx hb hts iX_Ar hown hw.2.1 hw.1 7 rfl rfl 0 (by decide) (hts _ kX_Ar_9) (fun _ h => h) rfl d_XAr_multiply_1 ?_
  refine lv_iload_n hx hb d_XAr_multiply_4 rfl (lv_at hl 1 rfl) ?_
  refine lv_iconst (v := (1 : Int32)) hx hb d_XAr_multiply_5 (by decide) ?_
  refine lv_iadd hx hb d_XAr_multiply_6 ?_
  refine z_ri (z_runV (As := [.int (x1 + (1 : Int32))]) (rest := []) ⟨hx, hb, hml, hown, hts⟩ (c_XSt_value l D a k u0 (x1 + (1 : Int32))) (qX_Ar_31 hts (by decide)) hw 1 rfl rfl hl.1 rfl (lv_room (Nat.le_of_ble_eq_true rfl)) d_XAr_multiply_7 hcs) (fun x_1 ex_1 => ?_)
  have hf := hf.trans (nm_eq ex_1)
  refine lv_i2l (v := Int32.toInt64 x_1) hx hb d_XAr_multiply_10 rfl ?_
  refine lv_iload_n hx hb d_XAr_multiply_11 rfl (lv_at hl 2 rfl) ?_
  refine lv_i2l (v := Int32.toInt64 x2) hx hb d_XAr_multiply_12 rfl ?_
  refine lv_lmul hx hb d_XAr_multiply_13 ?_
  refine lv_topl (fun y_2 ey_2 => ?_)
  have hf := hf.trans (nm_eq ey_2)
  refine lv_lstore_n (lv' := [(3, .long y_2), (0, .ref (a 7)), (1, .int x1), (2, .int x2)]) hx hb d_XAr_multiply_14 rfl hl (by decide) rfl (fun ls hl => ?_)
  refine lv_aload_n hx hb d_XAr_multiply_15 rfl (lv_at hl 1 rfl) ?_
  refine va_get (v := .ref (a 1)) hx hb hts iX_Ar hown hw.2.1 hw.1 7 rfl rfl 0 (by decide) (hts _ kX_Ar_9) (fun _ h => h) rfl d_XAr_multiply_16 ?_
  refine lv_iload_n hx hb d_XAr_multiply_19 rfl (lv_at hl 2 rfl) ?_
  refine lv_lload_n hx hb d_XAr_multiply_20 rfl (lv_at hl 0 rfl) ?_
  refine lv_bipush (v := (32 : Int32)) hx hb d_XAr_multiply_21 (by decide) ?_
  refine lv_lshr (v := y_2 >>> (Int32.toInt64 (32 : Int32) &&& 63)) hx hb d_XAr_multiply_23 rfl ?_
  refine lv_l2i (v := Int64.toInt32 (y_2 >>> (Int32.toInt64 (32 : Int32) &&& 63))) hx hb d_XAr_multiply_24 rfl ?_
  refine z_wv (z_runV (As := [.int x1, .int (Int64.toInt32 (y_2 >>> (Int32.toInt64 (32 : Int32) &&& 63)))]) (rest := []) ⟨hx, hb, hml, hown, hts⟩ (c_XSt_put l D a k u0 x1 (Int64.toInt32 (y_2 >>> (Int32.toInt64 (32 : Int32) &&& 63)))) (qX_Ar_60 hts (by decide)) hw 1 rfl rfl hl.1 rfl (lv_room (Nat.le_of_ble_eq_true rfl)) d_XAr_multiply_25 hcs) hw hS (fun u_3 H locs eu_3 hw hS => ?_)
  have hf := hf.trans (nm_eq eu_3)
  refine lv_aload_n hx hb d_XAr_multiply_28 rfl (lv_at hl 1 rfl) ?_
  refine va_get (v := .ref (a 1)) hx hb hts iX_Ar hown hw.2.1 hw.1 7 rfl rfl 0 (by decide) (hts _ kX_Ar_9) (fun _ h => h) rfl d_XAr_multiply_29 ?_
  refine lv_iload_n hx hb d_XAr_multiply_32 rfl (lv_at hl 2 rfl) ?_
  refine lv_iconst (v := (1 : Int32)) hx hb d_XAr_multiply_33 (by decide) ?_
  refine lv_iadd hx hb d_XAr_multiply_34 ?_
  refine lv_lload_n hx hb d_XAr_multiply_35 rfl (lv_at hl 0 rfl) ?_
  refine lv_l2i (v := Int64.toInt32 y_2) hx hb d_XAr_multiply_36 rfl ?_
  refine z_wv (z_runV (As := [.int (x1 + (1 : Int32)), .int (Int64.toInt32 y_2)]) (rest := []) ⟨hx, hb, hml, hown, hts⟩ (c_XSt_put l D a k u_3 (x1 + (1 : Int32)) (Int64.toInt32 y_2)) (qX_Ar_60 hts (by decide)) hw 1 rfl rfl hl.1 rfl (lv_room (Nat.le_of_ble_eq_true rfl)) d_XAr_multiply_37 hcs) hw hS (fun u_4 H locs eu_4 hw hS => ?_)
  have hf := hf.trans (nm_eq eu_4)
  refine lv_iconst (v := (0 : Int32)) hx hb d_XAr_multiply_40 (by decide) ?_
  exact hret (0 : Int32) _ _ _ _ _ d_XAr_multiply_41 hw hS hf
def f_XAr_divide (u0 : XS) (x1 : Int32) (x2 : Int32) : Int32 × XS := if x2 = (0 : Int32) then ((9 : Int32), u0) else nm (f_XSt_value u0 x1) (fun (x_2 : Int32) => nm (f_XSt_value u0 (x1 + (1 : Int32))) (fun (x_3 : Int32) => nm (((Int32.toInt64 x_2) <<< (Int32.toInt64 (32 : Int32) &&& 63)) ||| ((Int32.toInt64 x_3) &&& (4294967295 : Int64))) (fun (y_4 : Int64) => nm (y_4 / (Int32.toInt64 x2)) (fun (y_5 : Int64) => if y_5 = (Int32.toInt64 (Int64.toInt32 y_5)) then nm (f_XSt_put u0 x1 (Int64.toInt32 (y_4 - y_4 / (Int32.toInt64 x2) * (Int32.toInt64 x2)))) (fun (u_7 : XS) => nm (f_XSt_put u_7 (x1 + (1 : Int32)) (Int64.toInt32 y_5)) (fun (u_8 : XS) => ((0 : Int32), u_8))) else ((9 : Int32), u0)))))
set_option maxHeartbeats 4000000 in
set_option maxRecDepth 100000 in
theorem c_XAr_divide (l : Launch) (D : va_G) (a : Nat → Nat) (k : Nat → ClassId) (u0 : XS) (x1 : Int32) (x2 : Int32) : zMi l y_XAr_divide w_XAr_divide rm_XAr_divide D clX (tyX k) nwX (xW a k) [.ref (a 7), .int x1, .int x2] u0 (f_XAr_divide u0 x1 x2) := by
  generalize hF : f_XAr_divide u0 x1 x2 = F
  have hf := hF.symm
  unfold f_XAr_divide at hf
  refine zMi_of (cc := b_XAr_divide) (maxL := 7) (own := RX_Ar) (by decide) rfl rfl (Nat.le_of_ble_eq_true rfl) ?_
  intro p e R st m args below meth c A H locs Q ls hR hx hb hml hown hts hw hS hret hl
  subst hR
  have hcs : 0 ≤ (rm_XAr_divide).cells ∧ 0 ≤ (rm_XAr_divide).slots := ⟨Nat.zero_le _, Nat.zero_le _⟩
  have hl : lv_has ls 7 [(0, .ref (a 7)), (1, .int x1), (2, .int x2)] := hl
  refine lv_iload_n hx hb d_XAr_divide_0 rfl (lv_at hl 2 rfl) ?_
  refine lv_if_ne (tgt := 7) hx hb d_XAr_divide_1 (by decide) (fun c_1 => ?_) (fun c_1 => ?_)
  · have hf := hf.trans (if_neg c_1)
    refine lv_aload_n hx hb d_XAr_divide_7 rfl (lv_at hl 0 rfl) ?_
    refine va_get (v := .ref (a 1)) hx hb hts iX_Ar hown hw.2.1 hw.1 7 rfl rfl 0 (by decide) (hts _ kX_Ar_9) (fun _ h => h) rfl d_XAr_divide_8 ?_
    refine lv_iload_n hx hb d_XAr_divide_11 rfl (lv_at hl 1 rfl) ?_
    refine z_ri (z_runV (As := [.int x1]) (rest := []) ⟨hx, hb, hml, hown, hts⟩ (c_XSt_value l D a k u0 x1) (qX_Ar_31 hts (by decide)) hw 1 rfl rfl hl.1 rfl (lv_room (Nat.le_of_ble_eq_true rfl)) d_XAr_divide_12 hcs) (fun x_2 ex_2 => ?_)
    have hf := hf.trans (nm_eq ex_2)
    refine lv_i2l (v := Int32.toInt64 x_2) hx hb d_XAr_divide_15 rfl ?_
    refine lv_bipush (v := (32 : Int32)) hx hb d_XAr_divide_16 (by decide) ?_
    refine lv_lshl (v := (Int32.toInt64 x_2) <<< (Int32.toInt64 (32 : Int32) &&& 63)) hx hb d_XAr_divide_18 rfl ?_
    refine lv_aload_n hx hb d_XAr_divide_19 rfl (lv_at hl 0 rfl) ?_
    refine va_get (v := .ref (a 1)) hx hb hts iX_Ar hown hw.2.1 hw.1 7 rfl rfl 0 (by decide) (hts _ kX_Ar_9) (fun _ h => h) rfl d_XAr_divide_20 ?_
    refine lv_iload_n hx hb d_XAr_divide_23 rfl (lv_at hl 1 rfl) ?_
    refine lv_iconst (v := (1 : Int32)) hx hb d_XAr_divide_24 (by decide) ?_
    refine lv_iadd hx hb d_XAr_divide_25 ?_
    refine z_ri (z_runV (As := [.int (x1 + (1 : Int32))]) (rest := [.long ((Int32.toInt64 x_2) <<< (Int32.toInt64 (32 : Int32) &&& 63))]) ⟨hx, hb, hml, hown, hts⟩ (c_XSt_value l D a k u0 (x1 + (1 : Int32))) (qX_Ar_31 hts (by decide)) hw 1 rfl rfl hl.1 rfl (lv_room (Nat.le_of_ble_eq_true rfl)) d_XAr_divide_26 hcs) (fun x_3 ex_3 => ?_)
    have hf := hf.trans (nm_eq ex_3)
    refine lv_i2l (v := Int32.toInt64 x_3) hx hb d_XAr_divide_29 rfl ?_
    refine lv_ldc2 (v := (4294967295 : Int64)) hx hb hown (hts _ kX_Ar_64) d_XAr_divide_30 ?_
    refine lv_land hx hb d_XAr_divide_33 ?_
    refine lv_lor hx hb d_XAr_divide_34 ?_
    refine lv_topl (fun y_4 ey_4 => ?_)
    have hf := hf.trans (nm_eq ey_4)
    refine lv_lstore_n (lv' := [(3, .long y_4), (0, .ref (a 7)), (1, .int x1), (2, .int x2)]) hx hb d_XAr_divide_35 rfl hl (by decide) rfl (fun ls hl => ?_)
    refine lv_lload_n hx hb d_XAr_divide_36 rfl (lv_at hl 0 rfl) ?_
    refine lv_iload_n hx hb d_XAr_divide_37 rfl (lv_at hl 3 rfl) ?_
    refine lv_i2l (v := Int32.toInt64 x2) hx hb d_XAr_divide_38 rfl ?_
    refine lv_ldiv hx hb d_XAr_divide_39 (z_nz64 (by assumption)) ?_
    refine lv_topl (fun y_5 ey_5 => ?_)
    have hf := hf.trans (nm_eq ey_5)
    refine lv_lstore (lv' := [(5, .long y_5), (3, .long y_4), (0, .ref (a 7)), (1, .int x1), (2, .int x2)]) hx hb d_XAr_divide_40 hl (by decide) rfl (fun ls hl => ?_)
    refine lv_lload hx hb d_XAr_divide_42 (lv_at hl 0 rfl) ?_
    refine lv_lload hx hb d_XAr_divide_44 (lv_at hl 0 rfl) ?_
    refine lv_l2i (v := Int64.toInt32 y_5) hx hb d_XAr_divide_46 rfl ?_
    refine lv_i2l (v := Int32.toInt64 (Int64.toInt32 y_5)) hx hb d_XAr_divide_47 rfl ?_
    refine z_lcmp_eq (tgt := 55) hx hb d_XAr_divide_48 d_XAr_divide_49 (by decide) (fun c_6 => ?_) (fun c_6 => ?_)
    · have hf := hf.trans (if_pos c_6)
      refine lv_aload_n hx hb d_XAr_divide_55 rfl (lv_at hl 2 rfl) ?_
      refine va_get (v := .ref (a 1)) hx hb hts iX_Ar hown hw.2.1 hw.1 7 rfl rfl 0 (by decide) (hts _ kX_Ar_9) (fun _ h => h) rfl d_XAr_divide_56 ?_
      refine lv_iload_n hx hb d_XAr_divide_59 rfl (lv_at hl 3 rfl) ?_
      refine lv_lload_n hx hb d_XAr_divide_60 rfl (lv_at hl 1 rfl) ?_
      refine lv_iload_n hx hb d_XAr_divide_61 rfl (lv_at hl 4 rfl) ?_
      refine lv_i2l (v := Int32.toInt64 x2) hx hb d_XAr_divide_62 rfl ?_
      refine lv_lrem hx hb d_XAr_divide_63 (z_nz64 (by assumption)) ?_
      refine lv_l2i (v := Int64.toInt32 (y_4 - y_4 / (Int32.toInt64 x2) * (Int32.toInt64 x2))) hx hb d_XAr_divide_64 rfl ?_
      refine z_wv (z_runV (As := [.int x1, .int (Int64.toInt32 (y_4 - y_4 / (Int32.toInt64 x2) * (Int32.toInt64 x2)))]) (rest := []) ⟨hx, hb, hml, hown, hts⟩ (c_XSt_put l D a k u0 x1 (Int64.toInt32 (y_4 - y_4 / (Int32.toInt64 x2) * (Int32.toInt64 x2)))) (qX_Ar_60 hts (by decide)) hw 1 rfl rfl hl.1 rfl (lv_room (Nat.le_of_ble_eq_true rfl)) d_XAr_divide_65 hcs) hw hS (fun u_7 H locs eu_7 hw hS => ?_)
      have hf := hf.trans (nm_eq eu_7)
      refine lv_aload_n hx hb d_XAr_divide_68 rfl (lv_at hl 2 rfl) ?_
      refine va_get (v := .ref (a 1)) hx hb hts iX_Ar hown hw.2.1 hw.1 7 rfl rfl 0 (by decide) (hts _ kX_Ar_9) (fun _ h => h) rfl d_XAr_divide_69 ?_
      refine lv_iload_n hx hb d_XAr_divide_72 rfl (lv_at hl 3 rfl) ?_
      refine lv_iconst (v := (1 : Int32)) hx hb d_XAr_divide_73 (by decide) ?_
      refine lv_iadd hx hb d_XAr_divide_74 ?_
      refine lv_lload hx hb d_XAr_divide_75 (lv_at hl 0 rfl) ?_
      refine lv_l2i (v := Int64.toInt32 y_5) hx hb d_XAr_divide_77 rfl ?_
      refine z_wv (z_runV (As := [.int (x1 + (1 : Int32)), .int (Int64.toInt32 y_5)]) (rest := []) ⟨hx, hb, hml, hown, hts⟩ (c_XSt_put l D a k u_7 (x1 + (1 : Int32)) (Int64.toInt32 y_5)) (qX_Ar_60 hts (by decide)) hw 1 rfl rfl hl.1 rfl (lv_room (Nat.le_of_ble_eq_true rfl)) d_XAr_divide_78 hcs) hw hS (fun u_8 H locs eu_8 hw hS => ?_)
      have hf := hf.trans (nm_eq eu_8)
      refine lv_iconst (v := (0 : Int32)) hx hb d_XAr_divide_81 (by decide) ?_
      exact hret (0 : Int32) _ _ _ _ _ d_XAr_divide_82 hw hS hf
    · have hf := hf.trans (if_neg c_6)
      refine lv_bipush (v := (9 : Int32)) hx hb d_XAr_divide_52 (by decide) ?_
      exact hret (9 : Int32) _ _ _ _ _ d_XAr_divide_54 hw hS hf
  · have hf := hf.trans (if_pos c_1)
    refine lv_bipush (v := (9 : Int32)) hx hb d_XAr_divide_4 (by decide) ?_
    exact hret (9 : Int32) _ _ _ _ _ d_XAr_divide_6 hw hS hf
def f_XAr_putUnsigned (u0 : XS) (x1 : Int32) (y2 : Int64) : Int32 × XS := nm (Int64.toInt32 y2) (fun (x_1 : Int32) => nm (f_XSt_put u0 x1 x_1) (fun (u_2 : XS) => jn (fun (K_4 : Int32 → Int32 × XS) => if y2 ≤ (4294967295 : Int64) then K_4 (0 : Int32) else K_4 (2 : Int32)) (fun (x_3 : Int32) => if x_1 = (0 : Int32) then nm (xsF u_2 1 (x_3 + (0 : Int32))) (fun (u_6 : XS) => ((0 : Int32), u_6)) else nm (xsF u_2 1 (x_3 + (1 : Int32))) (fun (u_7 : XS) => ((0 : Int32), u_7)))))
set_option maxHeartbeats 4000000 in
set_option maxRecDepth 100000 in
theorem c_XAr_putUnsigned (l : Launch) (D : va_G) (a : Nat → Nat) (k : Nat → ClassId) (u0 : XS) (x1 : Int32) (y2 : Int64) : zMi l y_XAr_putUnsigned w_XAr_putUnsigned rm_XAr_putUnsigned D clX (tyX k) nwX (xW a k) [.ref (a 7), .int x1, .long y2] u0 (f_XAr_putUnsigned u0 x1 y2) := by
  generalize hF : f_XAr_putUnsigned u0 x1 y2 = F
  have hf := hF.symm
  unfold f_XAr_putUnsigned at hf
  refine zMi_of (cc := b_XAr_putUnsigned) (maxL := 5) (own := RX_Ar) (by decide) rfl rfl (Nat.le_of_ble_eq_true rfl) ?_
  intro p e R st m args below meth c A H locs Q ls hR hx hb hml hown hts hw hS hret hl
  subst hR
  have hcs : 0 ≤ (rm_XAr_putUnsigned).cells ∧ 0 ≤ (rm_XAr_putUnsigned).slots := ⟨Nat.zero_le _, Nat.zero_le _⟩
  have hl : lv_has ls 5 [(0, .ref (a 7)), (1, .int x1), (2, .long y2)] := hl
  refine lv_lload_n hx hb d_XAr_putUnsigned_0 rfl (lv_at hl 2 rfl) ?_
  refine lv_l2i (v := Int64.toInt32 y2) hx hb d_XAr_putUnsigned_1 rfl ?_
  refine lv_topi (fun x_1 ex_1 => ?_)
  have hf := hf.trans (nm_eq ex_1)
  refine lv_istore (lv' := [(4, .int x_1), (0, .ref (a 7)), (1, .int x1), (2, .long y2)]) hx hb d_XAr_putUnsigned_2 hl (by decide) rfl (fun ls hl => ?_)
  refine lv_aload_n hx hb d_XAr_putUnsigned_4 rfl (lv_at hl 1 rfl) ?_
  refine va_get (v := .ref (a 1)) hx hb hts iX_Ar hown hw.2.1 hw.1 7 rfl rfl 0 (by decide) (hts _ kX_Ar_9) (fun _ h => h) rfl d_XAr_putUnsigned_5 ?_
  refine lv_iload_n hx hb d_XAr_putUnsigned_8 rfl (lv_at hl 2 rfl) ?_
  refine lv_iload hx hb d_XAr_putUnsigned_9 (lv_at hl 0 rfl) ?_
  refine z_wv (z_runV (As := [.int x1, .int x_1]) (rest := []) ⟨hx, hb, hml, hown, hts⟩ (c_XSt_put l D a k u0 x1 x_1) (qX_Ar_60 hts (by decide)) hw 1 rfl rfl hl.1 rfl (lv_room (Nat.le_of_ble_eq_true rfl)) d_XAr_putUnsigned_11 hcs) hw hS (fun u_2 H locs eu_2 hw hS => ?_)
  have hf := hf.trans (nm_eq eu_2)
  refine lv_aload_n hx hb d_XAr_putUnsigned_14 rfl (lv_at hl 1 rfl) ?_
  refine va_get (v := .ref (a 1)) hx hb hts iX_Ar hown hw.2.1 hw.1 7 rfl rfl 0 (by decide) (hts _ kX_Ar_9) (fun _ h => h) rfl d_XAr_putUnsigned_15 ?_
  refine lv_lload_n hx hb d_XAr_putUnsigned_18 rfl (lv_at hl 3 rfl) ?_
  refine lv_ldc2 (v := (4294967295 : Int64)) hx hb hown (hts _ kX_Ar_64) d_XAr_putUnsigned_19 ?_
  refine jn_cut hf (fun (K_4 : Int32 → Int32 × XS) => ∀ (x_3 : Int32), ∀ (ls : Array Slot), lv_has ls 5 [(4, .int x_1)] → F = K_4 x_3 → W p l e rm_XAr_putUnsigned st m args below meth c H locs 0 0 Q (F0 m 31 ls [.int x_3, .ref (a 1)])) ?_ ?_
  · intro x_3 ls hl hf
    refine lv_iload hx hb d_XAr_putUnsigned_31 (lv_at hl 0 rfl) ?_
    refine lv_if_eq (tgt := 40) hx hb d_XAr_putUnsigned_33 (by decide) (fun c_5 => ?_) (fun c_5 => ?_)
    · have hf := hf.trans (if_pos c_5)
      refine lv_iconst (v := (0 : Int32)) hx hb d_XAr_putUnsigned_40 (by decide) ?_
      refine lv_iadd hx hb d_XAr_putUnsigned_41 ?_
      refine z_putN (u' := xsF u_2 1 (x_3 + (0 : Int32))) hx hb hts iX_St tX_St tX_St_ok nX_St hown hw hS 1 rfl rfl 3 (by decide) (va_Nw.use rfl (hw.2.2.2 _ kX_Ar_110).2) (fun _ h => h) rfl rfl (Nat.le_of_ble_eq_true rfl) rfl d_XAr_putUnsigned_42 (fun u_6 H locs eu_6 hw hS => ?_)
      have hf := hf.trans (nm_eq eu_6)
      refine lv_iconst (v := (0 : Int32)) hx hb d_XAr_putUnsigned_45 (by decide) ?_
      exact hret (0 : Int32) _ _ _ _ _ d_XAr_putUnsigned_46 hw hS hf
    · have hf := hf.trans (if_neg c_5)
      refine lv_iconst (v := (1 : Int32)) hx hb d_XAr_putUnsigned_36 (by decide) ?_
      refine lv_goto (tgt := 41) hx hb d_XAr_putUnsigned_37 (by decide) ?_
      refine lv_iadd hx hb d_XAr_putUnsigned_41 ?_
      refine z_putN (u' := xsF u_2 1 (x_3 + (1 : Int32))) hx hb hts iX_St tX_St tX_St_ok nX_St hown hw hS 1 rfl rfl 3 (by decide) (va_Nw.use rfl (hw.2.2.2 _ kX_Ar_110).2) (fun _ h => h) rfl rfl (Nat.le_of_ble_eq_true rfl) rfl d_XAr_putUnsigned_42 (fun u_7 H locs eu_7 hw hS => ?_)
      have hf := hf.trans (nm_eq eu_7)
      refine lv_iconst (v := (0 : Int32)) hx hb d_XAr_putUnsigned_45 (by decide) ?_
      exact hret (0 : Int32) _ _ _ _ _ d_XAr_putUnsigned_46 hw hS hf
  · intro K_4 hK_4 hf
    refine z_lcmp_le (tgt := 30) hx hb d_XAr_putUnsigned_22 d_XAr_putUnsigned_23 (by decide) (fun c_8 => ?_) (fun c_8 => ?_)
    · have hf := hf.trans (if_pos c_8)
      refine lv_iconst (v := (0 : Int32)) hx hb d_XAr_putUnsigned_30 (by decide) ?_
      exact hK_4 (0 : Int32) _ (lv_sub hl [0] rfl) hf
    · have hf := hf.trans (if_neg c_8)
      refine lv_iconst (v := (2 : Int32)) hx hb d_XAr_putUnsigned_26 (by decide) ?_
      refine lv_goto (tgt := 31) hx hb d_XAr_putUnsigned_27 (by decide) ?_
      exact hK_4 (2 : Int32) _ (lv_sub hl [0] rfl) hf
def f_XAr_apply (u0 : XS) (x1 : Int32) (x2 : Int32) (x3 : Int32) : Int32 × XS := nm (f_XSt_value u0 x2) (fun (x_1 : Int32) => if x1 = (16 : Int32) then pr (f_XAr_putSigned u0 x2 (if 0 < (Int32.toInt64 x3) then (Int32.toInt64 x3) else -(Int32.toInt64 x3))) (fun (x_4 : Int32) (u_3 : XS) => (x_4, u_3)) else if x1 = (17 : Int32) then pr (f_XAr_putSigned u0 x2 (-(if 0 < (Int32.toInt64 x3) then (Int32.toInt64 x3) else -(Int32.toInt64 x3)))) (fun (x_7 : Int32) (u_6 : XS) => (x_7, u_6)) else if x1 = (18 : Int32) then pr (f_XAr_putSigned u0 x2 (Int32.toInt64 x3)) (fun (x_10 : Int32) (u_9 : XS) => (x_10, u_9)) else if x1 = (19 : Int32) then pr (f_XAr_putSigned u0 x2 (-(Int32.toInt64 x3))) (fun (x_13 : Int32) (u_12 : XS) => (x_13, u_12)) else if x1 = (20 : Int32) then pr (f_XAr_putBits u0 x2 (x_1 &&& x3)) (fun (x_16 : Int32) (u_15 : XS) => (x_16, u_15)) else if x1 = (21 : Int32) then pr (f_XAr_compare u0 ((Int32.toInt64 x_1) &&& (4294967295 : Int64)) ((Int32.toInt64 x3) &&& (4294967295 : Int64))) (fun (x_19 : Int32) (u_18 : XS) => (x_19, u_18)) else if x1 = (22 : Int32) then pr (f_XAr_putBits u0 x2 (x_1 ||| x3)) (fun (x_22 : Int32) (u_21 : XS) => (x_22, u_21)) else if x1 = (23 : Int32) then pr (f_XAr_putBits u0 x2 (x_1 ^^^ x3)) (fun (x_25 : Int32) (u_24 : XS) => (x_25, u_24)) else if x1 = (24 : Int32) then pr (f_XAr_load u0 x2 x3) (fun (x_28 : Int32) (u_27 : XS) => (x_28, u_27)) else if x1 = (25 : Int32) then pr (f_XAr_compare u0 (Int32.toInt64 x_1) (Int32.toInt64 x3)) (fun (x_31 : Int32) (u_30 : XS) => (x_31, u_30)) else if x1 = (26 : Int32) then pr (f_XAr_putSigned u0 x2 ((Int32.toInt64 x_1) + (Int32.toInt64 x3))) (fun (x_34 : Int32) (u_33 : XS) => (x_34, u_33)) else if x1 = (27 : Int32) then pr (f_XAr_putSigned u0 x2 ((Int32.toInt64 x_1) - (Int32.toInt64 x3))) (fun (x_37 : Int32) (u_36 : XS) => (x_37, u_36)) else if x1 = (28 : Int32) then pr (f_XAr_multiply u0 x2 x3) (fun (x_40 : Int32) (u_39 : XS) => (x_40, u_39)) else if x1 = (29 : Int32) then pr (f_XAr_divide u0 x2 x3) (fun (x_43 : Int32) (u_42 : XS) => (x_43, u_42)) else if x1 = (30 : Int32) then pr (f_XAr_putUnsigned u0 x2 (((Int32.toInt64 x_1) &&& (4294967295 : Int64)) + ((Int32.toInt64 x3) &&& (4294967295 : Int64)))) (fun (x_46 : Int32) (u_45 : XS) => (x_46, u_45)) else if x1 = (31 : Int32) then pr (f_XAr_putUnsigned u0 x2 ((((Int32.toInt64 x_1) &&& (4294967295 : Int64)) + ((Int32.toInt64 (x3 ^^^ (-1 : Int32))) &&& (4294967295 : Int64))) + (1 : Int64))) (fun (x_49 : Int32) (u_48 : XS) => (x_49, u_48)) else ((1 : Int32), u0))
set_option maxHeartbeats 4000000 in
set_option maxRecDepth 100000 in
theorem c_XAr_apply (l : Launch) (D : va_G) (a : Nat → Nat) (k : Nat → ClassId) (u0 : XS) (x1 : Int32) (x2 : Int32) (x3 : Int32) : zMi l y_XAr_apply w_XAr_apply rm_XAr_apply D clX (tyX k) nwX (xW a k) [.ref (a 7), .int x1, .int x2, .int x3] u0 (f_XAr_apply u0 x1 x2 x3) := by
  generalize hF : f_XAr_apply u0 x1 x2 x3 = F
  have hf := hF.symm
  unfold f_XAr_apply at hf
  refine zMi_of (cc := b_XAr_apply) (maxL := 5) (own := RX_Ar) (by decide) rfl rfl (Nat.le_of_ble_eq_true rfl) ?_
  intro p e R st m args below meth c A H locs Q ls hR hx hb hml hown hts hw hS hret hl
  subst hR
  have hcs : 0 ≤ (rm_XAr_apply).cells ∧ 0 ≤ (rm_XAr_apply).slots := ⟨Nat.zero_le _, Nat.zero_le _⟩
  have hl : lv_has ls 5 [(0, .ref (a 7)), (1, .int x1), (2, .int x2), (3, .int x3)] := hl
  refine lv_aload_n hx hb d_XAr_apply_0 rfl (lv_at hl 0 rfl) ?_
  refine va_get (v := .ref (a 1)) hx hb hts iX_Ar hown hw.2.1 hw.1 7 rfl rfl 0 (by decide) (hts _ kX_Ar_9) (fun _ h => h) rfl d_XAr_apply_1 ?_
  refine lv_iload_n hx hb d_XAr_apply_4 rfl (lv_at hl 2 rfl) ?_
  refine z_ri (z_runV (As := [.int x2]) (rest := []) ⟨hx, hb, hml, hown, hts⟩ (c_XSt_value l D a k u0 x2) (qX_Ar_31 hts (by decide)) hw 1 rfl rfl hl.1 rfl (lv_room (Nat.le_of_ble_eq_true rfl)) d_XAr_apply_5 hcs) (fun x_1 ex_1 => ?_)
  have hf := hf.trans (nm_eq ex_1)
  refine lv_istore (lv' := [(4, .int x_1), (0, .ref (a 7)), (1, .int x1), (2, .int x2), (3, .int x3)]) hx hb d_XAr_apply_8 hl (by decide) rfl (fun ls hl => ?_)
  refine lv_iload_n hx hb d_XAr_apply_10 rfl (lv_at hl 2 rfl) ?_
  by_cases c_2 : x1 = (16 : Int32)
  · have hf := hf.trans (if_pos c_2)
    refine lv_tableIn (off := 77) (tgt := 88) hx hb d_XAr_apply_11 (by rw [c_2]; decide +kernel) (by rw [c_2]; decide +kernel) (by rw [c_2]; decide +kernel) (by decide) ?_
    refine lv_aload_n hx hb d_XAr_apply_88 rfl (lv_at hl 1 rfl) ?_
    refine lv_iload_n hx hb d_XAr_apply_89 rfl (lv_at hl 3 rfl) ?_
    refine lv_iload_n hx hb d_XAr_apply_90 rfl (lv_at hl 4 rfl) ?_
    refine lv_i2l (v := Int32.toInt64 x3) hx hb d_XAr_apply_91 rfl ?_
    refine va_mabs_long hx hb (hml.trans hl.1.symm) hown (hts _ kX_Ar_76) (hts _ kX_abs_static) (hts _ kX_abs_ini) (hts _ kX_abs_code) (by decide) (Nat.le_of_ble_eq_true rfl) hcs.1 hcs.2 d_XAr_apply_92 ?_
    refine z_wi (z_runV (As := [.int x2, .long (if 0 < (Int32.toInt64 x3) then (Int32.toInt64 x3) else -(Int32.toInt64 x3))]) (rest := []) ⟨hx, hb, hml, hown, hts⟩ (c_XAr_putSigned l D a k u0 x2 (if 0 < (Int32.toInt64 x3) then (Int32.toInt64 x3) else -(Int32.toInt64 x3))) (qX_Ar_69 hts (by decide)) hw 7 rfl rfl hl.1 rfl (lv_room (Nat.le_of_ble_eq_true rfl)) d_XAr_apply_95 hcs) hw hS (fun x_4 u_3 H locs ex_4 hw hS => ?_)
    have hf := hf.trans (pr_eq ex_4)
    exact hret x_4 _ _ _ _ _ d_XAr_apply_98 hw hS hf
  have hf := hf.trans (if_neg c_2)
  by_cases c_5 : x1 = (17 : Int32)
  · have hf := hf.trans (if_pos c_5)
    refine lv_tableIn (off := 88) (tgt := 99) hx hb d_XAr_apply_11 (by rw [c_5]; decide +kernel) (by rw [c_5]; decide +kernel) (by rw [c_5]; decide +kernel) (by decide) ?_
    refine lv_aload_n hx hb d_XAr_apply_99 rfl (lv_at hl 1 rfl) ?_
    refine lv_iload_n hx hb d_XAr_apply_100 rfl (lv_at hl 3 rfl) ?_
    refine lv_iload_n hx hb d_XAr_apply_101 rfl (lv_at hl 4 rfl) ?_
    refine lv_i2l (v := Int32.toInt64 x3) hx hb d_XAr_apply_102 rfl ?_
    refine va_mabs_long hx hb (hml.trans hl.1.symm) hown (hts _ kX_Ar_76) (hts _ kX_abs_static) (hts _ kX_abs_ini) (hts _ kX_abs_code) (by decide) (Nat.le_of_ble_eq_true rfl) hcs.1 hcs.2 d_XAr_apply_103 ?_
    refine lv_lneg hx hb d_XAr_apply_106 ?_
    refine z_wi (z_runV (As := [.int x2, .long (-(if 0 < (Int32.toInt64 x3) then (Int32.toInt64 x3) else -(Int32.toInt64 x3)))]) (rest := []) ⟨hx, hb, hml, hown, hts⟩ (c_XAr_putSigned l D a k u0 x2 (-(if 0 < (Int32.toInt64 x3) then (Int32.toInt64 x3) else -(Int32.toInt64 x3)))) (qX_Ar_69 hts (by decide)) hw 7 rfl rfl hl.1 rfl (lv_room (Nat.le_of_ble_eq_true rfl)) d_XAr_apply_107 hcs) hw hS (fun x_7 u_6 H locs ex_7 hw hS => ?_)
    have hf := hf.trans (pr_eq ex_7)
    exact hret x_7 _ _ _ _ _ d_XAr_apply_110 hw hS hf
  have hf := hf.trans (if_neg c_5)
  by_cases c_8 : x1 = (18 : Int32)
  · have hf := hf.trans (if_pos c_8)
    refine lv_tableIn (off := 100) (tgt := 111) hx hb d_XAr_apply_11 (by rw [c_8]; decide +kernel) (by rw [c_8]; decide +kernel) (by rw [c_8]; decide +kernel) (by decide) ?_
    refine lv_aload_n hx hb d_XAr_apply_111 rfl (lv_at hl 1 rfl) ?_
    refine lv_iload_n hx hb d_XAr_apply_112 rfl (lv_at hl 3 rfl) ?_
    refine lv_iload_n hx hb d_XAr_apply_113 rfl (lv_at hl 4 rfl) ?_
    refine lv_i2l (v := Int32.toInt64 x3) hx hb d_XAr_apply_114 rfl ?_
    refine z_wi (z_runV (As := [.int x2, .long (Int32.toInt64 x3)]) (rest := []) ⟨hx, hb, hml, hown, hts⟩ (c_XAr_putSigned l D a k u0 x2 (Int32.toInt64 x3)) (qX_Ar_69 hts (by decide)) hw 7 rfl rfl hl.1 rfl (lv_room (Nat.le_of_ble_eq_true rfl)) d_XAr_apply_115 hcs) hw hS (fun x_10 u_9 H locs ex_10 hw hS => ?_)
    have hf := hf.trans (pr_eq ex_10)
    exact hret x_10 _ _ _ _ _ d_XAr_apply_118 hw hS hf
  have hf := hf.trans (if_neg c_8)
  by_cases c_11 : x1 = (19 : Int32)
  · have hf := hf.trans (if_pos c_11)
    refine lv_tableIn (off := 108) (tgt := 119) hx hb d_XAr_apply_11 (by rw [c_11]; decide +kernel) (by rw [c_11]; decide +kernel) (by rw [c_11]; decide +kernel) (by decide) ?_
    refine lv_aload_n hx hb d_XAr_apply_119 rfl (lv_at hl 1 rfl) ?_
    refine lv_iload_n hx hb d_XAr_apply_120 rfl (lv_at hl 3 rfl) ?_
    refine lv_iload_n hx hb d_XAr_apply_121 rfl (lv_at hl 4 rfl) ?_
    refine lv_i2l (v := Int32.toInt64 x3) hx hb d_XAr_apply_122 rfl ?_
    refine lv_lneg hx hb d_XAr_apply_123 ?_
    refine z_wi (z_runV (As := [.int x2, .long (-(Int32.toInt64 x3))]) (rest := []) ⟨hx, hb, hml, hown, hts⟩ (c_XAr_putSigned l D a k u0 x2 (-(Int32.toInt64 x3))) (qX_Ar_69 hts (by decide)) hw 7 rfl rfl hl.1 rfl (lv_room (Nat.le_of_ble_eq_true rfl)) d_XAr_apply_124 hcs) hw hS (fun x_13 u_12 H locs ex_13 hw hS => ?_)
    have hf := hf.trans (pr_eq ex_13)
    exact hret x_13 _ _ _ _ _ d_XAr_apply_127 hw hS hf
  have hf := hf.trans (if_neg c_11)
  by_cases c_14 : x1 = (20 : Int32)
  · have hf := hf.trans (if_pos c_14)
    refine lv_tableIn (off := 117) (tgt := 128) hx hb d_XAr_apply_11 (by rw [c_14]; decide +kernel) (by rw [c_14]; decide +kernel) (by rw [c_14]; decide +kernel) (by decide) ?_
    refine lv_aload_n hx hb d_XAr_apply_128 rfl (lv_at hl 1 rfl) ?_
    refine lv_iload_n hx hb d_XAr_apply_129 rfl (lv_at hl 3 rfl) ?_
    refine lv_iload hx hb d_XAr_apply_130 (lv_at hl 0 rfl) ?_
    refine lv_iload_n hx hb d_XAr_apply_132 rfl (lv_at hl 4 rfl) ?_
    refine lv_iand hx hb d_XAr_apply_133 ?_
    refine z_wi (z_runV (As := [.int x2, .int (x_1 &&& x3)]) (rest := []) ⟨hx, hb, hml, hown, hts⟩ (c_XAr_putBits l D a k u0 x2 (x_1 &&& x3)) (qX_Ar_82 hts (by decide)) hw 7 rfl rfl hl.1 rfl (lv_room (Nat.le_of_ble_eq_true rfl)) d_XAr_apply_134 hcs) hw hS (fun x_16 u_15 H locs ex_16 hw hS => ?_)
    have hf := hf.trans (pr_eq ex_16)
    exact hret x_16 _ _ _ _ _ d_XAr_apply_137 hw hS hf
  have hf := hf.trans (if_neg c_14)
  by_cases c_17 : x1 = (21 : Int32)
  · have hf := hf.trans (if_pos c_17)
    refine lv_tableIn (off := 127) (tgt := 138) hx hb d_XAr_apply_11 (by rw [c_17]; decide +kernel) (by rw [c_17]; decide +kernel) (by rw [c_17]; decide +kernel) (by decide) ?_
    refine lv_aload_n hx hb d_XAr_apply_138 rfl (lv_at hl 1 rfl) ?_
    refine lv_iload hx hb d_XAr_apply_139 (lv_at hl 0 rfl) ?_
    refine lv_i2l (v := Int32.toInt64 x_1) hx hb d_XAr_apply_141 rfl ?_
    refine lv_ldc2 (v := (4294967295 : Int64)) hx hb hown (hts _ kX_Ar_64) d_XAr_apply_142 ?_
    refine lv_land hx hb d_XAr_apply_145 ?_
    refine lv_iload_n hx hb d_XAr_apply_146 rfl (lv_at hl 4 rfl) ?_
    refine lv_i2l (v := Int32.toInt64 x3) hx hb d_XAr_apply_147 rfl ?_
    refine lv_ldc2 (v := (4294967295 : Int64)) hx hb hown (hts _ kX_Ar_64) d_XAr_apply_148 ?_
    refine lv_land hx hb d_XAr_apply_151 ?_
    refine z_wi (z_runV (As := [.long ((Int32.toInt64 x_1) &&& (4294967295 : Int64)), .long ((Int32.toInt64 x3) &&& (4294967295 : Int64))]) (rest := []) ⟨hx, hb, hml, hown, hts⟩ (c_XAr_compare l D a k u0 ((Int32.toInt64 x_1) &&& (4294967295 : Int64)) ((Int32.toInt64 x3) &&& (4294967295 : Int64))) (qX_Ar_85 hts (by decide)) hw 7 rfl rfl hl.1 rfl (lv_room (Nat.le_of_ble_eq_true rfl)) d_XAr_apply_152 hcs) hw hS (fun x_19 u_18 H locs ex_19 hw hS => ?_)
    have hf := hf.trans (pr_eq ex_19)
    exact hret x_19 _ _ _ _ _ d_XAr_apply_155 hw hS hf
  have hf := hf.trans (if_neg c_17)
  by_cases c_20 : x1 = (22 : Int32)
  · have hf := hf.trans (if_pos c_20)
    refine lv_tableIn (off := 145) (tgt := 156) hx hb d_XAr_apply_11 (by rw [c_20]; decide +kernel) (by rw [c_20]; decide +kernel) (by rw [c_20]; decide +kernel) (by decide) ?_
    refine lv_aload_n hx hb d_XAr_apply_156 rfl (lv_at hl 1 rfl) ?_
    refine lv_iload_n hx hb d_XAr_apply_157 rfl (lv_at hl 3 rfl) ?_
    refine lv_iload hx hb d_XAr_apply_158 (lv_at hl 0 rfl) ?_
    refine lv_iload_n hx hb d_XAr_apply_160 rfl (lv_at hl 4 rfl) ?_
    refine lv_ior hx hb d_XAr_apply_161 ?_
    refine z_wi (z_runV (As := [.int x2, .int (x_1 ||| x3)]) (rest := []) ⟨hx, hb, hml, hown, hts⟩ (c_XAr_putBits l D a k u0 x2 (x_1 ||| x3)) (qX_Ar_82 hts (by decide)) hw 7 rfl rfl hl.1 rfl (lv_room (Nat.le_of_ble_eq_true rfl)) d_XAr_apply_162 hcs) hw hS (fun x_22 u_21 H locs ex_22 hw hS => ?_)
    have hf := hf.trans (pr_eq ex_22)
    exact hret x_22 _ _ _ _ _ d_XAr_apply_165 hw hS hf
  have hf := hf.trans (if_neg c_20)
  by_cases c_23 : x1 = (23 : Int32)
  · have hf := hf.trans (if_pos c_23)
    refine lv_tableIn (off := 155) (tgt := 166) hx hb d_XAr_apply_11 (by rw [c_23]; decide +kernel) (by rw [c_23]; decide +kernel) (by rw [c_23]; decide +kernel) (by decide) ?_
    refine lv_aload_n hx hb d_XAr_apply_166 rfl (lv_at hl 1 rfl) ?_
    refine lv_iload_n hx hb d_XAr_apply_167 rfl (lv_at hl 3 rfl) ?_
    refine lv_iload hx hb d_XAr_apply_168 (lv_at hl 0 rfl) ?_
    refine lv_iload_n hx hb d_XAr_apply_170 rfl (lv_at hl 4 rfl) ?_
    refine lv_ixor hx hb d_XAr_apply_171 ?_
    refine z_wi (z_runV (As := [.int x2, .int (x_1 ^^^ x3)]) (rest := []) ⟨hx, hb, hml, hown, hts⟩ (c_XAr_putBits l D a k u0 x2 (x_1 ^^^ x3)) (qX_Ar_82 hts (by decide)) hw 7 rfl rfl hl.1 rfl (lv_room (Nat.le_of_ble_eq_true rfl)) d_XAr_apply_172 hcs) hw hS (fun x_25 u_24 H locs ex_25 hw hS => ?_)
    have hf := hf.trans (pr_eq ex_25)
    exact hret x_25 _ _ _ _ _ d_XAr_apply_175 hw hS hf
  have hf := hf.trans (if_neg c_23)
  by_cases c_26 : x1 = (24 : Int32)
  · have hf := hf.trans (if_pos c_26)
    refine lv_tableIn (off := 165) (tgt := 176) hx hb d_XAr_apply_11 (by rw [c_26]; decide +kernel) (by rw [c_26]; decide +kernel) (by rw [c_26]; decide +kernel) (by decide) ?_
    refine lv_aload_n hx hb d_XAr_apply_176 rfl (lv_at hl 1 rfl) ?_
    refine lv_iload_n hx hb d_XAr_apply_177 rfl (lv_at hl 3 rfl) ?_
    refine lv_iload_n hx hb d_XAr_apply_178 rfl (lv_at hl 4 rfl) ?_
    refine z_wi (z_runV (As := [.int x2, .int x3]) (rest := []) ⟨hx, hb, hml, hown, hts⟩ (c_XAr_load l D a k u0 x2 x3) (qX_Ar_66 hts (by decide)) hw 7 rfl rfl hl.1 rfl (lv_room (Nat.le_of_ble_eq_true rfl)) d_XAr_apply_179 hcs) hw hS (fun x_28 u_27 H locs ex_28 hw hS => ?_)
    have hf := hf.trans (pr_eq ex_28)
    exact hret x_28 _ _ _ _ _ d_XAr_apply_182 hw hS hf
  have hf := hf.trans (if_neg c_26)
  by_cases c_29 : x1 = (25 : Int32)
  · have hf := hf.trans (if_pos c_29)
    refine lv_tableIn (off := 172) (tgt := 183) hx hb d_XAr_apply_11 (by rw [c_29]; decide +kernel) (by rw [c_29]; decide +kernel) (by rw [c_29]; decide +kernel) (by decide) ?_
    refine lv_aload_n hx hb d_XAr_apply_183 rfl (lv_at hl 1 rfl) ?_
    refine lv_iload hx hb d_XAr_apply_184 (lv_at hl 0 rfl) ?_
    refine lv_i2l (v := Int32.toInt64 x_1) hx hb d_XAr_apply_186 rfl ?_
    refine lv_iload_n hx hb d_XAr_apply_187 rfl (lv_at hl 4 rfl) ?_
    refine lv_i2l (v := Int32.toInt64 x3) hx hb d_XAr_apply_188 rfl ?_
    refine z_wi (z_runV (As := [.long (Int32.toInt64 x_1), .long (Int32.toInt64 x3)]) (rest := []) ⟨hx, hb, hml, hown, hts⟩ (c_XAr_compare l D a k u0 (Int32.toInt64 x_1) (Int32.toInt64 x3)) (qX_Ar_85 hts (by decide)) hw 7 rfl rfl hl.1 rfl (lv_room (Nat.le_of_ble_eq_true rfl)) d_XAr_apply_189 hcs) hw hS (fun x_31 u_30 H locs ex_31 hw hS => ?_)
    have hf := hf.trans (pr_eq ex_31)
    exact hret x_31 _ _ _ _ _ d_XAr_apply_192 hw hS hf
  have hf := hf.trans (if_neg c_29)
  by_cases c_32 : x1 = (26 : Int32)
  · have hf := hf.trans (if_pos c_32)
    refine lv_tableIn (off := 182) (tgt := 193) hx hb d_XAr_apply_11 (by rw [c_32]; decide +kernel) (by rw [c_32]; decide +kernel) (by rw [c_32]; decide +kernel) (by decide) ?_
    refine lv_aload_n hx hb d_XAr_apply_193 rfl (lv_at hl 1 rfl) ?_
    refine lv_iload_n hx hb d_XAr_apply_194 rfl (lv_at hl 3 rfl) ?_
    refine lv_iload hx hb d_XAr_apply_195 (lv_at hl 0 rfl) ?_
    refine lv_i2l (v := Int32.toInt64 x_1) hx hb d_XAr_apply_197 rfl ?_
    refine lv_iload_n hx hb d_XAr_apply_198 rfl (lv_at hl 4 rfl) ?_
    refine lv_i2l (v := Int32.toInt64 x3) hx hb d_XAr_apply_199 rfl ?_
    refine lv_ladd hx hb d_XAr_apply_200 ?_
    refine z_wi (z_runV (As := [.int x2, .long ((Int32.toInt64 x_1) + (Int32.toInt64 x3))]) (rest := []) ⟨hx, hb, hml, hown, hts⟩ (c_XAr_putSigned l D a k u0 x2 ((Int32.toInt64 x_1) + (Int32.toInt64 x3))) (qX_Ar_69 hts (by decide)) hw 7 rfl rfl hl.1 rfl (lv_room (Nat.le_of_ble_eq_true rfl)) d_XAr_apply_201 hcs) hw hS (fun x_34 u_33 H locs ex_34 hw hS => ?_)
    have hf := hf.trans (pr_eq ex_34)
    exact hret x_34 _ _ _ _ _ d_XAr_apply_204 hw hS hf
  have hf := hf.trans (if_neg c_32)
  by_cases c_35 : x1 = (27 : Int32)
  · have hf := hf.trans (if_pos c_35)
    refine lv_tableIn (off := 194) (tgt := 205) hx hb d_XAr_apply_11 (by rw [c_35]; decide +kernel) (by rw [c_35]; decide +kernel) (by rw [c_35]; decide +kernel) (by decide) ?_
    refine lv_aload_n hx hb d_XAr_apply_205 rfl (lv_at hl 1 rfl) ?_
    refine lv_iload_n hx hb d_XAr_apply_206 rfl (lv_at hl 3 rfl) ?_
    refine lv_iload hx hb d_XAr_apply_207 (lv_at hl 0 rfl) ?_
    refine lv_i2l (v := Int32.toInt64 x_1) hx hb d_XAr_apply_209 rfl ?_
    refine lv_iload_n hx hb d_XAr_apply_210 rfl (lv_at hl 4 rfl) ?_
    refine lv_i2l (v := Int32.toInt64 x3) hx hb d_XAr_apply_211 rfl ?_
    refine lv_lsub hx hb d_XAr_apply_212 ?_
    refine z_wi (z_runV (As := [.int x2, .long ((Int32.toInt64 x_1) - (Int32.toInt64 x3))]) (rest := []) ⟨hx, hb, hml, hown, hts⟩ (c_XAr_putSigned l D a k u0 x2 ((Int32.toInt64 x_1) - (Int32.toInt64 x3))) (qX_Ar_69 hts (by decide)) hw 7 rfl rfl hl.1 rfl (lv_room (Nat.le_of_ble_eq_true rfl)) d_XAr_apply_213 hcs) hw hS (fun x_37 u_36 H locs ex_37 hw hS => ?_)
    have hf := hf.trans (pr_eq ex_37)
    exact hret x_37 _ _ _ _ _ d_XAr_apply_216 hw hS hf
  have hf := hf.trans (if_neg c_35)
  by_cases c_38 : x1 = (28 : Int32)
  · have hf := hf.trans (if_pos c_38)
    refine lv_tableIn (off := 206) (tgt := 217) hx hb d_XAr_apply_11 (by rw [c_38]; decide +kernel) (by rw [c_38]; decide +kernel) (by rw [c_38]; decide +kernel) (by decide) ?_
    refine lv_aload_n hx hb d_XAr_apply_217 rfl (lv_at hl 1 rfl) ?_
    refine lv_iload_n hx hb d_XAr_apply_218 rfl (lv_at hl 3 rfl) ?_
    refine lv_iload_n hx hb d_XAr_apply_219 rfl (lv_at hl 4 rfl) ?_
    refine z_wi (z_runV (As := [.int x2, .int x3]) (rest := []) ⟨hx, hb, hml, hown, hts⟩ (c_XAr_multiply l D a k u0 x2 x3) (qX_Ar_89 hts (by decide)) hw 7 rfl rfl hl.1 rfl (lv_room (Nat.le_of_ble_eq_true rfl)) d_XAr_apply_220 hcs) hw hS (fun x_40 u_39 H locs ex_40 hw hS => ?_)
    have hf := hf.trans (pr_eq ex_40)
    exact hret x_40 _ _ _ _ _ d_XAr_apply_223 hw hS hf
  have hf := hf.trans (if_neg c_38)
  by_cases c_41 : x1 = (29 : Int32)
  · have hf := hf.trans (if_pos c_41)
    refine lv_tableIn (off := 213) (tgt := 224) hx hb d_XAr_apply_11 (by rw [c_41]; decide +kernel) (by rw [c_41]; decide +kernel) (by rw [c_41]; decide +kernel) (by decide) ?_
    refine lv_aload_n hx hb d_XAr_apply_224 rfl (lv_at hl 1 rfl) ?_
    refine lv_iload_n hx hb d_XAr_apply_225 rfl (lv_at hl 3 rfl) ?_
    refine lv_iload_n hx hb d_XAr_apply_226 rfl (lv_at hl 4 rfl) ?_
    refine z_wi (z_runV (As := [.int x2, .int x3]) (rest := []) ⟨hx, hb, hml, hown, hts⟩ (c_XAr_divide l D a k u0 x2 x3) (qX_Ar_92 hts (by decide)) hw 7 rfl rfl hl.1 rfl (lv_room (Nat.le_of_ble_eq_true rfl)) d_XAr_apply_227 hcs) hw hS (fun x_43 u_42 H locs ex_43 hw hS => ?_)
    have hf := hf.trans (pr_eq ex_43)
    exact hret x_43 _ _ _ _ _ d_XAr_apply_230 hw hS hf
  have hf := hf.trans (if_neg c_41)
  by_cases c_44 : x1 = (30 : Int32)
  · have hf := hf.trans (if_pos c_44)
    refine lv_tableIn (off := 220) (tgt := 231) hx hb d_XAr_apply_11 (by rw [c_44]; decide +kernel) (by rw [c_44]; decide +kernel) (by rw [c_44]; decide +kernel) (by decide) ?_
    refine lv_aload_n hx hb d_XAr_apply_231 rfl (lv_at hl 1 rfl) ?_
    refine lv_iload_n hx hb d_XAr_apply_232 rfl (lv_at hl 3 rfl) ?_
    refine lv_iload hx hb d_XAr_apply_233 (lv_at hl 0 rfl) ?_
    refine lv_i2l (v := Int32.toInt64 x_1) hx hb d_XAr_apply_235 rfl ?_
    refine lv_ldc2 (v := (4294967295 : Int64)) hx hb hown (hts _ kX_Ar_64) d_XAr_apply_236 ?_
    refine lv_land hx hb d_XAr_apply_239 ?_
    refine lv_iload_n hx hb d_XAr_apply_240 rfl (lv_at hl 4 rfl) ?_
    refine lv_i2l (v := Int32.toInt64 x3) hx hb d_XAr_apply_241 rfl ?_
    refine lv_ldc2 (v := (4294967295 : Int64)) hx hb hown (hts _ kX_Ar_64) d_XAr_apply_242 ?_
    refine lv_land hx hb d_XAr_apply_245 ?_
    refine lv_ladd hx hb d_XAr_apply_246 ?_
    refine z_wi (z_runV (As := [.int x2, .long (((Int32.toInt64 x_1) &&& (4294967295 : Int64)) + ((Int32.toInt64 x3) &&& (4294967295 : Int64)))]) (rest := []) ⟨hx, hb, hml, hown, hts⟩ (c_XAr_putUnsigned l D a k u0 x2 (((Int32.toInt64 x_1) &&& (4294967295 : Int64)) + ((Int32.toInt64 x3) &&& (4294967295 : Int64)))) (qX_Ar_95 hts (by decide)) hw 7 rfl rfl hl.1 rfl (lv_room (Nat.le_of_ble_eq_true rfl)) d_XAr_apply_247 hcs) hw hS (fun x_46 u_45 H locs ex_46 hw hS => ?_)
    have hf := hf.trans (pr_eq ex_46)
    exact hret x_46 _ _ _ _ _ d_XAr_apply_250 hw hS hf
  have hf := hf.trans (if_neg c_44)
  by_cases c_47 : x1 = (31 : Int32)
  · have hf := hf.trans (if_pos c_47)
    refine lv_tableIn (off := 240) (tgt := 251) hx hb d_XAr_apply_11 (by rw [c_47]; decide +kernel) (by rw [c_47]; decide +kernel) (by rw [c_47]; decide +kernel) (by decide) ?_
    refine lv_aload_n hx hb d_XAr_apply_251 rfl (lv_at hl 1 rfl) ?_
    refine lv_iload_n hx hb d_XAr_apply_252 rfl (lv_at hl 3 rfl) ?_
    refine lv_iload hx hb d_XAr_apply_253 (lv_at hl 0 rfl) ?_
    refine lv_i2l (v := Int32.toInt64 x_1) hx hb d_XAr_apply_255 rfl ?_
    refine lv_ldc2 (v := (4294967295 : Int64)) hx hb hown (hts _ kX_Ar_64) d_XAr_apply_256 ?_
    refine lv_land hx hb d_XAr_apply_259 ?_
    refine lv_iload_n hx hb d_XAr_apply_260 rfl (lv_at hl 4 rfl) ?_
    refine lv_iconst (v := (-1 : Int32)) hx hb d_XAr_apply_261 (by decide) ?_
    refine lv_ixor hx hb d_XAr_apply_262 ?_
    refine lv_i2l (v := Int32.toInt64 (x3 ^^^ (-1 : Int32))) hx hb d_XAr_apply_263 rfl ?_
    refine lv_ldc2 (v := (4294967295 : Int64)) hx hb hown (hts _ kX_Ar_64) d_XAr_apply_264 ?_
    refine lv_land hx hb d_XAr_apply_267 ?_
    refine lv_ladd hx hb d_XAr_apply_268 ?_
    refine lv_lconst (v := 1) hx hb d_XAr_apply_269 (by decide) ?_
    refine lv_ladd hx hb d_XAr_apply_270 ?_
    refine z_wi (z_runV (As := [.int x2, .long ((((Int32.toInt64 x_1) &&& (4294967295 : Int64)) + ((Int32.toInt64 (x3 ^^^ (-1 : Int32))) &&& (4294967295 : Int64))) + (1 : Int64))]) (rest := []) ⟨hx, hb, hml, hown, hts⟩ (c_XAr_putUnsigned l D a k u0 x2 ((((Int32.toInt64 x_1) &&& (4294967295 : Int64)) + ((Int32.toInt64 (x3 ^^^ (-1 : Int32))) &&& (4294967295 : Int64))) + (1 : Int64))) (qX_Ar_95 hts (by decide)) hw 7 rfl rfl hl.1 rfl (lv_room (Nat.le_of_ble_eq_true rfl)) d_XAr_apply_271 hcs) hw hS (fun x_49 u_48 H locs ex_49 hw hS => ?_)
    have hf := hf.trans (pr_eq ex_49)
    exact hret x_49 _ _ _ _ _ d_XAr_apply_274 hw hS hf
  have hf := hf.trans (if_neg c_47)
  refine lv_tableOut (tgt := 275) hx hb d_XAr_apply_11 (by have := lv_neT c_2 (a := 16) (by decide +kernel); have := lv_neT c_5 (a := 17) (by decide +kernel); have := lv_neT c_8 (a := 18) (by decide +kernel); have := lv_neT c_11 (a := 19) (by decide +kernel); have := lv_neT c_14 (a := 20) (by decide +kernel); have := lv_neT c_17 (a := 21) (by decide +kernel); have := lv_neT c_20 (a := 22) (by decide +kernel); have := lv_neT c_23 (a := 23) (by decide +kernel); have := lv_neT c_26 (a := 24) (by decide +kernel); have := lv_neT c_29 (a := 25) (by decide +kernel); have := lv_neT c_32 (a := 26) (by decide +kernel); have := lv_neT c_35 (a := 27) (by decide +kernel); have := lv_neT c_38 (a := 28) (by decide +kernel); have := lv_neT c_41 (a := 29) (by decide +kernel); have := lv_neT c_44 (a := 30) (by decide +kernel); have := lv_neT c_47 (a := 31) (by decide +kernel); omega) (by decide) ?_
  refine lv_iconst (v := (1 : Int32)) hx hb d_XAr_apply_275 (by decide) ?_
  exact hret (1 : Int32) _ _ _ _ _ d_XAr_apply_276 hw hS hf
def f_XAr_withRegister (u0 : XS)  : Int32 × XS := nm (f_XAr_lacksPair u0 (xF u0 4) (xF u0 6)) (fun (z_1 : Bool) => if (bI z_1) = (0 : Int32) then nm (f_XSt_value u0 (xF u0 7)) (fun (x_3 : Int32) => pr (f_XAr_apply u0 (xF u0 4) (xF u0 6) x_3) (fun (x_5 : Int32) (u_4 : XS) => (x_5, u_4))) else ((6 : Int32), u0))
set_option maxHeartbeats 4000000 in
set_option maxRecDepth 100000 in
theorem c_XAr_withRegister (l : Launch) (D : va_G) (a : Nat → Nat) (k : Nat → ClassId) (u0 : XS)  : zMi l y_XAr_withRegister w_XAr_withRegister rm_XAr_withRegister D clX (tyX k) nwX (xW a k) [.ref (a 7), .ref (a 6)] u0 (f_XAr_withRegister u0) := by
  generalize hF : f_XAr_withRegister u0 = F
  have hf := hF.symm
  unfold f_XAr_withRegister at hf
  refine zMi_of (cc := b_XAr_withRegister) (maxL := 2) (own := RX_Ar) (by decide) rfl rfl (Nat.le_of_ble_eq_true rfl) ?_
  intro p e R st m args below meth c A H locs Q ls hR hx hb hml hown hts hw hS hret hl
  subst hR
  have hcs : 0 ≤ (rm_XAr_withRegister).cells ∧ 0 ≤ (rm_XAr_withRegister).slots := ⟨Nat.zero_le _, Nat.zero_le _⟩
  have hl : lv_has ls 2 [(0, .ref (a 7)), (1, .ref (a 6))] := hl
  refine lv_aload_n hx hb d_XAr_withRegister_0 rfl (lv_at hl 1 rfl) ?_
  refine va_getN (v := .int (xF u0 4)) hx hb hts iX_In hown hw.2.1 hw.1 6 rfl rfl 0 (by decide) (va_Nw.use rfl (hw.2.2.2 _ kX_Ar_15).2) (fun _ h => h) rfl d_XAr_withRegister_1 ?_
  refine lv_aload_n hx hb d_XAr_withRegister_4 rfl (lv_at hl 1 rfl) ?_
  refine va_getN (v := .int (xF u0 6)) hx hb hts iX_In hown hw.2.1 hw.1 6 rfl rfl 2 (by decide) (va_Nw.use rfl (hw.2.2.2 _ kX_Ar_21).2) (fun _ h => h) rfl d_XAr_withRegister_5 ?_
  refine z_rz (z_runS (As := [.int (xF u0 4), .int (xF u0 6)]) (rest := []) ⟨hx, hb, hml, hown, hts⟩ (c_XAr_lacksPair l D a k u0 (xF u0 4) (xF u0 6)) (qX_Ar_24 hts (by decide)) hw  hl.1 rfl (lv_room (Nat.le_of_ble_eq_true rfl)) d_XAr_withRegister_8 hcs) (fun z_1 ez_1 => ?_)
  have hf := hf.trans (nm_eq ez_1)
  refine lv_if_eq (tgt := 17) hx hb d_XAr_withRegister_11 (by decide) (fun c_2 => ?_) (fun c_2 => ?_)
  · have hf := hf.trans (if_pos c_2)
    refine lv_aload_n hx hb d_XAr_withRegister_17 rfl (lv_at hl 0 rfl) ?_
    refine lv_aload_n hx hb d_XAr_withRegister_18 rfl (lv_at hl 1 rfl) ?_
    refine va_getN (v := .int (xF u0 4)) hx hb hts iX_In hown hw.2.1 hw.1 6 rfl rfl 0 (by decide) (va_Nw.use rfl (hw.2.2.2 _ kX_Ar_15).2) (fun _ h => h) rfl d_XAr_withRegister_19 ?_
    refine lv_aload_n hx hb d_XAr_withRegister_22 rfl (lv_at hl 1 rfl) ?_
    refine va_getN (v := .int (xF u0 6)) hx hb hts iX_In hown hw.2.1 hw.1 6 rfl rfl 2 (by decide) (va_Nw.use rfl (hw.2.2.2 _ kX_Ar_21).2) (fun _ h => h) rfl d_XAr_withRegister_23 ?_
    refine lv_aload_n hx hb d_XAr_withRegister_26 rfl (lv_at hl 0 rfl) ?_
    refine va_get (v := .ref (a 1)) hx hb hts iX_Ar hown hw.2.1 hw.1 7 rfl rfl 0 (by decide) (hts _ kX_Ar_9) (fun _ h => h) rfl d_XAr_withRegister_27 ?_
    refine lv_aload_n hx hb d_XAr_withRegister_30 rfl (lv_at hl 1 rfl) ?_
    refine va_getN (v := .int (xF u0 7)) hx hb hts iX_In hown hw.2.1 hw.1 6 rfl rfl 3 (by decide) (va_Nw.use rfl (hw.2.2.2 _ kX_Ar_28).2) (fun _ h => h) rfl d_XAr_withRegister_31 ?_
    refine z_ri (z_runV (As := [.int (xF u0 7)]) (rest := [.int (xF u0 6), .int (xF u0 4), .ref (a 7)]) ⟨hx, hb, hml, hown, hts⟩ (c_XSt_value l D a k u0 (xF u0 7)) (qX_Ar_31 hts (by decide)) hw 1 rfl rfl hl.1 rfl (lv_room (Nat.le_of_ble_eq_true rfl)) d_XAr_withRegister_34 hcs) (fun x_3 ex_3 => ?_)
    have hf := hf.trans (nm_eq ex_3)
    refine z_wi (z_runV (As := [.int (xF u0 4), .int (xF u0 6), .int x_3]) (rest := []) ⟨hx, hb, hml, hown, hts⟩ (c_XAr_apply l D a k u0 (xF u0 4) (xF u0 6) x_3) (qX_Ar_37 hts (by decide)) hw 7 rfl rfl hl.1 rfl (lv_room (Nat.le_of_ble_eq_true rfl)) d_XAr_withRegister_37 hcs) hw hS (fun x_5 u_4 H locs ex_5 hw hS => ?_)
    have hf := hf.trans (pr_eq ex_5)
    exact hret x_5 _ _ _ _ _ d_XAr_withRegister_40 hw hS hf
  · have hf := hf.trans (if_neg c_2)
    refine lv_bipush (v := (6 : Int32)) hx hb d_XAr_withRegister_14 (by decide) ?_
    exact hret (6 : Int32) _ _ _ _ _ d_XAr_withRegister_16 hw hS hf
end
section
def f_XMe_holds (u0 : XS) (x1 : Int32) (x2 : Int32) : Bool := if x1 < (0 : Int32) then false else if (1024 : Int32) < x2 then false else if ((1024 : Int32) - x2) < x1 then false else true
set_option maxHeartbeats 4000000 in
set_option maxRecDepth 100000 in
theorem c_XMe_holds (l : Launch) (D : va_G) (a : Nat → Nat) (k : Nat → ClassId) (u0 : XS) (x1 : Int32) (x2 : Int32) : zRz l y_XMe_holds w_XMe_holds rm_XMe_holds D clX (tyX k) nwX (xW a k) [.ref (a 2), .int x1, .int x2] u0 (f_XMe_holds u0 x1 x2) := by
  generalize hF : f_XMe_holds u0 x1 x2 = F
  have hf := hF.symm
  unfold f_XMe_holds at hf
  refine zRz_of (cc := b_XMe_holds) (maxL := 3) (own := RX_Me) (by decide) rfl rfl (Nat.le_of_ble_eq_true rfl) ?_
  intro p e R st m args below meth c H locs Q ls hR hx hb hml hown hts hw hret hl
  subst hR
  have hcs : 0 ≤ (rm_XMe_holds).cells ∧ 0 ≤ (rm_XMe_holds).slots := ⟨Nat.zero_le _, Nat.zero_le _⟩
  have hl : lv_has ls 3 [(0, .ref (a 2)), (1, .int x1), (2, .int x2)] := hl
  refine lv_iload_n hx hb d_XMe_holds_0 rfl (lv_at hl 1 rfl) ?_
  refine lv_if_lt (tgt := 24) hx hb d_XMe_holds_1 (by decide) (fun c_1 => ?_) (fun c_1 => ?_)
  · have hf := hf.trans (if_pos c_1)
    refine lv_iconst (v := (0 : Int32)) hx hb d_XMe_holds_24 (by decide) ?_
    exact hret false _ _ d_XMe_holds_25 hf
  · have hf := hf.trans (if_neg c_1)
    refine lv_iload_n hx hb d_XMe_holds_4 rfl (lv_at hl 2 rfl) ?_
    refine lv_sipush (v := (1024 : Int32)) hx hb d_XMe_holds_5 (by decide) ?_
    refine lv_icmp_gt (tgt := 24) hx hb d_XMe_holds_8 (by decide) (fun c_2 => ?_) (fun c_2 => ?_)
    · have hf := hf.trans (if_pos c_2)
      refine lv_iconst (v := (0 : Int32)) hx hb d_XMe_holds_24 (by decide) ?_
      exact hret false _ _ d_XMe_holds_25 hf
    · have hf := hf.trans (if_neg c_2)
      refine lv_iload_n hx hb d_XMe_holds_11 rfl (lv_at hl 1 rfl) ?_
      refine lv_sipush (v := (1024 : Int32)) hx hb d_XMe_holds_12 (by decide) ?_
      refine lv_iload_n hx hb d_XMe_holds_15 rfl (lv_at hl 2 rfl) ?_
      refine lv_isub hx hb d_XMe_holds_16 ?_
      refine lv_icmp_gt (tgt := 24) hx hb d_XMe_holds_17 (by decide) (fun c_3 => ?_) (fun c_3 => ?_)
      · have hf := hf.trans (if_pos c_3)
        refine lv_iconst (v := (0 : Int32)) hx hb d_XMe_holds_24 (by decide) ?_
        exact hret false _ _ d_XMe_holds_25 hf
      · have hf := hf.trans (if_neg c_3)
        refine lv_iconst (v := (1 : Int32)) hx hb d_XMe_holds_20 (by decide) ?_
        refine lv_goto (tgt := 25) hx hb d_XMe_holds_21 (by decide) ?_
        exact hret true _ _ d_XMe_holds_25 hf
def f_XMe_faultOf (u0 : XS) (x1 : Int32) (x2 : Int32) : Int32 := if (x1 &&& (x2 - (1 : Int32))) = (0 : Int32) then nm (f_XMe_holds u0 x1 x2) (fun (z_2 : Bool) => if (bI z_2) = (0 : Int32) then (5 : Int32) else (0 : Int32)) else (6 : Int32)
set_option maxHeartbeats 4000000 in
set_option maxRecDepth 100000 in
theorem c_XMe_faultOf (l : Launch) (D : va_G) (a : Nat → Nat) (k : Nat → ClassId) (u0 : XS) (x1 : Int32) (x2 : Int32) : zRi l y_XMe_faultOf w_XMe_faultOf rm_XMe_faultOf D clX (tyX k) nwX (xW a k) [.ref (a 2), .int x1, .int x2] u0 (f_XMe_faultOf u0 x1 x2) := by
  generalize hF : f_XMe_faultOf u0 x1 x2 = F
  have hf := hF.symm
  unfold f_XMe_faultOf at hf
  refine zRi_of (cc := b_XMe_faultOf) (maxL := 3) (own := RX_Me) (by decide) rfl rfl (Nat.le_of_ble_eq_true rfl) ?_
  intro p e R st m args below meth c H locs Q ls hR hx hb hml hown hts hw hret hl
  subst hR
  have hcs : 0 ≤ (rm_XMe_faultOf).cells ∧ 0 ≤ (rm_XMe_faultOf).slots := ⟨Nat.zero_le _, Nat.zero_le _⟩
  have hl : lv_has ls 3 [(0, .ref (a 2)), (1, .int x1), (2, .int x2)] := hl
  refine lv_iload_n hx hb d_XMe_faultOf_0 rfl (lv_at hl 1 rfl) ?_
  refine lv_iload_n hx hb d_XMe_faultOf_1 rfl (lv_at hl 2 rfl) ?_
  refine lv_iconst (v := (1 : Int32)) hx hb d_XMe_faultOf_2 (by decide) ?_
  refine lv_isub hx hb d_XMe_faultOf_3 ?_
  refine lv_iand hx hb d_XMe_faultOf_4 ?_
  refine lv_if_eq (tgt := 11) hx hb d_XMe_faultOf_5 (by decide) (fun c_1 => ?_) (fun c_1 => ?_)
  · have hf := hf.trans (if_pos c_1)
    refine lv_aload_n hx hb d_XMe_faultOf_11 rfl (lv_at hl 0 rfl) ?_
    refine lv_iload_n hx hb d_XMe_faultOf_12 rfl (lv_at hl 1 rfl) ?_
    refine lv_iload_n hx hb d_XMe_faultOf_13 rfl (lv_at hl 2 rfl) ?_
    refine z_rz (z_runV (As := [.int x1, .int x2]) (rest := []) ⟨hx, hb, hml, hown, hts⟩ (c_XMe_holds l D a k u0 x1 x2) (qX_Me_15 hts (by decide)) hw 2 rfl rfl hl.1 rfl (lv_room (Nat.le_of_ble_eq_true rfl)) d_XMe_faultOf_14 hcs) (fun z_2 ez_2 => ?_)
    have hf := hf.trans (nm_eq ez_2)
    refine lv_if_eq (tgt := 24) hx hb d_XMe_faultOf_17 (by decide) (fun c_3 => ?_) (fun c_3 => ?_)
    · have hf := hf.trans (if_pos c_3)
      refine lv_iconst (v := (5 : Int32)) hx hb d_XMe_faultOf_24 (by decide) ?_
      exact hret (5 : Int32) _ _ d_XMe_faultOf_25 hf
    · have hf := hf.trans (if_neg c_3)
      refine lv_iconst (v := (0 : Int32)) hx hb d_XMe_faultOf_20 (by decide) ?_
      refine lv_goto (tgt := 25) hx hb d_XMe_faultOf_21 (by decide) ?_
      exact hret (0 : Int32) _ _ d_XMe_faultOf_25 hf
  · have hf := hf.trans (if_neg c_1)
    refine lv_bipush (v := (6 : Int32)) hx hb d_XMe_faultOf_8 (by decide) ?_
    exact hret (6 : Int32) _ _ d_XMe_faultOf_10 hf
def f_XMe_get (u0 : XS) (x1 : Int32) : Int32 := if x1 < (0 : Int32) then (0 : Int32) else if (1024 : Int32) ≤ x1 then (0 : Int32) else (xM u0 (Int32.toNatClampNeg x1))
set_option maxHeartbeats 4000000 in
set_option maxRecDepth 100000 in
theorem c_XMe_get (l : Launch) (D : va_G) (a : Nat → Nat) (k : Nat → ClassId) (u0 : XS) (x1 : Int32) : zRi l y_XMe_get w_XMe_get rm_XMe_get D clX (tyX k) nwX (xW a k) [.ref (a 2), .int x1] u0 (f_XMe_get u0 x1) := by
  generalize hF : f_XMe_get u0 x1 = F
  have hf := hF.symm
  unfold f_XMe_get at hf
  refine zRi_of (cc := b_XMe_get) (maxL := 2) (own := RX_Me) (by decide) rfl rfl (Nat.le_of_ble_eq_true rfl) ?_
  intro p e R st m args below meth c H locs Q ls hR hx hb hml hown hts hw hret hl
  subst hR
  have hcs : 0 ≤ (rm_XMe_get).cells ∧ 0 ≤ (rm_XMe_get).slots := ⟨Nat.zero_le _, Nat.zero_le _⟩
  have hl : lv_has ls 2 [(0, .ref (a 2)), (1, .int x1)] := hl
  refine lv_iload_n hx hb d_XMe_get_0 rfl (lv_at hl 1 rfl) ?_
  refine lv_if_lt (tgt := 20) hx hb d_XMe_get_1 (by decide) (fun c_1 => ?_) (fun c_1 => ?_)
  · have hf := hf.trans (if_pos c_1)
    refine lv_iconst (v := (0 : Int32)) hx hb d_XMe_get_20 (by decide) ?_
    exact hret (0 : Int32) _ _ d_XMe_get_21 hf
  · have hf := hf.trans (if_neg c_1)
    refine lv_iload_n hx hb d_XMe_get_4 rfl (lv_at hl 1 rfl) ?_
    refine lv_sipush (v := (1024 : Int32)) hx hb d_XMe_get_5 (by decide) ?_
    refine lv_icmp_ge (tgt := 20) hx hb d_XMe_get_8 (by decide) (fun c_2 => ?_) (fun c_2 => ?_)
    · have hf := hf.trans (if_pos c_2)
      refine lv_iconst (v := (0 : Int32)) hx hb d_XMe_get_20 (by decide) ?_
      exact hret (0 : Int32) _ _ d_XMe_get_21 hf
    · have hf := hf.trans (if_neg c_2)
      refine lv_aload_n hx hb d_XMe_get_11 rfl (lv_at hl 0 rfl) ?_
      refine va_get (v := .ref (a 3)) hx hb hts iX_Me hown hw.2.1 hw.1 2 rfl rfl 0 (by decide) (hts _ kX_Me_11) (fun _ h => h) rfl d_XMe_get_12 ?_
      refine lv_iload_n hx hb d_XMe_get_15 rfl (lv_at hl 1 rfl) ?_
      refine va_iald hx hb hw.2.1 hw.1 3 0 rfl rfl (z_in1024 (by assumption) (by assumption)) d_XMe_get_16 ?_
      refine lv_goto (tgt := 21) hx hb d_XMe_get_17 (by decide) ?_
      exact hret (xM u0 (Int32.toNatClampNeg x1)) _ _ d_XMe_get_21 hf
def f_XMe_word (u0 : XS) (x1 : Int32) : Int32 := nm (f_XMe_get u0 x1) (fun (x_1 : Int32) => nm (f_XMe_get u0 (x1 + (1 : Int32))) (fun (x_2 : Int32) => nm (f_XMe_get u0 (x1 + (2 : Int32))) (fun (x_3 : Int32) => nm (f_XMe_get u0 (x1 + (3 : Int32))) (fun (x_4 : Int32) => ((((x_1 <<< ((24 : Int32) &&& 31)) ||| (x_2 <<< ((16 : Int32) &&& 31))) ||| (x_3 <<< ((8 : Int32) &&& 31))) ||| x_4)))))
set_option maxHeartbeats 4000000 in
set_option maxRecDepth 100000 in
theorem c_XMe_word (l : Launch) (D : va_G) (a : Nat → Nat) (k : Nat → ClassId) (u0 : XS) (x1 : Int32) : zRi l y_XMe_word w_XMe_word rm_XMe_word D clX (tyX k) nwX (xW a k) [.ref (a 2), .int x1] u0 (f_XMe_word u0 x1) := by
  generalize hF : f_XMe_word u0 x1 = F
  have hf := hF.symm
  unfold f_XMe_word at hf
  refine zRi_of (cc := b_XMe_word) (maxL := 2) (own := RX_Me) (by decide) rfl rfl (Nat.le_of_ble_eq_true rfl) ?_
  intro p e R st m args below meth c H locs Q ls hR hx hb hml hown hts hw hret hl
  subst hR
  have hcs : 0 ≤ (rm_XMe_word).cells ∧ 0 ≤ (rm_XMe_word).slots := ⟨Nat.zero_le _, Nat.zero_le _⟩
  have hl : lv_has ls 2 [(0, .ref (a 2)), (1, .int x1)] := hl
  refine lv_aload_n hx hb d_XMe_word_0 rfl (lv_at hl 0 rfl) ?_
  refine lv_iload_n hx hb d_XMe_word_1 rfl (lv_at hl 1 rfl) ?_
  refine z_ri (z_runV (As := [.int x1]) (rest := []) ⟨hx, hb, hml, hown, hts⟩ (c_XMe_get l D a k u0 x1) (qX_Me_19 hts (by decide)) hw 2 rfl rfl hl.1 rfl (lv_room (Nat.le_of_ble_eq_true rfl)) d_XMe_word_2 hcs) (fun x_1 ex_1 => ?_)
  have hf := hf.trans (nm_eq ex_1)
  refine lv_bipush (v := (24 : Int32)) hx hb d_XMe_word_5 (by decide) ?_
  refine lv_ishl hx hb d_XMe_word_7 ?_
  refine lv_aload_n hx hb d_XMe_word_8 rfl (lv_at hl 0 rfl) ?_
  refine lv_iload_n hx hb d_XMe_word_9 rfl (lv_at hl 1 rfl) ?_
  refine lv_iconst (v := (1 : Int32)) hx hb d_XMe_word_10 (by decide) ?_
  refine lv_iadd hx hb d_XMe_word_11 ?_
  refine z_ri (z_runV (As := [.int (x1 + (1 : Int32))]) (rest := [.int (x_1 <<< ((24 : Int32) &&& 31))]) ⟨hx, hb, hml, hown, hts⟩ (c_XMe_get l D a k u0 (x1 + (1 : Int32))) (qX_Me_19 hts (by decide)) hw 2 rfl rfl hl.1 rfl (lv_room (Nat.le_of_ble_eq_true rfl)) d_XMe_word_12 hcs) (fun x_2 ex_2 => ?_)
  have hf := hf.trans (nm_eq ex_2)
  refine lv_bipush (v := (16 : Int32)) hx hb d_XMe_word_15 (by decide) ?_
  refine lv_ishl hx hb d_XMe_word_17 ?_
  refine lv_ior hx hb d_XMe_word_18 ?_
  refine lv_aload_n hx hb d_XMe_word_19 rfl (lv_at hl 0 rfl) ?_
  refine lv_iload_n hx hb d_XMe_word_20 rfl (lv_at hl 1 rfl) ?_
  refine lv_iconst (v := (2 : Int32)) hx hb d_XMe_word_21 (by decide) ?_
  refine lv_iadd hx hb d_XMe_word_22 ?_
  refine z_ri (z_runV (As := [.int (x1 + (2 : Int32))]) (rest := [.int ((x_1 <<< ((24 : Int32) &&& 31)) ||| (x_2 <<< ((16 : Int32) &&& 31)))]) ⟨hx, hb, hml, hown, hts⟩ (c_XMe_get l D a k u0 (x1 + (2 : Int32))) (qX_Me_19 hts (by decide)) hw 2 rfl rfl hl.1 rfl (lv_room (Nat.le_of_ble_eq_true rfl)) d_XMe_word_23 hcs) (fun x_3 ex_3 => ?_)
  have hf := hf.trans (nm_eq ex_3)
  refine lv_bipush (v := (8 : Int32)) hx hb d_XMe_word_26 (by decide) ?_
  refine lv_ishl hx hb d_XMe_word_28 ?_
  refine lv_ior hx hb d_XMe_word_29 ?_
  refine lv_aload_n hx hb d_XMe_word_30 rfl (lv_at hl 0 rfl) ?_
  refine lv_iload_n hx hb d_XMe_word_31 rfl (lv_at hl 1 rfl) ?_
  refine lv_iconst (v := (3 : Int32)) hx hb d_XMe_word_32 (by decide) ?_
  refine lv_iadd hx hb d_XMe_word_33 ?_
  refine z_ri (z_runV (As := [.int (x1 + (3 : Int32))]) (rest := [.int (((x_1 <<< ((24 : Int32) &&& 31)) ||| (x_2 <<< ((16 : Int32) &&& 31))) ||| (x_3 <<< ((8 : Int32) &&& 31)))]) ⟨hx, hb, hml, hown, hts⟩ (c_XMe_get l D a k u0 (x1 + (3 : Int32))) (qX_Me_19 hts (by decide)) hw 2 rfl rfl hl.1 rfl (lv_room (Nat.le_of_ble_eq_true rfl)) d_XMe_word_34 hcs) (fun x_4 ex_4 => ?_)
  have hf := hf.trans (nm_eq ex_4)
  refine lv_ior hx hb d_XMe_word_37 ?_
  exact hret ((((x_1 <<< ((24 : Int32) &&& 31)) ||| (x_2 <<< ((16 : Int32) &&& 31))) ||| (x_3 <<< ((8 : Int32) &&& 31))) ||| x_4) _ _ d_XMe_word_38 hf
end
section
def f_XAr_withWord (u0 : XS)  : Int32 × XS := nm ((xF u0 4) - (64 : Int32)) (fun (x_1 : Int32) => nm (f_XAr_lacksPair u0 x_1 (xF u0 6)) (fun (z_2 : Bool) => if (bI z_2) = (0 : Int32) then nm (f_XMe_faultOf u0 (xF u0 9) (4 : Int32)) (fun (x_4 : Int32) => if x_4 = (0 : Int32) then nm (f_XMe_word u0 (xF u0 9)) (fun (x_6 : Int32) => pr (f_XAr_apply u0 x_1 (xF u0 6) x_6) (fun (x_8 : Int32) (u_7 : XS) => (x_8, u_7))) else (x_4, u0)) else ((6 : Int32), u0)))
set_option maxHeartbeats 4000000 in
set_option maxRecDepth 100000 in
theorem c_XAr_withWord (l : Launch) (D : va_G) (a : Nat → Nat) (k : Nat → ClassId) (u0 : XS)  : zMi l y_XAr_withWord w_XAr_withWord rm_XAr_withWord D clX (tyX k) nwX (xW a k) [.ref (a 7), .ref (a 6)] u0 (f_XAr_withWord u0) := by
  generalize hF : f_XAr_withWord u0 = F
  have hf := hF.symm
  unfold f_XAr_withWord at hf
  refine zMi_of (cc := b_XAr_withWord) (maxL := 4) (own := RX_Ar) (by decide) rfl rfl (Nat.le_of_ble_eq_true rfl) ?_
  intro p e R st m args below meth c A H locs Q ls hR hx hb hml hown hts hw hS hret hl
  subst hR
  have hcs : 0 ≤ (rm_XAr_withWord).cells ∧ 0 ≤ (rm_XAr_withWord).slots := ⟨Nat.zero_le _, Nat.zero_le _⟩
  have hl : lv_has ls 4 [(0, .ref (a 7)), (1, .ref (a 6))] := hl
  refine lv_aload_n hx hb d_XAr_withWord_0 rfl (lv_at hl 1 rfl) ?_
  refine va_getN (v := .int (xF u0 4)) hx hb hts iX_In hown hw.2.1 hw.1 6 rfl rfl 0 (by decide) (va_Nw.use rfl (hw.2.2.2 _ kX_Ar_15).2) (fun _ h => h) rfl d_XAr_withWord_1 ?_
  refine lv_bipush (v := (64 : Int32)) hx hb d_XAr_withWord_4 (by decide) ?_
  refine lv_isub hx hb d_XAr_withWord_6 ?_
  refine lv_topi (fun x_1 ex_1 => ?_)
  have hf := hf.trans (nm_eq ex_1)
  refine lv_istore_n (lv' := [(2, .int x_1), (0, .ref (a 7)), (1, .ref (a 6))]) hx hb d_XAr_withWord_7 rfl hl (by decide) rfl (fun ls hl => ?_)
  refine lv_iload_n hx hb d_XAr_withWord_8 rfl (lv_at hl 0 rfl) ?_
  refine lv_aload_n hx hb d_XAr_withWord_9 rfl (lv_at hl 2 rfl) ?_
  refine va_getN (v := .int (xF u0 6)) hx hb hts iX_In hown hw.2.1 hw.1 6 rfl rfl 2 (by decide) (va_Nw.use rfl (hw.2.2.2 _ kX_Ar_21).2) (fun _ h => h) rfl d_XAr_withWord_10 ?_
  refine z_rz (z_runS (As := [.int x_1, .int (xF u0 6)]) (rest := []) ⟨hx, hb, hml, hown, hts⟩ (c_XAr_lacksPair l D a k u0 x_1 (xF u0 6)) (qX_Ar_24 hts (by decide)) hw  hl.1 rfl (lv_room (Nat.le_of_ble_eq_true rfl)) d_XAr_withWord_13 hcs) (fun z_2 ez_2 => ?_)
  have hf := hf.trans (nm_eq ez_2)
  refine lv_if_eq (tgt := 22) hx hb d_XAr_withWord_16 (by decide) (fun c_3 => ?_) (fun c_3 => ?_)
  · have hf := hf.trans (if_pos c_3)
    refine lv_aload_n hx hb d_XAr_withWord_22 rfl (lv_at hl 1 rfl) ?_
    refine va_get (v := .ref (a 1)) hx hb hts iX_Ar hown hw.2.1 hw.1 7 rfl rfl 0 (by decide) (hts _ kX_Ar_9) (fun _ h => h) rfl d_XAr_withWord_23 ?_
    refine va_getN (v := .ref (a 2)) hx hb hts iX_St hown hw.2.1 hw.1 1 rfl rfl 0 (by decide) (va_Nw.use rfl (hw.2.2.2 _ kX_Ar_41).2) (fun _ h => h) rfl d_XAr_withWord_26 ?_
    refine lv_aload_n hx hb d_XAr_withWord_29 rfl (lv_at hl 2 rfl) ?_
    refine va_getN (v := .int (xF u0 9)) hx hb hts iX_In hown hw.2.1 hw.1 6 rfl rfl 5 (by decide) (va_Nw.use rfl (hw.2.2.2 _ kX_Ar_45).2) (fun _ h => h) rfl d_XAr_withWord_30 ?_
    refine lv_iconst (v := (4 : Int32)) hx hb d_XAr_withWord_33 (by decide) ?_
    refine z_ri (z_runV (As := [.int (xF u0 9), .int (4 : Int32)]) (rest := []) ⟨hx, hb, hml, hown, hts⟩ (c_XMe_faultOf l D a k u0 (xF u0 9) (4 : Int32)) (qX_Ar_48 hts (by decide)) hw 2 rfl rfl hl.1 rfl (lv_room (Nat.le_of_ble_eq_true rfl)) d_XAr_withWord_34 hcs) (fun x_4 ex_4 => ?_)
    have hf := hf.trans (nm_eq ex_4)
    refine lv_istore_n (lv' := [(3, .int x_4), (2, .int x_1), (0, .ref (a 7)), (1, .ref (a 6))]) hx hb d_XAr_withWord_37 rfl hl (by decide) rfl (fun ls hl => ?_)
    refine lv_iload_n hx hb d_XAr_withWord_38 rfl (lv_at hl 0 rfl) ?_
    refine lv_if_eq (tgt := 46) hx hb d_XAr_withWord_39 (by decide) (fun c_5 => ?_) (fun c_5 => ?_)
    · have hf := hf.trans (if_pos c_5)
      refine lv_aload_n hx hb d_XAr_withWord_46 rfl (lv_at hl 2 rfl) ?_
      refine lv_iload_n hx hb d_XAr_withWord_47 rfl (lv_at hl 1 rfl) ?_
      refine lv_aload_n hx hb d_XAr_withWord_48 rfl (lv_at hl 3 rfl) ?_
      refine va_getN (v := .int (xF u0 6)) hx hb hts iX_In hown hw.2.1 hw.1 6 rfl rfl 2 (by decide) (va_Nw.use rfl (hw.2.2.2 _ kX_Ar_21).2) (fun _ h => h) rfl d_XAr_withWord_49 ?_
      refine lv_aload_n hx hb d_XAr_withWord_52 rfl (lv_at hl 2 rfl) ?_
      refine va_get (v := .ref (a 1)) hx hb hts iX_Ar hown hw.2.1 hw.1 7 rfl rfl 0 (by decide) (hts _ kX_Ar_9) (fun _ h => h) rfl d_XAr_withWord_53 ?_
      refine va_getN (v := .ref (a 2)) hx hb hts iX_St hown hw.2.1 hw.1 1 rfl rfl 0 (by decide) (va_Nw.use rfl (hw.2.2.2 _ kX_Ar_41).2) (fun _ h => h) rfl d_XAr_withWord_56 ?_
      refine lv_aload_n hx hb d_XAr_withWord_59 rfl (lv_at hl 3 rfl) ?_
      refine va_getN (v := .int (xF u0 9)) hx hb hts iX_In hown hw.2.1 hw.1 6 rfl rfl 5 (by decide) (va_Nw.use rfl (hw.2.2.2 _ kX_Ar_45).2) (fun _ h => h) rfl d_XAr_withWord_60 ?_
      refine z_ri (z_runV (As := [.int (xF u0 9)]) (rest := [.int (xF u0 6), .int x_1, .ref (a 7)]) ⟨hx, hb, hml, hown, hts⟩ (c_XMe_word l D a k u0 (xF u0 9)) (qX_Ar_54 hts (by decide)) hw 2 rfl rfl hl.1 rfl (lv_room (Nat.le_of_ble_eq_true rfl)) d_XAr_withWord_63 hcs) (fun x_6 ex_6 => ?_)
      have hf := hf.trans (nm_eq ex_6)
      refine z_wi (z_runV (As := [.int x_1, .int (xF u0 6), .int x_6]) (rest := []) ⟨hx, hb, hml, hown, hts⟩ (c_XAr_apply l D a k u0 x_1 (xF u0 6) x_6) (qX_Ar_37 hts (by decide)) hw 7 rfl rfl hl.1 rfl (lv_room (Nat.le_of_ble_eq_true rfl)) d_XAr_withWord_66 hcs) hw hS (fun x_8 u_7 H locs ex_8 hw hS => ?_)
      have hf := hf.trans (pr_eq ex_8)
      exact hret x_8 _ _ _ _ _ d_XAr_withWord_69 hw hS hf
    · have hf := hf.trans (if_neg c_5)
      refine lv_iload_n hx hb d_XAr_withWord_42 rfl (lv_at hl 0 rfl) ?_
      refine lv_goto (tgt := 69) hx hb d_XAr_withWord_43 (by decide) ?_
      exact hret x_4 _ _ _ _ _ d_XAr_withWord_69 hw hS hf
  · have hf := hf.trans (if_neg c_3)
    refine lv_bipush (v := (6 : Int32)) hx hb d_XAr_withWord_19 (by decide) ?_
    exact hret (6 : Int32) _ _ _ _ _ d_XAr_withWord_21 hw hS hf
end
section
def f_XMe_half (u0 : XS) (x1 : Int32) : Int32 := nm (f_XMe_get u0 x1) (fun (x_1 : Int32) => nm (f_XMe_get u0 (x1 + (1 : Int32))) (fun (x_2 : Int32) => ((Int32.toInt16 ((x_1 <<< ((8 : Int32) &&& 31)) ||| x_2)).toInt32)))
set_option maxHeartbeats 4000000 in
set_option maxRecDepth 100000 in
theorem c_XMe_half (l : Launch) (D : va_G) (a : Nat → Nat) (k : Nat → ClassId) (u0 : XS) (x1 : Int32) : zRi l y_XMe_half w_XMe_half rm_XMe_half D clX (tyX k) nwX (xW a k) [.ref (a 2), .int x1] u0 (f_XMe_half u0 x1) := by
  generalize hF : f_XMe_half u0 x1 = F
  have hf := hF.symm
  unfold f_XMe_half at hf
  refine zRi_of (cc := b_XMe_half) (maxL := 2) (own := RX_Me) (by decide) rfl rfl (Nat.le_of_ble_eq_true rfl) ?_
  intro p e R st m args below meth c H locs Q ls hR hx hb hml hown hts hw hret hl
  subst hR
  have hcs : 0 ≤ (rm_XMe_half).cells ∧ 0 ≤ (rm_XMe_half).slots := ⟨Nat.zero_le _, Nat.zero_le _⟩
  have hl : lv_has ls 2 [(0, .ref (a 2)), (1, .int x1)] := hl
  refine lv_aload_n hx hb d_XMe_half_0 rfl (lv_at hl 0 rfl) ?_
  refine lv_iload_n hx hb d_XMe_half_1 rfl (lv_at hl 1 rfl) ?_
  refine z_ri (z_runV (As := [.int x1]) (rest := []) ⟨hx, hb, hml, hown, hts⟩ (c_XMe_get l D a k u0 x1) (qX_Me_19 hts (by decide)) hw 2 rfl rfl hl.1 rfl (lv_room (Nat.le_of_ble_eq_true rfl)) d_XMe_half_2 hcs) (fun x_1 ex_1 => ?_)
  have hf := hf.trans (nm_eq ex_1)
  refine lv_bipush (v := (8 : Int32)) hx hb d_XMe_half_5 (by decide) ?_
  refine lv_ishl hx hb d_XMe_half_7 ?_
  refine lv_aload_n hx hb d_XMe_half_8 rfl (lv_at hl 0 rfl) ?_
  refine lv_iload_n hx hb d_XMe_half_9 rfl (lv_at hl 1 rfl) ?_
  refine lv_iconst (v := (1 : Int32)) hx hb d_XMe_half_10 (by decide) ?_
  refine lv_iadd hx hb d_XMe_half_11 ?_
  refine z_ri (z_runV (As := [.int (x1 + (1 : Int32))]) (rest := [.int (x_1 <<< ((8 : Int32) &&& 31))]) ⟨hx, hb, hml, hown, hts⟩ (c_XMe_get l D a k u0 (x1 + (1 : Int32))) (qX_Me_19 hts (by decide)) hw 2 rfl rfl hl.1 rfl (lv_room (Nat.le_of_ble_eq_true rfl)) d_XMe_half_12 hcs) (fun x_2 ex_2 => ?_)
  have hf := hf.trans (nm_eq ex_2)
  refine lv_ior hx hb d_XMe_half_15 ?_
  refine lv_i2s (v := (Int32.toInt16 ((x_1 <<< ((8 : Int32) &&& 31)) ||| x_2)).toInt32) hx hb d_XMe_half_16 rfl ?_
  exact hret ((Int32.toInt16 ((x_1 <<< ((8 : Int32) &&& 31)) ||| x_2)).toInt32) _ _ d_XMe_half_17 hf
end
section
def f_XAr_withHalf (u0 : XS)  : Int32 × XS := nm (f_XMe_faultOf u0 (xF u0 9) (2 : Int32)) (fun (x_1 : Int32) => if x_1 = (0 : Int32) then nm (f_XMe_half u0 (xF u0 9)) (fun (x_3 : Int32) => if (xF u0 4) = (76 : Int32) then nm (f_XSt_value u0 (xF u0 6)) (fun (x_7 : Int32) => nm (f_XSt_put u0 (xF u0 6) (x_7 * x_3)) (fun (u_8 : XS) => ((0 : Int32), u_8))) else pr (f_XAr_apply u0 ((xF u0 4) - (48 : Int32)) (xF u0 6) x_3) (fun (x_6 : Int32) (u_5 : XS) => (x_6, u_5))) else (x_1, u0))
set_option maxHeartbeats 4000000 in
set_option maxRecDepth 100000 in
theorem c_XAr_withHalf (l : Launch) (D : va_G) (a : Nat → Nat) (k : Nat → ClassId) (u0 : XS)  : zMi l y_XAr_withHalf w_XAr_withHalf rm_XAr_withHalf D clX (tyX k) nwX (xW a k) [.ref (a 7), .ref (a 6)] u0 (f_XAr_withHalf u0) := by
  generalize hF : f_XAr_withHalf u0 = F
  have hf := hF.symm
  unfold f_XAr_withHalf at hf
  refine zMi_of (cc := b_XAr_withHalf) (maxL := 4) (own := RX_Ar) (by decide) rfl rfl (Nat.le_of_ble_eq_true rfl) ?_
  intro p e R st m args below meth c A H locs Q ls hR hx hb hml hown hts hw hS hret hl
  subst hR
  have hcs : 0 ≤ (rm_XAr_withHalf).cells ∧ 0 ≤ (rm_XAr_withHalf).slots := ⟨Nat.zero_le _, Nat.zero_le _⟩
  have hl : lv_has ls 4 [(0, .ref (a 7)), (1, .ref (a 6))] := hl
  refine lv_aload_n hx hb d_XAr_withHalf_0 rfl (lv_at hl 0 rfl) ?_
  refine va_get (v := .ref (a 1)) hx hb hts iX_Ar hown hw.2.1 hw.1 7 rfl rfl 0 (by decide) (hts _ kX_Ar_9) (fun _ h => h) rfl d_XAr_withHalf_1 ?_
  refine va_getN (v := .ref (a 2)) hx hb hts iX_St hown hw.2.1 hw.1 1 rfl rfl 0 (by decide) (va_Nw.use rfl (hw.2.2.2 _ kX_Ar_41).2) (fun _ h => h) rfl d_XAr_withHalf_4 ?_
  refine lv_aload_n hx hb d_XAr_withHalf_7 rfl (lv_at hl 1 rfl) ?_
  refine va_getN (v := .int (xF u0 9)) hx hb hts iX_In hown hw.2.1 hw.1 6 rfl rfl 5 (by decide) (va_Nw.use rfl (hw.2.2.2 _ kX_Ar_45).2) (fun _ h => h) rfl d_XAr_withHalf_8 ?_
  refine lv_iconst (v := (2 : Int32)) hx hb d_XAr_withHalf_11 (by decide) ?_
  refine z_ri (z_runV (As := [.int (xF u0 9), .int (2 : Int32)]) (rest := []) ⟨hx, hb, hml, hown, hts⟩ (c_XMe_faultOf l D a k u0 (xF u0 9) (2 : Int32)) (qX_Ar_48 hts (by decide)) hw 2 rfl rfl hl.1 rfl (lv_room (Nat.le_of_ble_eq_true rfl)) d_XAr_withHalf_12 hcs) (fun x_1 ex_1 => ?_)
  have hf := hf.trans (nm_eq ex_1)
  refine lv_istore_n (lv' := [(2, .int x_1), (0, .ref (a 7)), (1, .ref (a 6))]) hx hb d_XAr_withHalf_15 rfl hl (by decide) rfl (fun ls hl => ?_)
  refine lv_iload_n hx hb d_XAr_withHalf_16 rfl (lv_at hl 0 rfl) ?_
  refine lv_if_eq (tgt := 22) hx hb d_XAr_withHalf_17 (by decide) (fun c_2 => ?_) (fun c_2 => ?_)
  · have hf := hf.trans (if_pos c_2)
    refine lv_aload_n hx hb d_XAr_withHalf_22 rfl (lv_at hl 1 rfl) ?_
    refine va_get (v := .ref (a 1)) hx hb hts iX_Ar hown hw.2.1 hw.1 7 rfl rfl 0 (by decide) (hts _ kX_Ar_9) (fun _ h => h) rfl d_XAr_withHalf_23 ?_
    refine va_getN (v := .ref (a 2)) hx hb hts iX_St hown hw.2.1 hw.1 1 rfl rfl 0 (by decide) (va_Nw.use rfl (hw.2.2.2 _ kX_Ar_41).2) (fun _ h => h) rfl d_XAr_withHalf_26 ?_
    refine lv_aload_n hx hb d_XAr_withHalf_29 rfl (lv_at hl 2 rfl) ?_
    refine va_getN (v := .int (xF u0 9)) hx hb hts iX_In hown hw.2.1 hw.1 6 rfl rfl 5 (by decide) (va_Nw.use rfl (hw.2.2.2 _ kX_Ar_45).2) (fun _ h => h) rfl d_XAr_withHalf_30 ?_
    refine z_ri (z_runV (As := [.int (xF u0 9)]) (rest := []) ⟨hx, hb, hml, hown, hts⟩ (c_XMe_half l D a k u0 (xF u0 9)) (qX_Ar_57 hts (by decide)) hw 2 rfl rfl hl.1 rfl (lv_room (Nat.le_of_ble_eq_true rfl)) d_XAr_withHalf_33 hcs) (fun x_3 ex_3 => ?_)
    have hf := hf.trans (nm_eq ex_3)
    refine lv_istore_n (lv' := [(3, .int x_3), (2, .int x_1), (0, .ref (a 7)), (1, .ref (a 6))]) hx hb d_XAr_withHalf_36 rfl hl (by decide) rfl (fun ls hl => ?_)
    refine lv_aload_n hx hb d_XAr_withHalf_37 rfl (lv_at hl 3 rfl) ?_
    refine va_getN (v := .int (xF u0 4)) hx hb hts iX_In hown hw.2.1 hw.1 6 rfl rfl 0 (by decide) (va_Nw.use rfl (hw.2.2.2 _ kX_Ar_15).2) (fun _ h => h) rfl d_XAr_withHalf_38 ?_
    refine lv_bipush (v := (76 : Int32)) hx hb d_XAr_withHalf_41 (by decide) ?_
    refine lv_icmp_ne (tgt := 72) hx hb d_XAr_withHalf_43 (by decide) (fun c_4 => ?_) (fun c_4 => ?_)
    · have hf := hf.trans (if_neg c_4)
      refine lv_aload_n hx hb d_XAr_withHalf_72 rfl (lv_at hl 2 rfl) ?_
      refine lv_aload_n hx hb d_XAr_withHalf_73 rfl (lv_at hl 3 rfl) ?_
      refine va_getN (v := .int (xF u0 4)) hx hb hts iX_In hown hw.2.1 hw.1 6 rfl rfl 0 (by decide) (va_Nw.use rfl (hw.2.2.2 _ kX_Ar_15).2) (fun _ h => h) rfl d_XAr_withHalf_74 ?_
      refine lv_bipush (v := (48 : Int32)) hx hb d_XAr_withHalf_77 (by decide) ?_
      refine lv_isub hx hb d_XAr_withHalf_79 ?_
      refine lv_aload_n hx hb d_XAr_withHalf_80 rfl (lv_at hl 3 rfl) ?_
      refine va_getN (v := .int (xF u0 6)) hx hb hts iX_In hown hw.2.1 hw.1 6 rfl rfl 2 (by decide) (va_Nw.use rfl (hw.2.2.2 _ kX_Ar_21).2) (fun _ h => h) rfl d_XAr_withHalf_81 ?_
      refine lv_iload_n hx hb d_XAr_withHalf_84 rfl (lv_at hl 0 rfl) ?_
      refine z_wi (z_runV (As := [.int ((xF u0 4) - (48 : Int32)), .int (xF u0 6), .int x_3]) (rest := []) ⟨hx, hb, hml, hown, hts⟩ (c_XAr_apply l D a k u0 ((xF u0 4) - (48 : Int32)) (xF u0 6) x_3) (qX_Ar_37 hts (by decide)) hw 7 rfl rfl hl.1 rfl (lv_room (Nat.le_of_ble_eq_true rfl)) d_XAr_withHalf_85 hcs) hw hS (fun x_6 u_5 H locs ex_6 hw hS => ?_)
      have hf := hf.trans (pr_eq ex_6)
      exact hret x_6 _ _ _ _ _ d_XAr_withHalf_88 hw hS hf
    · have hf := hf.trans (if_pos c_4)
      refine lv_aload_n hx hb d_XAr_withHalf_46 rfl (lv_at hl 2 rfl) ?_
      refine va_get (v := .ref (a 1)) hx hb hts iX_Ar hown hw.2.1 hw.1 7 rfl rfl 0 (by decide) (hts _ kX_Ar_9) (fun _ h => h) rfl d_XAr_withHalf_47 ?_
      refine lv_aload_n hx hb d_XAr_withHalf_50 rfl (lv_at hl 3 rfl) ?_
      refine va_getN (v := .int (xF u0 6)) hx hb hts iX_In hown hw.2.1 hw.1 6 rfl rfl 2 (by decide) (va_Nw.use rfl (hw.2.2.2 _ kX_Ar_21).2) (fun _ h => h) rfl d_XAr_withHalf_51 ?_
      refine lv_aload_n hx hb d_XAr_withHalf_54 rfl (lv_at hl 2 rfl) ?_
      refine va_get (v := .ref (a 1)) hx hb hts iX_Ar hown hw.2.1 hw.1 7 rfl rfl 0 (by decide) (hts _ kX_Ar_9) (fun _ h => h) rfl d_XAr_withHalf_55 ?_
      refine lv_aload_n hx hb d_XAr_withHalf_58 rfl (lv_at hl 3 rfl) ?_
      refine va_getN (v := .int (xF u0 6)) hx hb hts iX_In hown hw.2.1 hw.1 6 rfl rfl 2 (by decide) (va_Nw.use rfl (hw.2.2.2 _ kX_Ar_21).2) (fun _ h => h) rfl d_XAr_withHalf_59 ?_
      refine z_ri (z_runV (As := [.int (xF u0 6)]) (rest := [.int (xF u0 6), .ref (a 1)]) ⟨hx, hb, hml, hown, hts⟩ (c_XSt_value l D a k u0 (xF u0 6)) (qX_Ar_31 hts (by decide)) hw 1 rfl rfl hl.1 rfl (lv_room (Nat.le_of_ble_eq_true rfl)) d_XAr_withHalf_62 hcs) (fun x_7 ex_7 => ?_)
      have hf := hf.trans (nm_eq ex_7)
      refine lv_iload_n hx hb d_XAr_withHalf_65 rfl (lv_at hl 0 rfl) ?_
      refine lv_imul hx hb d_XAr_withHalf_66 ?_
      refine z_wv (z_runV (As := [.int (xF u0 6), .int (x_7 * x_3)]) (rest := []) ⟨hx, hb, hml, hown, hts⟩ (c_XSt_put l D a k u0 (xF u0 6) (x_7 * x_3)) (qX_Ar_60 hts (by decide)) hw 1 rfl rfl hl.1 rfl (lv_room (Nat.le_of_ble_eq_true rfl)) d_XAr_withHalf_67 hcs) hw hS (fun u_8 H locs eu_8 hw hS => ?_)
      have hf := hf.trans (nm_eq eu_8)
      refine lv_iconst (v := (0 : Int32)) hx hb d_XAr_withHalf_70 (by decide) ?_
      exact hret (0 : Int32) _ _ _ _ _ d_XAr_withHalf_71 hw hS hf
  · have hf := hf.trans (if_neg c_2)
    refine lv_iload_n hx hb d_XAr_withHalf_20 rfl (lv_at hl 0 rfl) ?_
    exact hret x_1 _ _ _ _ _ d_XAr_withHalf_21 hw hS hf
def g_XAr_shiftLeftBelowSign_21 (x2 : Int32) (K_5 : Int32 → Int32 → Int32 × XS) (x_2 : Int32) (L_14 : Int32 → Int32 → Int32 → Int32 × XS) : Int32 → Int32 → Int32 → Int32 × XS := fun x_11 x_12 x_13 => if x2 ≤ x_13 then K_5 x_11 x_12 else nm (x_11 <<< ((1 : Int32) &&& 31)) (fun (x_17 : Int32) => jn (fun (K_19 : Bool → Int32 × XS) => jn (fun (K_22 : Int32 × XS) => if x_12 = (0 : Int32) then if (x_17 &&& (-2147483648 : Int32)) = x_2 then K_19 false else K_22 else K_22) (K_19 true)) (fun (z_18 : Bool) => nm ((x_17 &&& (2147483647 : Int32)) ||| x_2) (fun (x_20 : Int32) => nm (x_13 + (1 : Int32)) (fun (x_21 : Int32) => L_14 x_20 (bI z_18) x_21))))
def f_XAr_shiftLeftBelowSign (u0 : XS) (x1 : Int32) (x2 : Int32) : Int32 × XS := nm (f_XSt_value u0 x1) (fun (x_1 : Int32) => nm (x_1 &&& (-2147483648 : Int32)) (fun (x_2 : Int32) => jn (fun (K_5 : Int32 → Int32 → Int32 × XS) => lpN ((Int32.toInt x2 - Int32.toInt (0 : Int32)).toNat + 1) (g_XAr_shiftLeftBelowSign_21 x2 K_5 x_2) (fun _ _ _ => default) x_1 (0 : Int32) (0 : Int32)) (fun (x_3 : Int32) (x_4 : Int32) => nm (f_XSt_put u0 x1 x_3) (fun (u_6 : XS) => nm (f_XSt_conditionBySign u_6 (Int32.toInt64 x_3)) (fun (u_7 : XS) => if x_4 = (0 : Int32) then ((0 : Int32), u_7) else pr (f_XSt_fixedOverflow u_7) (fun (x_10 : Int32) (u_9 : XS) => (x_10, u_9)))))))
set_option maxHeartbeats 4000000 in
set_option maxRecDepth 100000 in
theorem c_XAr_shiftLeftBelowSign (l : Launch) (D : va_G) (a : Nat → Nat) (k : Nat → ClassId) (u0 : XS) (x1 : Int32) (x2 : Int32) : zMi l y_XAr_shiftLeftBelowSign w_XAr_shiftLeftBelowSign rm_XAr_shiftLeftBelowSign D clX (tyX k) nwX (xW a k) [.ref (a 7), .int x1, .int x2] u0 (f_XAr_shiftLeftBelowSign u0 x1 x2) := by
  generalize hF : f_XAr_shiftLeftBelowSign u0 x1 x2 = F
  have hf := hF.symm
  unfold f_XAr_shiftLeftBelowSign at hf
  refine zMi_of (cc := b_XAr_shiftLeftBelowSign) (maxL := 8) (own := RX_Ar) (by decide) rfl rfl (Nat.le_of_ble_eq_true rfl) ?_
  intro p e R st m args below meth c A H locs Q ls hR hx hb hml hown hts hw hS hret hl
  subst hR
  have hcs : 0 ≤ (rm_XAr_shiftLeftBelowSign).cells ∧ 0 ≤ (rm_XAr_shiftLeftBelowSign).slots := ⟨Nat.zero_le _, Nat.zero_le _⟩
  have hl : lv_has ls 8 [(0, .ref (a 7)), (1, .int x1), (2, .int x2)] := hl
  refine lv_aload_n hx hb d_XAr_shiftLeftBelowSign_0 rfl (lv_at hl 0 rfl) ?_
  refine va_get (v := .ref (a 1)) hx hb hts iX_Ar hown hw.2.1 hw.1 7 rfl rfl 0 (by decide) (hts _ kX_Ar_9) (fun _ h => h) rfl d_XAr_shiftLeftBelowSign_1 ?_
  refine lv_iload_n hx hb d_XAr_shiftLeftBelowSign_4 rfl (lv_at hl 1 rfl) ?_
  refine z_ri (z_runV (As := [.int x1]) (rest := []) ⟨hx, hb, hml, hown, hts⟩ (c_XSt_value l D a k u0 x1) (qX_Ar_31 hts (by decide)) hw 1 rfl rfl hl.1 rfl (lv_room (Nat.le_of_ble_eq_true rfl)) d_XAr_shiftLeftBelowSign_5 hcs) (fun x_1 ex_1 => ?_)
  have hf := hf.trans (nm_eq ex_1)
  refine lv_istore_n (lv' := [(3, .int x_1), (0, .ref (a 7)), (1, .int x1), (2, .int x2)]) hx hb d_XAr_shiftLeftBelowSign_8 rfl hl (by decide) rfl (fun ls hl => ?_)
  refine lv_iload_n hx hb d_XAr_shiftLeftBelowSign_9 rfl (lv_at hl 0 rfl) ?_
  refine lv_ldc (v := (-2147483648 : Int32)) hx hb hown (hts _ kX_Ar_113) d_XAr_shiftLeftBelowSign_10 ?_
  refine lv_iand hx hb d_XAr_shiftLeftBelowSign_12 ?_
  refine lv_topi (fun x_2 ex_2 => ?_)
  have hf := hf.trans (nm_eq ex_2)
  refine lv_istore (lv' := [(4, .int x_2), (3, .int x_1), (0, .ref (a 7)), (1, .int x1), (2, .int x2)]) hx hb d_XAr_shiftLeftBelowSign_13 hl (by decide) rfl (fun ls hl => ?_)
  refine lv_iconst (v := (0 : Int32)) hx hb d_XAr_shiftLeftBelowSign_15 (by decide) ?_
  refine lv_istore (lv' := [(5, .int (0 : Int32)), (4, .int x_2), (3, .int x_1), (0, .ref (a 7)), (1, .int x1), (2, .int x2)]) hx hb d_XAr_shiftLeftBelowSign_16 hl (by decide) rfl (fun ls hl => ?_)
  refine lv_iconst (v := (0 : Int32)) hx hb d_XAr_shiftLeftBelowSign_18 (by decide) ?_
  refine lv_istore (lv' := [(6, .int (0 : Int32)), (5, .int (0 : Int32)), (4, .int x_2), (3, .int x_1), (0, .ref (a 7)), (1, .int x1), (2, .int x2)]) hx hb d_XAr_shiftLeftBelowSign_19 hl (by decide) rfl (fun ls hl => ?_)
  refine jn_cut hf (fun (K_5 : Int32 → Int32 → Int32 × XS) => ∀ (x_3 : Int32) (x_4 : Int32), ∀ (ls : Array Slot), lv_has ls 8 [(0, .ref (a 7)), (1, .int x1), (3, .int x_3), (5, .int x_4)] → F = K_5 x_3 x_4 → W p l e rm_XAr_shiftLeftBelowSign st m args below meth c H locs 0 0 Q (F0 m 69 ls [])) ?_ ?_
  · intro x_3 x_4 ls hl hf
    refine lv_aload_n hx hb d_XAr_shiftLeftBelowSign_69 rfl (lv_at hl 0 rfl) ?_
    refine va_get (v := .ref (a 1)) hx hb hts iX_Ar hown hw.2.1 hw.1 7 rfl rfl 0 (by decide) (hts _ kX_Ar_9) (fun _ h => h) rfl d_XAr_shiftLeftBelowSign_70 ?_
    refine lv_iload_n hx hb d_XAr_shiftLeftBelowSign_73 rfl (lv_at hl 1 rfl) ?_
    refine lv_iload_n hx hb d_XAr_shiftLeftBelowSign_74 rfl (lv_at hl 2 rfl) ?_
    refine z_wv (z_runV (As := [.int x1, .int x_3]) (rest := []) ⟨hx, hb, hml, hown, hts⟩ (c_XSt_put l D a k u0 x1 x_3) (qX_Ar_60 hts (by decide)) hw 1 rfl rfl hl.1 rfl (lv_room (Nat.le_of_ble_eq_true rfl)) d_XAr_shiftLeftBelowSign_75 hcs) hw hS (fun u_6 H locs eu_6 hw hS => ?_)
    have hf := hf.trans (nm_eq eu_6)
    refine lv_aload_n hx hb d_XAr_shiftLeftBelowSign_78 rfl (lv_at hl 0 rfl) ?_
    refine va_get (v := .ref (a 1)) hx hb hts iX_Ar hown hw.2.1 hw.1 7 rfl rfl 0 (by decide) (hts _ kX_Ar_9) (fun _ h => h) rfl d_XAr_shiftLeftBelowSign_79 ?_
    refine lv_iload_n hx hb d_XAr_shiftLeftBelowSign_82 rfl (lv_at hl 2 rfl) ?_
    refine lv_i2l (v := Int32.toInt64 x_3) hx hb d_XAr_shiftLeftBelowSign_83 rfl ?_
    refine z_wv (z_runV (As := [.long (Int32.toInt64 x_3)]) (rest := []) ⟨hx, hb, hml, hown, hts⟩ (c_XSt_conditionBySign l D a k u_6 (Int32.toInt64 x_3)) (qX_Ar_98 hts (by decide)) hw 1 rfl rfl hl.1 rfl (lv_room (Nat.le_of_ble_eq_true rfl)) d_XAr_shiftLeftBelowSign_84 hcs) hw hS (fun u_7 H locs eu_7 hw hS => ?_)
    have hf := hf.trans (nm_eq eu_7)
    refine lv_iload hx hb d_XAr_shiftLeftBelowSign_87 (lv_at hl 3 rfl) ?_
    refine lv_if_eq (tgt := 102) hx hb d_XAr_shiftLeftBelowSign_89 (by decide) (fun c_8 => ?_) (fun c_8 => ?_)
    · have hf := hf.trans (if_pos c_8)
      refine lv_iconst (v := (0 : Int32)) hx hb d_XAr_shiftLeftBelowSign_102 (by decide) ?_
      exact hret (0 : Int32) _ _ _ _ _ d_XAr_shiftLeftBelowSign_103 hw hS hf
    · have hf := hf.trans (if_neg c_8)
      refine lv_aload_n hx hb d_XAr_shiftLeftBelowSign_92 rfl (lv_at hl 0 rfl) ?_
      refine va_get (v := .ref (a 1)) hx hb hts iX_Ar hown hw.2.1 hw.1 7 rfl rfl 0 (by decide) (hts _ kX_Ar_9) (fun _ h => h) rfl d_XAr_shiftLeftBelowSign_93 ?_
      refine z_wi (z_runV (As := []) (rest := []) ⟨hx, hb, hml, hown, hts⟩ (c_XSt_fixedOverflow l D a k u_7) (qX_Ar_106 hts (by decide)) hw 1 rfl rfl hl.1 rfl (lv_room (Nat.le_of_ble_eq_true rfl)) d_XAr_shiftLeftBelowSign_96 hcs) hw hS (fun x_10 u_9 H locs ex_10 hw hS => ?_)
      have hf := hf.trans (pr_eq ex_10)
      refine lv_goto (tgt := 103) hx hb d_XAr_shiftLeftBelowSign_99 (by decide) ?_
      exact hret x_10 _ _ _ _ _ d_XAr_shiftLeftBelowSign_103 hw hS hf
  · intro K_5 hK_5 hf
    refine lp_cut (fun (n_15 : Nat) (L_14 : Int32 → Int32 → Int32 → Int32 × XS) => ∀ (x_11 : Int32) (x_12 : Int32) (x_13 : Int32), (Int32.toInt x2 - Int32.toInt x_13).toNat < n_15 → ∀ (ls : Array Slot), lv_has ls 8 [(0, .ref (a 7)), (1, .int x1), (2, .int x2), (3, .int x_11), (4, .int x_2), (5, .int x_12), (6, .int x_13)] → F = L_14 x_11 x_12 x_13 → W p l e rm_XAr_shiftLeftBelowSign st m args below meth c H locs 0 0 Q (F0 m 21 ls [])) ?_ ?_ ((Int32.toInt x2 - Int32.toInt (0 : Int32)).toNat + 1) x_1 (0 : Int32) (0 : Int32) (Nat.lt_succ_self _) _ (lv_sub hl [4, 5, 6, 3, 2, 1, 0] rfl) hf
    · intro x_11 x_12 x_13 hn; exact absurd hn (Nat.not_lt_zero _)
    · intro n_15 L_14 hL_14 x_11 x_12 x_13 hn ls hl hf
      unfold g_XAr_shiftLeftBelowSign_21 at hf
      refine lv_iload hx hb d_XAr_shiftLeftBelowSign_21 (lv_at hl 6 rfl) ?_
      refine lv_iload_n hx hb d_XAr_shiftLeftBelowSign_23 rfl (lv_at hl 2 rfl) ?_
      refine lv_icmp_ge (tgt := 69) hx hb d_XAr_shiftLeftBelowSign_24 (by decide) (fun c_16 => ?_) (fun c_16 => ?_)
      · have hf := hf.trans (if_pos c_16)
        exact hK_5 x_11 x_12 _ (lv_sub hl [0, 1, 3, 5] rfl) hf
      · have hf := hf.trans (if_neg c_16)
        refine lv_iload_n hx hb d_XAr_shiftLeftBelowSign_27 rfl (lv_at hl 3 rfl) ?_
        refine lv_iconst (v := (1 : Int32)) hx hb d_XAr_shiftLeftBelowSign_28 (by decide) ?_
        refine lv_ishl hx hb d_XAr_shiftLeftBelowSign_29 ?_
        refine lv_topi (fun x_17 ex_17 => ?_)
        have hf := hf.trans (nm_eq ex_17)
        refine lv_istore (lv' := [(7, .int x_17), (0, .ref (a 7)), (1, .int x1), (2, .int x2), (3, .int x_11), (4, .int x_2), (5, .int x_12), (6, .int x_13)]) hx hb d_XAr_shiftLeftBelowSign_30 hl (by decide) rfl (fun ls hl => ?_)
        refine lv_iload hx hb d_XAr_shiftLeftBelowSign_32 (lv_at hl 6 rfl) ?_
        refine jn_cut hf (fun (K_19 : Bool → Int32 × XS) => ∀ (z_18 : Bool), ∀ (ls : Array Slot), lv_has ls 8 [(0, .ref (a 7)), (1, .int x1), (2, .int x2), (4, .int x_2), (6, .int x_13), (7, .int x_17)] → F = K_19 z_18 → W p l e rm_XAr_shiftLeftBelowSign st m args below meth c H locs 0 0 Q (F0 m 52 ls [.int (bI z_18)])) ?_ ?_
        · intro z_18 ls hl hf
          refine lv_istore (lv' := [(5, .int (bI z_18)), (0, .ref (a 7)), (1, .int x1), (2, .int x2), (4, .int x_2), (6, .int x_13), (7, .int x_17)]) hx hb d_XAr_shiftLeftBelowSign_52 hl (by decide) rfl (fun ls hl => ?_)
          refine lv_iload hx hb d_XAr_shiftLeftBelowSign_54 (lv_at hl 6 rfl) ?_
          refine lv_ldc (v := (2147483647 : Int32)) hx hb hown (hts _ kX_Ar_114) d_XAr_shiftLeftBelowSign_56 ?_
          refine lv_iand hx hb d_XAr_shiftLeftBelowSign_58 ?_
          refine lv_iload hx hb d_XAr_shiftLeftBelowSign_59 (lv_at hl 4 rfl) ?_
          refine lv_ior hx hb d_XAr_shiftLeftBelowSign_61 ?_
          refine lv_topi (fun x_20 ex_20 => ?_)
          have hf := hf.trans (nm_eq ex_20)
          refine lv_istore_n (lv' := [(3, .int x_20), (5, .int (bI z_18)), (0, .ref (a 7)), (1, .int x1), (2, .int x2), (4, .int x_2), (6, .int x_13), (7, .int x_17)]) hx hb d_XAr_shiftLeftBelowSign_62 rfl hl (by decide) rfl (fun ls hl => ?_)
          obtain ⟨x_21, ex_21⟩ : ∃ y : Int32, y = x_13 + (1 : Int32) := ⟨_, rfl⟩
          have hf := hf.trans (nm_eq ex_21)
          refine lv_iinc (v := x_21) (lv' := [(6, .int x_21), (3, .int x_20), (5, .int (bI z_18)), (0, .ref (a 7)), (1, .int x1), (2, .int x2), (4, .int x_2), (7, .int x_17)]) hx hb d_XAr_shiftLeftBelowSign_63 hl (k := 6) rfl (by rw [ex_21]; rfl) (by decide) rfl (fun ls hl => ?_)
          refine lv_goto (tgt := 21) hx hb d_XAr_shiftLeftBelowSign_66 (by decide) ?_
          exact hL_14 x_20 (bI z_18) x_21 (mu_up c_16 ex_21 hn) _ (lv_sub hl [3, 4, 5, 1, 6, 2, 0] rfl) hf
        · intro K_19 hK_19 hf
          refine jn_cut hf (fun (K_22 : Int32 × XS) => ∀ (ls : Array Slot), lv_has ls 8 [(0, .ref (a 7)), (1, .int x1), (2, .int x2), (4, .int x_2), (6, .int x_13), (7, .int x_17)] → F = K_22 → W p l e rm_XAr_shiftLeftBelowSign st m args below meth c H locs 0 0 Q (F0 m 47 ls [])) ?_ ?_
          · intro ls hl hf
            refine lv_iconst (v := (1 : Int32)) hx hb d_XAr_shiftLeftBelowSign_47 (by decide) ?_
            refine lv_goto (tgt := 52) hx hb d_XAr_shiftLeftBelowSign_48 (by decide) ?_
            exact hK_19 true _ (lv_sub hl [0, 1, 2, 3, 4, 5] rfl) hf
          · intro K_22 hK_22 hf
            refine lv_if_ne (tgt := 47) hx hb d_XAr_shiftLeftBelowSign_34 (by decide) (fun c_23 => ?_) (fun c_23 => ?_)
            · have hf := hf.trans (if_neg c_23)
              exact hK_22 _ (lv_sub hl [1, 2, 3, 5, 7, 0] rfl) hf
            · have hf := hf.trans (if_pos c_23)
              refine lv_iload hx hb d_XAr_shiftLeftBelowSign_37 (lv_at hl 0 rfl) ?_
              refine lv_ldc (v := (-2147483648 : Int32)) hx hb hown (hts _ kX_Ar_113) d_XAr_shiftLeftBelowSign_39 ?_
              refine lv_iand hx hb d_XAr_shiftLeftBelowSign_41 ?_
              refine lv_iload hx hb d_XAr_shiftLeftBelowSign_42 (lv_at hl 5 rfl) ?_
              refine lv_icmp_eq (tgt := 51) hx hb d_XAr_shiftLeftBelowSign_44 (by decide) (fun c_24 => ?_) (fun c_24 => ?_)
              · have hf := hf.trans (if_pos c_24)
                refine lv_iconst (v := (0 : Int32)) hx hb d_XAr_shiftLeftBelowSign_51 (by decide) ?_
                exact hK_19 false _ (lv_sub hl [1, 2, 3, 5, 7, 0] rfl) hf
              · have hf := hf.trans (if_neg c_24)
                exact hK_22 _ (lv_sub hl [1, 2, 3, 5, 7, 0] rfl) hf
def f_XAr_shift (u0 : XS)  : Int32 × XS := nm ((xF u0 9) &&& (63 : Int32)) (fun (x_1 : Int32) => nm (f_XSt_value u0 (xF u0 6)) (fun (x_2 : Int32) => nm (xF u0 4) (fun (x_3 : Int32) => if x_3 = (136 : Int32) then pr (f_XAr_load u0 (xF u0 6) (Int64.toInt32 ((Int64.toUInt64 ((Int32.toInt64 x_2) &&& (4294967295 : Int64)) >>> ((Int32.toInt64 x_1).toUInt64 &&& Int64.toUInt64 63)).toInt64))) (fun (x_6 : Int32) (u_5 : XS) => (x_6, u_5)) else if x_3 = (137 : Int32) then pr (f_XAr_load u0 (xF u0 6) (Int64.toInt32 (((Int32.toInt64 x_2) &&& (4294967295 : Int64)) <<< (Int32.toInt64 x_1 &&& 63)))) (fun (x_9 : Int32) (u_8 : XS) => (x_9, u_8)) else if x_3 = (138 : Int32) then pr (f_XAr_putSigned u0 (xF u0 6) ((Int32.toInt64 x_2) >>> (Int32.toInt64 x_1 &&& 63))) (fun (x_12 : Int32) (u_11 : XS) => (x_12, u_11)) else pr (f_XAr_shiftLeftBelowSign u0 (xF u0 6) x_1) (fun (x_14 : Int32) (u_13 : XS) => (x_14, u_13)))))
set_option maxHeartbeats 4000000 in
set_option maxRecDepth 100000 in
theorem c_XAr_shift (l : Launch) (D : va_G) (a : Nat → Nat) (k : Nat → ClassId) (u0 : XS)  : zMi l y_XAr_shift w_XAr_shift rm_XAr_shift D clX (tyX k) nwX (xW a k) [.ref (a 7), .ref (a 6)] u0 (f_XAr_shift u0) := by
  generalize hF : f_XAr_shift u0 = F
  have hf := hF.symm
  unfold f_XAr_shift at hf
  refine zMi_of (cc := b_XAr_shift) (maxL := 4) (own := RX_Ar) (by decide) rfl rfl (Nat.le_of_ble_eq_true rfl) ?_
  intro p e R st m args below meth c A H locs Q ls hR hx hb hml hown hts hw hS hret hl
  subst hR
  have hcs : 0 ≤ (rm_XAr_shift).cells ∧ 0 ≤ (rm_XAr_shift).slots := ⟨Nat.zero_le _, Nat.zero_le _⟩
  have hl : lv_has ls 4 [(0, .ref (a 7)), (1, .ref (a 6))] := hl
  refine lv_aload_n hx hb d_XAr_shift_0 rfl (lv_at hl 1 rfl) ?_
  refine va_getN (v := .int (xF u0 9)) hx hb hts iX_In hown hw.2.1 hw.1 6 rfl rfl 5 (by decide) (va_Nw.use rfl (hw.2.2.2 _ kX_Ar_45).2) (fun _ h => h) rfl d_XAr_shift_1 ?_
  refine lv_bipush (v := (63 : Int32)) hx hb d_XAr_shift_4 (by decide) ?_
  refine lv_iand hx hb d_XAr_shift_6 ?_
  refine lv_topi (fun x_1 ex_1 => ?_)
  have hf := hf.trans (nm_eq ex_1)
  refine lv_istore_n (lv' := [(2, .int x_1), (0, .ref (a 7)), (1, .ref (a 6))]) hx hb d_XAr_shift_7 rfl hl (by decide) rfl (fun ls hl => ?_)
  refine lv_aload_n hx hb d_XAr_shift_8 rfl (lv_at hl 1 rfl) ?_
  refine va_get (v := .ref (a 1)) hx hb hts iX_Ar hown hw.2.1 hw.1 7 rfl rfl 0 (by decide) (hts _ kX_Ar_9) (fun _ h => h) rfl d_XAr_shift_9 ?_
  refine lv_aload_n hx hb d_XAr_shift_12 rfl (lv_at hl 2 rfl) ?_
  refine va_getN (v := .int (xF u0 6)) hx hb hts iX_In hown hw.2.1 hw.1 6 rfl rfl 2 (by decide) (va_Nw.use rfl (hw.2.2.2 _ kX_Ar_21).2) (fun _ h => h) rfl d_XAr_shift_13 ?_
  refine z_ri (z_runV (As := [.int (xF u0 6)]) (rest := []) ⟨hx, hb, hml, hown, hts⟩ (c_XSt_value l D a k u0 (xF u0 6)) (qX_Ar_31 hts (by decide)) hw 1 rfl rfl hl.1 rfl (lv_room (Nat.le_of_ble_eq_true rfl)) d_XAr_shift_16 hcs) (fun x_2 ex_2 => ?_)
  have hf := hf.trans (nm_eq ex_2)
  refine lv_istore_n (lv' := [(3, .int x_2), (2, .int x_1), (0, .ref (a 7)), (1, .ref (a 6))]) hx hb d_XAr_shift_19 rfl hl (by decide) rfl (fun ls hl => ?_)
  refine lv_aload_n hx hb d_XAr_shift_20 rfl (lv_at hl 3 rfl) ?_
  refine va_getN (v := .int (xF u0 4)) hx hb hts iX_In hown hw.2.1 hw.1 6 rfl rfl 0 (by decide) (va_Nw.use rfl (hw.2.2.2 _ kX_Ar_15).2) (fun _ h => h) rfl d_XAr_shift_21 ?_
  refine lv_topi (fun x_3 ex_3 => ?_)
  have hf := hf.trans (nm_eq ex_3)
  by_cases c_4 : x_3 = (136 : Int32)
  · have hf := hf.trans (if_pos c_4)
    refine lv_tableIn (off := 28) (tgt := 52) hx hb d_XAr_shift_24 (by rw [c_4]; decide +kernel) (by rw [c_4]; decide +kernel) (by rw [c_4]; decide +kernel) (by decide) ?_
    refine lv_aload_n hx hb d_XAr_shift_52 rfl (lv_at hl 2 rfl) ?_
    refine lv_aload_n hx hb d_XAr_shift_53 rfl (lv_at hl 3 rfl) ?_
    refine va_getN (v := .int (xF u0 6)) hx hb hts iX_In hown hw.2.1 hw.1 6 rfl rfl 2 (by decide) (va_Nw.use rfl (hw.2.2.2 _ kX_Ar_21).2) (fun _ h => h) rfl d_XAr_shift_54 ?_
    refine lv_iload_n hx hb d_XAr_shift_57 rfl (lv_at hl 0 rfl) ?_
    refine lv_i2l (v := Int32.toInt64 x_2) hx hb d_XAr_shift_58 rfl ?_
    refine lv_ldc2 (v := (4294967295 : Int64)) hx hb hown (hts _ kX_Ar_64) d_XAr_shift_59 ?_
    refine lv_land hx hb d_XAr_shift_62 ?_
    refine lv_iload_n hx hb d_XAr_shift_63 rfl (lv_at hl 1 rfl) ?_
    refine lv_lushr (v := (Int64.toUInt64 ((Int32.toInt64 x_2) &&& (4294967295 : Int64)) >>> ((Int32.toInt64 x_1).toUInt64 &&& Int64.toUInt64 63)).toInt64) hx hb d_XAr_shift_64 rfl ?_
    refine lv_l2i (v := Int64.toInt32 ((Int64.toUInt64 ((Int32.toInt64 x_2) &&& (4294967295 : Int64)) >>> ((Int32.toInt64 x_1).toUInt64 &&& Int64.toUInt64 63)).toInt64)) hx hb d_XAr_shift_65 rfl ?_
    refine z_wi (z_runV (As := [.int (xF u0 6), .int (Int64.toInt32 ((Int64.toUInt64 ((Int32.toInt64 x_2) &&& (4294967295 : Int64)) >>> ((Int32.toInt64 x_1).toUInt64 &&& Int64.toUInt64 63)).toInt64))]) (rest := []) ⟨hx, hb, hml, hown, hts⟩ (c_XAr_load l D a k u0 (xF u0 6) (Int64.toInt32 ((Int64.toUInt64 ((Int32.toInt64 x_2) &&& (4294967295 : Int64)) >>> ((Int32.toInt64 x_1).toUInt64 &&& Int64.toUInt64 63)).toInt64))) (qX_Ar_66 hts (by decide)) hw 7 rfl rfl hl.1 rfl (lv_room (Nat.le_of_ble_eq_true rfl)) d_XAr_shift_66 hcs) hw hS (fun x_6 u_5 H locs ex_6 hw hS => ?_)
    have hf := hf.trans (pr_eq ex_6)
    exact hret x_6 _ _ _ _ _ d_XAr_shift_69 hw hS hf
  have hf := hf.trans (if_neg c_4)
  by_cases c_7 : x_3 = (137 : Int32)
  · have hf := hf.trans (if_pos c_7)
    refine lv_tableIn (off := 46) (tgt := 70) hx hb d_XAr_shift_24 (by rw [c_7]; decide +kernel) (by rw [c_7]; decide +kernel) (by rw [c_7]; decide +kernel) (by decide) ?_
    refine lv_aload_n hx hb d_XAr_shift_70 rfl (lv_at hl 2 rfl) ?_
    refine lv_aload_n hx hb d_XAr_shift_71 rfl (lv_at hl 3 rfl) ?_
    refine va_getN (v := .int (xF u0 6)) hx hb hts iX_In hown hw.2.1 hw.1 6 rfl rfl 2 (by decide) (va_Nw.use rfl (hw.2.2.2 _ kX_Ar_21).2) (fun _ h => h) rfl d_XAr_shift_72 ?_
    refine lv_iload_n hx hb d_XAr_shift_75 rfl (lv_at hl 0 rfl) ?_
    refine lv_i2l (v := Int32.toInt64 x_2) hx hb d_XAr_shift_76 rfl ?_
    refine lv_ldc2 (v := (4294967295 : Int64)) hx hb hown (hts _ kX_Ar_64) d_XAr_shift_77 ?_
    refine lv_land hx hb d_XAr_shift_80 ?_
    refine lv_iload_n hx hb d_XAr_shift_81 rfl (lv_at hl 1 rfl) ?_
    refine lv_lshl (v := ((Int32.toInt64 x_2) &&& (4294967295 : Int64)) <<< (Int32.toInt64 x_1 &&& 63)) hx hb d_XAr_shift_82 rfl ?_
    refine lv_l2i (v := Int64.toInt32 (((Int32.toInt64 x_2) &&& (4294967295 : Int64)) <<< (Int32.toInt64 x_1 &&& 63))) hx hb d_XAr_shift_83 rfl ?_
    refine z_wi (z_runV (As := [.int (xF u0 6), .int (Int64.toInt32 (((Int32.toInt64 x_2) &&& (4294967295 : Int64)) <<< (Int32.toInt64 x_1 &&& 63)))]) (rest := []) ⟨hx, hb, hml, hown, hts⟩ (c_XAr_load l D a k u0 (xF u0 6) (Int64.toInt32 (((Int32.toInt64 x_2) &&& (4294967295 : Int64)) <<< (Int32.toInt64 x_1 &&& 63)))) (qX_Ar_66 hts (by decide)) hw 7 rfl rfl hl.1 rfl (lv_room (Nat.le_of_ble_eq_true rfl)) d_XAr_shift_84 hcs) hw hS (fun x_9 u_8 H locs ex_9 hw hS => ?_)
    have hf := hf.trans (pr_eq ex_9)
    exact hret x_9 _ _ _ _ _ d_XAr_shift_87 hw hS hf
  have hf := hf.trans (if_neg c_7)
  by_cases c_10 : x_3 = (138 : Int32)
  · have hf := hf.trans (if_pos c_10)
    refine lv_tableIn (off := 64) (tgt := 88) hx hb d_XAr_shift_24 (by rw [c_10]; decide +kernel) (by rw [c_10]; decide +kernel) (by rw [c_10]; decide +kernel) (by decide) ?_
    refine lv_aload_n hx hb d_XAr_shift_88 rfl (lv_at hl 2 rfl) ?_
    refine lv_aload_n hx hb d_XAr_shift_89 rfl (lv_at hl 3 rfl) ?_
    refine va_getN (v := .int (xF u0 6)) hx hb hts iX_In hown hw.2.1 hw.1 6 rfl rfl 2 (by decide) (va_Nw.use rfl (hw.2.2.2 _ kX_Ar_21).2) (fun _ h => h) rfl d_XAr_shift_90 ?_
    refine lv_iload_n hx hb d_XAr_shift_93 rfl (lv_at hl 0 rfl) ?_
    refine lv_i2l (v := Int32.toInt64 x_2) hx hb d_XAr_shift_94 rfl ?_
    refine lv_iload_n hx hb d_XAr_shift_95 rfl (lv_at hl 1 rfl) ?_
    refine lv_lshr (v := (Int32.toInt64 x_2) >>> (Int32.toInt64 x_1 &&& 63)) hx hb d_XAr_shift_96 rfl ?_
    refine z_wi (z_runV (As := [.int (xF u0 6), .long ((Int32.toInt64 x_2) >>> (Int32.toInt64 x_1 &&& 63))]) (rest := []) ⟨hx, hb, hml, hown, hts⟩ (c_XAr_putSigned l D a k u0 (xF u0 6) ((Int32.toInt64 x_2) >>> (Int32.toInt64 x_1 &&& 63))) (qX_Ar_69 hts (by decide)) hw 7 rfl rfl hl.1 rfl (lv_room (Nat.le_of_ble_eq_true rfl)) d_XAr_shift_97 hcs) hw hS (fun x_12 u_11 H locs ex_12 hw hS => ?_)
    have hf := hf.trans (pr_eq ex_12)
    exact hret x_12 _ _ _ _ _ d_XAr_shift_100 hw hS hf
  have hf := hf.trans (if_neg c_10)
  refine lv_tableOut (tgt := 101) hx hb d_XAr_shift_24 (by have := lv_neT c_4 (a := 136) (by decide +kernel); have := lv_neT c_7 (a := 137) (by decide +kernel); have := lv_neT c_10 (a := 138) (by decide +kernel); omega) (by decide) ?_
  refine lv_aload_n hx hb d_XAr_shift_101 rfl (lv_at hl 2 rfl) ?_
  refine lv_aload_n hx hb d_XAr_shift_102 rfl (lv_at hl 3 rfl) ?_
  refine va_getN (v := .int (xF u0 6)) hx hb hts iX_In hown hw.2.1 hw.1 6 rfl rfl 2 (by decide) (va_Nw.use rfl (hw.2.2.2 _ kX_Ar_21).2) (fun _ h => h) rfl d_XAr_shift_103 ?_
  refine lv_iload_n hx hb d_XAr_shift_106 rfl (lv_at hl 1 rfl) ?_
  refine z_wi (z_runV (As := [.int (xF u0 6), .int x_1]) (rest := []) ⟨hx, hb, hml, hown, hts⟩ (c_XAr_shiftLeftBelowSign l D a k u0 (xF u0 6) x_1) (qX_Ar_73 hts (by decide)) hw 7 rfl rfl hl.1 rfl (lv_room (Nat.le_of_ble_eq_true rfl)) d_XAr_shift_107 hcs) hw hS (fun x_14 u_13 H locs ex_14 hw hS => ?_)
  have hf := hf.trans (pr_eq ex_14)
  exact hret x_14 _ _ _ _ _ d_XAr_shift_110 hw hS hf
end
section
def f_XBr_isAboveAfterStep (u0 : XS)  : Bool × XS := nm (f_XSt_value u0 ((xF u0 7) ||| (1 : Int32))) (fun (x_1 : Int32) => nm (f_XSt_value u0 (xF u0 6)) (fun (x_2 : Int32) => nm (f_XSt_value u0 (xF u0 7)) (fun (x_3 : Int32) => nm (x_2 + x_3) (fun (x_4 : Int32) => nm (f_XSt_put u0 (xF u0 6) x_4) (fun (u_5 : XS) => if x_4 ≤ x_1 then (false, u_5) else (true, u_5))))))
set_option maxHeartbeats 4000000 in
set_option maxRecDepth 100000 in
theorem c_XBr_isAboveAfterStep (l : Launch) (D : va_G) (a : Nat → Nat) (k : Nat → ClassId) (u0 : XS)  : zMz l y_XBr_isAboveAfterStep w_XBr_isAboveAfterStep rm_XBr_isAboveAfterStep D clX (tyX k) nwX (xW a k) [.ref (a 9), .ref (a 6)] u0 (f_XBr_isAboveAfterStep u0) := by
  generalize hF : f_XBr_isAboveAfterStep u0 = F
  have hf := hF.symm
  unfold f_XBr_isAboveAfterStep at hf
  refine zMz_of (cc := b_XBr_isAboveAfterStep) (maxL := 4) (own := RX_Br) (by decide) rfl rfl (Nat.le_of_ble_eq_true rfl) ?_
  intro p e R st m args below meth c A H locs Q ls hR hx hb hml hown hts hw hS hret hl
  subst hR
  have hcs : 0 ≤ (rm_XBr_isAboveAfterStep).cells ∧ 0 ≤ (rm_XBr_isAboveAfterStep).slots := ⟨Nat.zero_le _, Nat.zero_le _⟩
  have hl : lv_has ls 4 [(0, .ref (a 9)), (1, .ref (a 6))] := hl
  refine lv_aload_n hx hb d_XBr_isAboveAfterStep_0 rfl (lv_at hl 0 rfl) ?_
  refine va_get (v := .ref (a 1)) hx hb hts iX_Br hown hw.2.1 hw.1 9 rfl rfl 0 (by decide) (hts _ kX_Br_9) (fun _ h => h) rfl d_XBr_isAboveAfterStep_1 ?_
  refine lv_aload_n hx hb d_XBr_isAboveAfterStep_4 rfl (lv_at hl 1 rfl) ?_
  refine va_getN (v := .int (xF u0 7)) hx hb hts iX_In hown hw.2.1 hw.1 6 rfl rfl 3 (by decide) (va_Nw.use rfl (hw.2.2.2 _ kX_Br_21).2) (fun _ h => h) rfl d_XBr_isAboveAfterStep_5 ?_
  refine lv_iconst (v := (1 : Int32)) hx hb d_XBr_isAboveAfterStep_8 (by decide) ?_
  refine lv_ior hx hb d_XBr_isAboveAfterStep_9 ?_
  refine z_ri (z_runV (As := [.int ((xF u0 7) ||| (1 : Int32))]) (rest := []) ⟨hx, hb, hml, hown, hts⟩ (c_XSt_value l D a k u0 ((xF u0 7) ||| (1 : Int32))) (qX_Br_24 hts (by decide)) hw 1 rfl rfl hl.1 rfl (lv_room (Nat.le_of_ble_eq_true rfl)) d_XBr_isAboveAfterStep_10 hcs) (fun x_1 ex_1 => ?_)
  have hf := hf.trans (nm_eq ex_1)
  refine lv_istore_n (lv' := [(2, .int x_1), (0, .ref (a 9)), (1, .ref (a 6))]) hx hb d_XBr_isAboveAfterStep_13 rfl hl (by decide) rfl (fun ls hl => ?_)
  refine lv_aload_n hx hb d_XBr_isAboveAfterStep_14 rfl (lv_at hl 1 rfl) ?_
  refine va_get (v := .ref (a 1)) hx hb hts iX_Br hown hw.2.1 hw.1 9 rfl rfl 0 (by decide) (hts _ kX_Br_9) (fun _ h => h) rfl d_XBr_isAboveAfterStep_15 ?_
  refine lv_aload_n hx hb d_XBr_isAboveAfterStep_18 rfl (lv_at hl 2 rfl) ?_
  refine va_getN (v := .int (xF u0 6)) hx hb hts iX_In hown hw.2.1 hw.1 6 rfl rfl 2 (by decide) (va_Nw.use rfl (hw.2.2.2 _ kX_Br_41).2) (fun _ h => h) rfl d_XBr_isAboveAfterStep_19 ?_
  refine z_ri (z_runV (As := [.int (xF u0 6)]) (rest := []) ⟨hx, hb, hml, hown, hts⟩ (c_XSt_value l D a k u0 (xF u0 6)) (qX_Br_24 hts (by decide)) hw 1 rfl rfl hl.1 rfl (lv_room (Nat.le_of_ble_eq_true rfl)) d_XBr_isAboveAfterStep_22 hcs) (fun x_2 ex_2 => ?_)
  have hf := hf.trans (nm_eq ex_2)
  refine lv_aload_n hx hb d_XBr_isAboveAfterStep_25 rfl (lv_at hl 1 rfl) ?_
  refine va_get (v := .ref (a 1)) hx hb hts iX_Br hown hw.2.1 hw.1 9 rfl rfl 0 (by decide) (hts _ kX_Br_9) (fun _ h => h) rfl d_XBr_isAboveAfterStep_26 ?_
  refine lv_aload_n hx hb d_XBr_isAboveAfterStep_29 rfl (lv_at hl 2 rfl) ?_
  refine va_getN (v := .int (xF u0 7)) hx hb hts iX_In hown hw.2.1 hw.1 6 rfl rfl 3 (by decide) (va_Nw.use rfl (hw.2.2.2 _ kX_Br_21).2) (fun _ h => h) rfl d_XBr_isAboveAfterStep_30 ?_
  refine z_ri (z_runV (As := [.int (xF u0 7)]) (rest := [.int x_2]) ⟨hx, hb, hml, hown, hts⟩ (c_XSt_value l D a k u0 (xF u0 7)) (qX_Br_24 hts (by decide)) hw 1 rfl rfl hl.1 rfl (lv_room (Nat.le_of_ble_eq_true rfl)) d_XBr_isAboveAfterStep_33 hcs) (fun x_3 ex_3 => ?_)
  have hf := hf.trans (nm_eq ex_3)
  refine lv_iadd hx hb d_XBr_isAboveAfterStep_36 ?_
  refine lv_topi (fun x_4 ex_4 => ?_)
  have hf := hf.trans (nm_eq ex_4)
  refine lv_istore_n (lv' := [(3, .int x_4), (2, .int x_1), (0, .ref (a 9)), (1, .ref (a 6))]) hx hb d_XBr_isAboveAfterStep_37 rfl hl (by decide) rfl (fun ls hl => ?_)
  refine lv_aload_n hx hb d_XBr_isAboveAfterStep_38 rfl (lv_at hl 2 rfl) ?_
  refine va_get (v := .ref (a 1)) hx hb hts iX_Br hown hw.2.1 hw.1 9 rfl rfl 0 (by decide) (hts _ kX_Br_9) (fun _ h => h) rfl d_XBr_isAboveAfterStep_39 ?_
  refine lv_aload_n hx hb d_XBr_isAboveAfterStep_42 rfl (lv_at hl 3 rfl) ?_
  refine va_getN (v := .int (xF u0 6)) hx hb hts iX_In hown hw.2.1 hw.1 6 rfl rfl 2 (by decide) (va_Nw.use rfl (hw.2.2.2 _ kX_Br_41).2) (fun _ h => h) rfl d_XBr_isAboveAfterStep_43 ?_
  refine lv_iload_n hx hb d_XBr_isAboveAfterStep_46 rfl (lv_at hl 0 rfl) ?_
  refine z_wv (z_runV (As := [.int (xF u0 6), .int x_4]) (rest := []) ⟨hx, hb, hml, hown, hts⟩ (c_XSt_put l D a k u0 (xF u0 6) x_4) (qX_Br_47 hts (by decide)) hw 1 rfl rfl hl.1 rfl (lv_room (Nat.le_of_ble_eq_true rfl)) d_XBr_isAboveAfterStep_47 hcs) hw hS (fun u_5 H locs eu_5 hw hS => ?_)
  have hf := hf.trans (nm_eq eu_5)
  refine lv_iload_n hx hb d_XBr_isAboveAfterStep_50 rfl (lv_at hl 0 rfl) ?_
  refine lv_iload_n hx hb d_XBr_isAboveAfterStep_51 rfl (lv_at hl 1 rfl) ?_
  refine lv_icmp_le (tgt := 59) hx hb d_XBr_isAboveAfterStep_52 (by decide) (fun c_6 => ?_) (fun c_6 => ?_)
  · have hf := hf.trans (if_pos c_6)
    refine lv_iconst (v := (0 : Int32)) hx hb d_XBr_isAboveAfterStep_59 (by decide) ?_
    exact hret false _ _ _ _ _ d_XBr_isAboveAfterStep_60 hw hS hf
  · have hf := hf.trans (if_neg c_6)
    refine lv_iconst (v := (1 : Int32)) hx hb d_XBr_isAboveAfterStep_55 (by decide) ?_
    refine lv_goto (tgt := 60) hx hb d_XBr_isAboveAfterStep_56 (by decide) ?_
    exact hret true _ _ _ _ _ d_XBr_isAboveAfterStep_60 hw hS hf
def f_XBr_decide (u0 : XS)  : Bool × XS := nm (xF u0 4) (fun (x_1 : Int32) => jn (fun (K_2 : Bool × XS) => jn (fun (K_4 : Bool × XS) => jn (fun (K_9 : Bool × XS) => if x_1 = (5 : Int32) then K_9 else if x_1 = (6 : Int32) then K_4 else if x_1 = (7 : Int32) then K_2 else if x_1 = (69 : Int32) then K_9 else if x_1 = (70 : Int32) then K_4 else if x_1 = (71 : Int32) then K_2 else pr (f_XBr_isAboveAfterStep u0) (fun (z_18 : Bool) (u_17 : XS) => if (xF u_17 4) = (134 : Int32) then if (bI z_18) = (1 : Int32) then (true, u_17) else (false, u_17) else if (bI z_18) = (0 : Int32) then (true, u_17) else (false, u_17))) (nm (f_XSt_put u0 (xF u0 6) (xF u0 10)) (fun (u_10 : XS) => (true, u_10)))) (nm (f_XSt_value u0 (xF u0 6)) (fun (x_5 : Int32) => nm (f_XSt_put u0 (xF u0 6) (x_5 - (1 : Int32))) (fun (u_6 : XS) => nm (f_XSt_value u_6 (xF u_6 6)) (fun (x_7 : Int32) => if x_7 = (0 : Int32) then (false, u_6) else (true, u_6)))))) (if ((xF u0 6) &&& ((8 : Int32) >>> ((xF u0 1) &&& 31))) = (0 : Int32) then (false, u0) else (true, u0)))
set_option maxHeartbeats 4000000 in
set_option maxRecDepth 100000 in
theorem c_XBr_decide (l : Launch) (D : va_G) (a : Nat → Nat) (k : Nat → ClassId) (u0 : XS)  : zMz l y_XBr_decide w_XBr_decide rm_XBr_decide D clX (tyX k) nwX (xW a k) [.ref (a 9), .ref (a 6)] u0 (f_XBr_decide u0) := by
  generalize hF : f_XBr_decide u0 = F
  have hf := hF.symm
  unfold f_XBr_decide at hf
  refine zMz_of (cc := b_XBr_decide) (maxL := 2) (own := RX_Br) (by decide) rfl rfl (Nat.le_of_ble_eq_true rfl) ?_
  intro p e R st m args below meth c A H locs Q ls hR hx hb hml hown hts hw hS hret hl
  subst hR
  have hcs : 0 ≤ (rm_XBr_decide).cells ∧ 0 ≤ (rm_XBr_decide).slots := ⟨Nat.zero_le _, Nat.zero_le _⟩
  have hl : lv_has ls 2 [(0, .ref (a 9)), (1, .ref (a 6))] := hl
  refine lv_aload_n hx hb d_XBr_decide_0 rfl (lv_at hl 1 rfl) ?_
  refine va_getN (v := .int (xF u0 4)) hx hb hts iX_In hown hw.2.1 hw.1 6 rfl rfl 0 (by decide) (va_Nw.use rfl (hw.2.2.2 _ kX_Br_15).2) (fun _ h => h) rfl d_XBr_decide_1 ?_
  refine lv_topi (fun x_1 ex_1 => ?_)
  have hf := hf.trans (nm_eq ex_1)
  refine jn_cut hf (fun (K_2 : Bool × XS) => ∀ (ls : Array Slot), lv_has ls 2 [(0, .ref (a 9)), (1, .ref (a 6))] → F = K_2 → W p l e rm_XBr_decide st m args below meth c H locs 0 0 Q (F0 m 125 ls [])) ?_ ?_
  · intro ls hl hf
    refine lv_aload_n hx hb d_XBr_decide_125 rfl (lv_at hl 1 rfl) ?_
    refine va_getN (v := .int (xF u0 6)) hx hb hts iX_In hown hw.2.1 hw.1 6 rfl rfl 2 (by decide) (va_Nw.use rfl (hw.2.2.2 _ kX_Br_41).2) (fun _ h => h) rfl d_XBr_decide_126 ?_
    refine lv_bipush (v := (8 : Int32)) hx hb d_XBr_decide_129 (by decide) ?_
    refine lv_aload_n hx hb d_XBr_decide_131 rfl (lv_at hl 0 rfl) ?_
    refine va_get (v := .ref (a 1)) hx hb hts iX_Br hown hw.2.1 hw.1 9 rfl rfl 0 (by decide) (hts _ kX_Br_9) (fun _ h => h) rfl d_XBr_decide_132 ?_
    refine va_getN (v := .int (xF u0 1)) hx hb hts iX_St hown hw.2.1 hw.1 1 rfl rfl 3 (by decide) (va_Nw.use rfl (hw.2.2.2 _ kX_Br_51).2) (fun _ h => h) rfl d_XBr_decide_135 ?_
    refine lv_ishr hx hb d_XBr_decide_138 ?_
    refine lv_iand hx hb d_XBr_decide_139 ?_
    refine lv_if_eq (tgt := 147) hx hb d_XBr_decide_140 (by decide) (fun c_3 => ?_) (fun c_3 => ?_)
    · have hf := hf.trans (if_pos c_3)
      refine lv_iconst (v := (0 : Int32)) hx hb d_XBr_decide_147 (by decide) ?_
      exact hret false _ _ _ _ _ d_XBr_decide_148 hw hS hf
    · have hf := hf.trans (if_neg c_3)
      refine lv_iconst (v := (1 : Int32)) hx hb d_XBr_decide_143 (by decide) ?_
      refine lv_goto (tgt := 148) hx hb d_XBr_decide_144 (by decide) ?_
      exact hret true _ _ _ _ _ d_XBr_decide_148 hw hS hf
  · intro K_2 hK_2 hf
    refine jn_cut hf (fun (K_4 : Bool × XS) => ∀ (ls : Array Slot), lv_has ls 2 [(0, .ref (a 9)), (1, .ref (a 6))] → F = K_4 → W p l e rm_XBr_decide st m args below meth c H locs 0 0 Q (F0 m 81 ls [])) ?_ ?_
    · intro ls hl hf
      refine lv_aload_n hx hb d_XBr_decide_81 rfl (lv_at hl 0 rfl) ?_
      refine va_get (v := .ref (a 1)) hx hb hts iX_Br hown hw.2.1 hw.1 9 rfl rfl 0 (by decide) (hts _ kX_Br_9) (fun _ h => h) rfl d_XBr_decide_82 ?_
      refine lv_aload_n hx hb d_XBr_decide_85 rfl (lv_at hl 1 rfl) ?_
      refine va_getN (v := .int (xF u0 6)) hx hb hts iX_In hown hw.2.1 hw.1 6 rfl rfl 2 (by decide) (va_Nw.use rfl (hw.2.2.2 _ kX_Br_41).2) (fun _ h => h) rfl d_XBr_decide_86 ?_
      refine lv_aload_n hx hb d_XBr_decide_89 rfl (lv_at hl 0 rfl) ?_
      refine va_get (v := .ref (a 1)) hx hb hts iX_Br hown hw.2.1 hw.1 9 rfl rfl 0 (by decide) (hts _ kX_Br_9) (fun _ h => h) rfl d_XBr_decide_90 ?_
      refine lv_aload_n hx hb d_XBr_decide_93 rfl (lv_at hl 1 rfl) ?_
      refine va_getN (v := .int (xF u0 6)) hx hb hts iX_In hown hw.2.1 hw.1 6 rfl rfl 2 (by decide) (va_Nw.use rfl (hw.2.2.2 _ kX_Br_41).2) (fun _ h => h) rfl d_XBr_decide_94 ?_
      refine z_ri (z_runV (As := [.int (xF u0 6)]) (rest := [.int (xF u0 6), .ref (a 1)]) ⟨hx, hb, hml, hown, hts⟩ (c_XSt_value l D a k u0 (xF u0 6)) (qX_Br_24 hts (by decide)) hw 1 rfl rfl hl.1 rfl (lv_room (Nat.le_of_ble_eq_true rfl)) d_XBr_decide_97 hcs) (fun x_5 ex_5 => ?_)
      have hf := hf.trans (nm_eq ex_5)
      refine lv_iconst (v := (1 : Int32)) hx hb d_XBr_decide_100 (by decide) ?_
      refine lv_isub hx hb d_XBr_decide_101 ?_
      refine z_wv (z_runV (As := [.int (xF u0 6), .int (x_5 - (1 : Int32))]) (rest := []) ⟨hx, hb, hml, hown, hts⟩ (c_XSt_put l D a k u0 (xF u0 6) (x_5 - (1 : Int32))) (qX_Br_47 hts (by decide)) hw 1 rfl rfl hl.1 rfl (lv_room (Nat.le_of_ble_eq_true rfl)) d_XBr_decide_102 hcs) hw hS (fun u_6 H locs eu_6 hw hS => ?_)
      have hf := hf.trans (nm_eq eu_6)
      refine lv_aload_n hx hb d_XBr_decide_105 rfl (lv_at hl 0 rfl) ?_
      refine va_get (v := .ref (a 1)) hx hb hts iX_Br hown hw.2.1 hw.1 9 rfl rfl 0 (by decide) (hts _ kX_Br_9) (fun _ h => h) rfl d_XBr_decide_106 ?_
      refine lv_aload_n hx hb d_XBr_decide_109 rfl (lv_at hl 1 rfl) ?_
      refine va_getN (v := .int (xF u_6 6)) hx hb hts iX_In hown hw.2.1 hw.1 6 rfl rfl 2 (by decide) (va_Nw.use rfl (hw.2.2.2 _ kX_Br_41).2) (fun _ h => h) rfl d_XBr_decide_110 ?_
      refine z_ri (z_runV (As := [.int (xF u_6 6)]) (rest := []) ⟨hx, hb, hml, hown, hts⟩ (c_XSt_value l D a k u_6 (xF u_6 6)) (qX_Br_24 hts (by decide)) hw 1 rfl rfl hl.1 rfl (lv_room (Nat.le_of_ble_eq_true rfl)) d_XBr_decide_113 hcs) (fun x_7 ex_7 => ?_)
      have hf := hf.trans (nm_eq ex_7)
      refine lv_if_eq (tgt := 123) hx hb d_XBr_decide_116 (by decide) (fun c_8 => ?_) (fun c_8 => ?_)
      · have hf := hf.trans (if_pos c_8)
        refine lv_iconst (v := (0 : Int32)) hx hb d_XBr_decide_123 (by decide) ?_
        exact hret false _ _ _ _ _ d_XBr_decide_124 hw hS hf
      · have hf := hf.trans (if_neg c_8)
        refine lv_iconst (v := (1 : Int32)) hx hb d_XBr_decide_119 (by decide) ?_
        refine lv_goto (tgt := 124) hx hb d_XBr_decide_120 (by decide) ?_
        exact hret true _ _ _ _ _ d_XBr_decide_124 hw hS hf
    · intro K_4 hK_4 hf
      refine jn_cut hf (fun (K_9 : Bool × XS) => ∀ (ls : Array Slot), lv_has ls 2 [(0, .ref (a 9)), (1, .ref (a 6))] → F = K_9 → W p l e rm_XBr_decide st m args below meth c H locs 0 0 Q (F0 m 64 ls [])) ?_ ?_
      · intro ls hl hf
        refine lv_aload_n hx hb d_XBr_decide_64 rfl (lv_at hl 0 rfl) ?_
        refine va_get (v := .ref (a 1)) hx hb hts iX_Br hown hw.2.1 hw.1 9 rfl rfl 0 (by decide) (hts _ kX_Br_9) (fun _ h => h) rfl d_XBr_decide_65 ?_
        refine lv_aload_n hx hb d_XBr_decide_68 rfl (lv_at hl 1 rfl) ?_
        refine va_getN (v := .int (xF u0 6)) hx hb hts iX_In hown hw.2.1 hw.1 6 rfl rfl 2 (by decide) (va_Nw.use rfl (hw.2.2.2 _ kX_Br_41).2) (fun _ h => h) rfl d_XBr_decide_69 ?_
        refine lv_aload_n hx hb d_XBr_decide_72 rfl (lv_at hl 1 rfl) ?_
        refine va_getN (v := .int (xF u0 10)) hx hb hts iX_In hown hw.2.1 hw.1 6 rfl rfl 6 (by decide) (va_Nw.use rfl (hw.2.2.2 _ kX_Br_44).2) (fun _ h => h) rfl d_XBr_decide_73 ?_
        refine z_wv (z_runV (As := [.int (xF u0 6), .int (xF u0 10)]) (rest := []) ⟨hx, hb, hml, hown, hts⟩ (c_XSt_put l D a k u0 (xF u0 6) (xF u0 10)) (qX_Br_47 hts (by decide)) hw 1 rfl rfl hl.1 rfl (lv_room (Nat.le_of_ble_eq_true rfl)) d_XBr_decide_76 hcs) hw hS (fun u_10 H locs eu_10 hw hS => ?_)
        have hf := hf.trans (nm_eq eu_10)
        refine lv_iconst (v := (1 : Int32)) hx hb d_XBr_decide_79 (by decide) ?_
        exact hret true _ _ _ _ _ d_XBr_decide_80 hw hS hf
      · intro K_9 hK_9 hf
        by_cases c_11 : x_1 = (5 : Int32)
        · have hf := hf.trans (if_pos c_11)
          refine lv_lookup (off := 60) (tgt := 64) hx hb d_XBr_decide_4 (by decide +kernel) (by rw [c_11]; decide +kernel) (by decide) ?_
          exact hK_9 _ (lv_sub hl [0, 1] rfl) hf
        have hf := hf.trans (if_neg c_11)
        by_cases c_12 : x_1 = (6 : Int32)
        · have hf := hf.trans (if_pos c_12)
          refine lv_lookup (off := 77) (tgt := 81) hx hb d_XBr_decide_4 (by decide +kernel) (by rw [c_12]; decide +kernel) (by decide) ?_
          exact hK_4 _ (lv_sub hl [0, 1] rfl) hf
        have hf := hf.trans (if_neg c_12)
        by_cases c_13 : x_1 = (7 : Int32)
        · have hf := hf.trans (if_pos c_13)
          refine lv_lookup (off := 121) (tgt := 125) hx hb d_XBr_decide_4 (by decide +kernel) (by rw [c_13]; decide +kernel) (by decide) ?_
          exact hK_2 _ (lv_sub hl [0, 1] rfl) hf
        have hf := hf.trans (if_neg c_13)
        by_cases c_14 : x_1 = (69 : Int32)
        · have hf := hf.trans (if_pos c_14)
          refine lv_lookup (off := 60) (tgt := 64) hx hb d_XBr_decide_4 (by decide +kernel) (by rw [c_14]; decide +kernel) (by decide) ?_
          exact hK_9 _ (lv_sub hl [0, 1] rfl) hf
        have hf := hf.trans (if_neg c_14)
        by_cases c_15 : x_1 = (70 : Int32)
        · have hf := hf.trans (if_pos c_15)
          refine lv_lookup (off := 77) (tgt := 81) hx hb d_XBr_decide_4 (by decide +kernel) (by rw [c_15]; decide +kernel) (by decide) ?_
          exact hK_4 _ (lv_sub hl [0, 1] rfl) hf
        have hf := hf.trans (if_neg c_15)
        by_cases c_16 : x_1 = (71 : Int32)
        · have hf := hf.trans (if_pos c_16)
          refine lv_lookup (off := 121) (tgt := 125) hx hb d_XBr_decide_4 (by decide +kernel) (by rw [c_16]; decide +kernel) (by decide) ?_
          exact hK_2 _ (lv_sub hl [0, 1] rfl) hf
        have hf := hf.trans (if_neg c_16)
        refine lv_lookup (off := 145) (tgt := 149) hx hb d_XBr_decide_4 (by decide +kernel) (by rw [lv_osw c_11 (by decide +kernel), lv_osw c_12 (by decide +kernel), lv_osw c_13 (by decide +kernel), lv_osw c_14 (by decide +kernel), lv_osw c_15 (by decide +kernel), lv_osw c_16 (by decide +kernel)]; rfl) (by decide) ?_
        refine lv_aload_n hx hb d_XBr_decide_149 rfl (lv_at hl 0 rfl) ?_
        refine lv_aload_n hx hb d_XBr_decide_150 rfl (lv_at hl 1 rfl) ?_
        refine z_wz (z_runV (As := [.ref (a 6)]) (rest := []) ⟨hx, hb, hml, hown, hts⟩ (c_XBr_isAboveAfterStep l D a k u0) (qX_Br_54 hts (by decide)) hw 9 rfl rfl hl.1 rfl (lv_room (Nat.le_of_ble_eq_true rfl)) d_XBr_decide_151 hcs) hw hS (fun z_18 u_17 H locs ez_18 hw hS => ?_)
        have hf := hf.trans (pr_eq ez_18)
        refine lv_aload_n hx hb d_XBr_decide_154 rfl (lv_at hl 1 rfl) ?_
        refine va_getN (v := .int (xF u_17 4)) hx hb hts iX_In hown hw.2.1 hw.1 6 rfl rfl 0 (by decide) (va_Nw.use rfl (hw.2.2.2 _ kX_Br_15).2) (fun _ h => h) rfl d_XBr_decide_155 ?_
        refine lv_sipush (v := (134 : Int32)) hx hb d_XBr_decide_158 (by decide) ?_
        refine lv_icmp_ne (tgt := 168) hx hb d_XBr_decide_161 (by decide) (fun c_19 => ?_) (fun c_19 => ?_)
        · have hf := hf.trans (if_neg c_19)
          refine lv_iconst (v := (0 : Int32)) hx hb d_XBr_decide_168 (by decide) ?_
          refine lv_icmp_ne (tgt := 176) hx hb d_XBr_decide_169 (by decide) (fun c_20 => ?_) (fun c_20 => ?_)
          · have hf := hf.trans (if_neg c_20)
            refine lv_iconst (v := (0 : Int32)) hx hb d_XBr_decide_176 (by decide) ?_
            exact hret false _ _ _ _ _ d_XBr_decide_177 hw hS hf
          · have hf := hf.trans (if_pos c_20)
            refine lv_iconst (v := (1 : Int32)) hx hb d_XBr_decide_172 (by decide) ?_
            refine lv_goto (tgt := 177) hx hb d_XBr_decide_173 (by decide) ?_
            exact hret true _ _ _ _ _ d_XBr_decide_177 hw hS hf
        · have hf := hf.trans (if_pos c_19)
          refine lv_iconst (v := (1 : Int32)) hx hb d_XBr_decide_164 (by decide) ?_
          refine lv_goto (tgt := 169) hx hb d_XBr_decide_165 (by decide) ?_
          refine lv_icmp_ne (tgt := 176) hx hb d_XBr_decide_169 (by decide) (fun c_21 => ?_) (fun c_21 => ?_)
          · have hf := hf.trans (if_neg c_21)
            refine lv_iconst (v := (0 : Int32)) hx hb d_XBr_decide_176 (by decide) ?_
            exact hret false _ _ _ _ _ d_XBr_decide_177 hw hS hf
          · have hf := hf.trans (if_pos c_21)
            refine lv_iconst (v := (1 : Int32)) hx hb d_XBr_decide_172 (by decide) ?_
            refine lv_goto (tgt := 177) hx hb d_XBr_decide_173 (by decide) ?_
            exact hret true _ _ _ _ _ d_XBr_decide_177 hw hS hf
def f_XBr_perform (u0 : XS)  : Int32 × XS := jn (fun (K_2 : Bool → Int32 × XS) => if (64 : Int32) ≤ (xF u0 4) then K_2 false else K_2 true) (fun (z_1 : Bool) => jn (fun (K_4 : Int32 → Int32 × XS) => if (bI z_1) = (0 : Int32) then K_4 (xF u0 9) else nm (f_XSt_value u0 (xF u0 7)) (fun (x_13 : Int32) => K_4 (x_13 &&& (16777215 : Int32)))) (fun (x_3 : Int32) => pr (f_XBr_decide u0) (fun (z_6 : Bool) (u_5 : XS) => if (bI z_6) = (0 : Int32) then ((0 : Int32), u_5) else if (bI z_1) = (0 : Int32) then nm (xsF u_5 0 x_3) (fun (u_9 : XS) => ((0 : Int32), u_9)) else if (xF u_5 7) = (0 : Int32) then ((0 : Int32), u_5) else nm (xsF u_5 0 x_3) (fun (u_11 : XS) => ((0 : Int32), u_11)))))
set_option maxHeartbeats 4000000 in
set_option maxRecDepth 100000 in
theorem c_XBr_perform (l : Launch) (D : va_G) (a : Nat → Nat) (k : Nat → ClassId) (u0 : XS)  : zMi l y_XBr_perform w_XBr_perform rm_XBr_perform D clX (tyX k) nwX (xW a k) [.ref (a 9), .ref (a 6)] u0 (f_XBr_perform u0) := by
  generalize hF : f_XBr_perform u0 = F
  have hf := hF.symm
  unfold f_XBr_perform at hf
  refine zMi_of (cc := b_XBr_perform) (maxL := 5) (own := RX_Br) (by decide) rfl rfl (Nat.le_of_ble_eq_true rfl) ?_
  intro p e R st m args below meth c A H locs Q ls hR hx hb hml hown hts hw hS hret hl
  subst hR
  have hcs : 0 ≤ (rm_XBr_perform).cells ∧ 0 ≤ (rm_XBr_perform).slots := ⟨Nat.zero_le _, Nat.zero_le _⟩
  have hl : lv_has ls 5 [(0, .ref (a 9)), (1, .ref (a 6))] := hl
  refine lv_aload_n hx hb d_XBr_perform_0 rfl (lv_at hl 1 rfl) ?_
  refine va_getN (v := .int (xF u0 4)) hx hb hts iX_In hown hw.2.1 hw.1 6 rfl rfl 0 (by decide) (va_Nw.use rfl (hw.2.2.2 _ kX_Br_15).2) (fun _ h => h) rfl d_XBr_perform_1 ?_
  refine lv_bipush (v := (64 : Int32)) hx hb d_XBr_perform_4 (by decide) ?_
  refine jn_cut hf (fun (K_2 : Bool → Int32 × XS) => ∀ (z_1 : Bool), ∀ (ls : Array Slot), lv_has ls 5 [(0, .ref (a 9)), (1, .ref (a 6))] → F = K_2 z_1 → W p l e rm_XBr_perform st m args below meth c H locs 0 0 Q (F0 m 14 ls [.int (bI z_1)])) ?_ ?_
  · intro z_1 ls hl hf
    refine lv_istore_n (lv' := [(2, .int (bI z_1)), (0, .ref (a 9)), (1, .ref (a 6))]) hx hb d_XBr_perform_14 rfl hl (by decide) rfl (fun ls hl => ?_)
    refine lv_iload_n hx hb d_XBr_perform_15 rfl (lv_at hl 0 rfl) ?_
    refine jn_cut hf (fun (K_4 : Int32 → Int32 × XS) => ∀ (x_3 : Int32), ∀ (ls : Array Slot), lv_has ls 5 [(0, .ref (a 9)), (1, .ref (a 6)), (2, .int (bI z_1))] → F = K_4 x_3 → W p l e rm_XBr_perform st m args below meth c H locs 0 0 Q (F0 m 40 ls [.int x_3])) ?_ ?_
    · intro x_3 ls hl hf
      refine lv_istore_n (lv' := [(3, .int x_3), (0, .ref (a 9)), (1, .ref (a 6)), (2, .int (bI z_1))]) hx hb d_XBr_perform_40 rfl hl (by decide) rfl (fun ls hl => ?_)
      refine lv_aload_n hx hb d_XBr_perform_41 rfl (lv_at hl 1 rfl) ?_
      refine lv_aload_n hx hb d_XBr_perform_42 rfl (lv_at hl 2 rfl) ?_
      refine z_wz (z_runV (As := [.ref (a 6)]) (rest := []) ⟨hx, hb, hml, hown, hts⟩ (c_XBr_decide l D a k u0) (qX_Br_34 hts (by decide)) hw 9 rfl rfl hl.1 rfl (lv_room (Nat.le_of_ble_eq_true rfl)) d_XBr_perform_43 hcs) hw hS (fun z_6 u_5 H locs ez_6 hw hS => ?_)
      have hf := hf.trans (pr_eq ez_6)
      refine lv_istore (lv' := [(4, .int (bI z_6)), (3, .int x_3), (0, .ref (a 9)), (1, .ref (a 6)), (2, .int (bI z_1))]) hx hb d_XBr_perform_46 hl (by decide) rfl (fun ls hl => ?_)
      refine lv_iload hx hb d_XBr_perform_48 (lv_at hl 0 rfl) ?_
      refine lv_if_eq (tgt := 72) hx hb d_XBr_perform_50 (by decide) (fun c_7 => ?_) (fun c_7 => ?_)
      · have hf := hf.trans (if_pos c_7)
        refine lv_iconst (v := (0 : Int32)) hx hb d_XBr_perform_72 (by decide) ?_
        exact hret (0 : Int32) _ _ _ _ _ d_XBr_perform_73 hw hS hf
      · have hf := hf.trans (if_neg c_7)
        refine lv_iload_n hx hb d_XBr_perform_53 rfl (lv_at hl 4 rfl) ?_
        refine lv_if_eq (tgt := 64) hx hb d_XBr_perform_54 (by decide) (fun c_8 => ?_) (fun c_8 => ?_)
        · have hf := hf.trans (if_pos c_8)
          refine lv_aload_n hx hb d_XBr_perform_64 rfl (lv_at hl 2 rfl) ?_
          refine va_get (v := .ref (a 1)) hx hb hts iX_Br hown hw.2.1 hw.1 9 rfl rfl 0 (by decide) (hts _ kX_Br_9) (fun _ h => h) rfl d_XBr_perform_65 ?_
          refine lv_iload_n hx hb d_XBr_perform_68 rfl (lv_at hl 1 rfl) ?_
          refine z_putN (u' := xsF u_5 0 x_3) hx hb hts iX_St tX_St tX_St_ok nX_St hown hw hS 1 rfl rfl 2 (by decide) (va_Nw.use rfl (hw.2.2.2 _ kX_Br_38).2) (fun _ h => h) rfl rfl (Nat.le_of_ble_eq_true rfl) rfl d_XBr_perform_69 (fun u_9 H locs eu_9 hw hS => ?_)
          have hf := hf.trans (nm_eq eu_9)
          refine lv_iconst (v := (0 : Int32)) hx hb d_XBr_perform_72 (by decide) ?_
          exact hret (0 : Int32) _ _ _ _ _ d_XBr_perform_73 hw hS hf
        · have hf := hf.trans (if_neg c_8)
          refine lv_aload_n hx hb d_XBr_perform_57 rfl (lv_at hl 3 rfl) ?_
          refine va_getN (v := .int (xF u_5 7)) hx hb hts iX_In hown hw.2.1 hw.1 6 rfl rfl 3 (by decide) (va_Nw.use rfl (hw.2.2.2 _ kX_Br_21).2) (fun _ h => h) rfl d_XBr_perform_58 ?_
          refine lv_if_eq (tgt := 72) hx hb d_XBr_perform_61 (by decide) (fun c_10 => ?_) (fun c_10 => ?_)
          · have hf := hf.trans (if_pos c_10)
            refine lv_iconst (v := (0 : Int32)) hx hb d_XBr_perform_72 (by decide) ?_
            exact hret (0 : Int32) _ _ _ _ _ d_XBr_perform_73 hw hS hf
          · have hf := hf.trans (if_neg c_10)
            refine lv_aload_n hx hb d_XBr_perform_64 rfl (lv_at hl 2 rfl) ?_
            refine va_get (v := .ref (a 1)) hx hb hts iX_Br hown hw.2.1 hw.1 9 rfl rfl 0 (by decide) (hts _ kX_Br_9) (fun _ h => h) rfl d_XBr_perform_65 ?_
            refine lv_iload_n hx hb d_XBr_perform_68 rfl (lv_at hl 1 rfl) ?_
            refine z_putN (u' := xsF u_5 0 x_3) hx hb hts iX_St tX_St tX_St_ok nX_St hown hw hS 1 rfl rfl 2 (by decide) (va_Nw.use rfl (hw.2.2.2 _ kX_Br_38).2) (fun _ h => h) rfl rfl (Nat.le_of_ble_eq_true rfl) rfl d_XBr_perform_69 (fun u_11 H locs eu_11 hw hS => ?_)
            have hf := hf.trans (nm_eq eu_11)
            refine lv_iconst (v := (0 : Int32)) hx hb d_XBr_perform_72 (by decide) ?_
            exact hret (0 : Int32) _ _ _ _ _ d_XBr_perform_73 hw hS hf
    · intro K_4 hK_4 hf
      refine lv_if_eq (tgt := 36) hx hb d_XBr_perform_16 (by decide) (fun c_12 => ?_) (fun c_12 => ?_)
      · have hf := hf.trans (if_pos c_12)
        refine lv_aload_n hx hb d_XBr_perform_36 rfl (lv_at hl 2 rfl) ?_
        refine va_getN (v := .int (xF u0 9)) hx hb hts iX_In hown hw.2.1 hw.1 6 rfl rfl 5 (by decide) (va_Nw.use rfl (hw.2.2.2 _ kX_Br_31).2) (fun _ h => h) rfl d_XBr_perform_37 ?_
        exact hK_4 (xF u0 9) _ (lv_sub hl [1, 2, 0] rfl) hf
      · have hf := hf.trans (if_neg c_12)
        refine lv_aload_n hx hb d_XBr_perform_19 rfl (lv_at hl 1 rfl) ?_
        refine va_get (v := .ref (a 1)) hx hb hts iX_Br hown hw.2.1 hw.1 9 rfl rfl 0 (by decide) (hts _ kX_Br_9) (fun _ h => h) rfl d_XBr_perform_20 ?_
        refine lv_aload_n hx hb d_XBr_perform_23 rfl (lv_at hl 2 rfl) ?_
        refine va_getN (v := .int (xF u0 7)) hx hb hts iX_In hown hw.2.1 hw.1 6 rfl rfl 3 (by decide) (va_Nw.use rfl (hw.2.2.2 _ kX_Br_21).2) (fun _ h => h) rfl d_XBr_perform_24 ?_
        refine z_ri (z_runV (As := [.int (xF u0 7)]) (rest := []) ⟨hx, hb, hml, hown, hts⟩ (c_XSt_value l D a k u0 (xF u0 7)) (qX_Br_24 hts (by decide)) hw 1 rfl rfl hl.1 rfl (lv_room (Nat.le_of_ble_eq_true rfl)) d_XBr_perform_27 hcs) (fun x_13 ex_13 => ?_)
        have hf := hf.trans (nm_eq ex_13)
        refine lv_ldc (v := (16777215 : Int32)) hx hb hown (hts _ kX_Br_30) d_XBr_perform_30 ?_
        refine lv_iand hx hb d_XBr_perform_32 ?_
        refine lv_goto (tgt := 40) hx hb d_XBr_perform_33 (by decide) ?_
        exact hK_4 (x_13 &&& (16777215 : Int32)) _ (lv_sub hl [1, 2, 0] rfl) hf
  · intro K_2 hK_2 hf
    refine lv_icmp_ge (tgt := 13) hx hb d_XBr_perform_6 (by decide) (fun c_14 => ?_) (fun c_14 => ?_)
    · have hf := hf.trans (if_pos c_14)
      refine lv_iconst (v := (0 : Int32)) hx hb d_XBr_perform_13 (by decide) ?_
      exact hK_2 false _ (lv_sub hl [0, 1] rfl) hf
    · have hf := hf.trans (if_neg c_14)
      refine lv_iconst (v := (1 : Int32)) hx hb d_XBr_perform_9 (by decide) ?_
      refine lv_goto (tgt := 14) hx hb d_XBr_perform_10 (by decide) ?_
      exact hK_2 true _ (lv_sub hl [0, 1] rfl) hf
end
section
def f_XMe_put (u0 : XS) (x1 : Int32) (x2 : Int32) : XS := if x1 < (0 : Int32) then u0 else if (1024 : Int32) ≤ x1 then u0 else nm (xsM u0 (Int32.toNatClampNeg x1) (x2 &&& (255 : Int32))) (fun (u_3 : XS) => u_3)
set_option maxHeartbeats 4000000 in
set_option maxRecDepth 100000 in
theorem c_XMe_put (l : Launch) (D : va_G) (a : Nat → Nat) (k : Nat → ClassId) (u0 : XS) (x1 : Int32) (x2 : Int32) : zMv l y_XMe_put w_XMe_put rm_XMe_put D clX (tyX k) nwX (xW a k) [.ref (a 2), .int x1, .int x2] u0 (f_XMe_put u0 x1 x2) := by
  generalize hF : f_XMe_put u0 x1 x2 = F
  have hf := hF.symm
  unfold f_XMe_put at hf
  refine zMv_of (cc := b_XMe_put) (maxL := 3) (own := RX_Me) (by decide) rfl rfl (Nat.le_of_ble_eq_true rfl) ?_
  intro p e R st m args below meth c A H locs Q ls hR hx hb hml hown hts hw hS hret hl
  subst hR
  have hcs : 0 ≤ (rm_XMe_put).cells ∧ 0 ≤ (rm_XMe_put).slots := ⟨Nat.zero_le _, Nat.zero_le _⟩
  have hl : lv_has ls 3 [(0, .ref (a 2)), (1, .int x1), (2, .int x2)] := hl
  refine lv_iload_n hx hb d_XMe_put_0 rfl (lv_at hl 1 rfl) ?_
  refine lv_if_lt (tgt := 22) hx hb d_XMe_put_1 (by decide) (fun c_1 => ?_) (fun c_1 => ?_)
  · have hf := hf.trans (if_pos c_1)
    exact hret _ _ _ _ _ d_XMe_put_22 hw hS hf
  · have hf := hf.trans (if_neg c_1)
    refine lv_iload_n hx hb d_XMe_put_4 rfl (lv_at hl 1 rfl) ?_
    refine lv_sipush (v := (1024 : Int32)) hx hb d_XMe_put_5 (by decide) ?_
    refine lv_icmp_ge (tgt := 22) hx hb d_XMe_put_8 (by decide) (fun c_2 => ?_) (fun c_2 => ?_)
    · have hf := hf.trans (if_pos c_2)
      exact hret _ _ _ _ _ d_XMe_put_22 hw hS hf
    · have hf := hf.trans (if_neg c_2)
      refine lv_aload_n hx hb d_XMe_put_11 rfl (lv_at hl 0 rfl) ?_
      refine va_get (v := .ref (a 3)) hx hb hts iX_Me hown hw.2.1 hw.1 2 rfl rfl 0 (by decide) (hts _ kX_Me_11) (fun _ h => h) rfl d_XMe_put_12 ?_
      refine lv_iload_n hx hb d_XMe_put_15 rfl (lv_at hl 1 rfl) ?_
      refine lv_iload_n hx hb d_XMe_put_16 rfl (lv_at hl 2 rfl) ?_
      refine lv_sipush (v := (255 : Int32)) hx hb d_XMe_put_17 (by decide) ?_
      refine lv_iand hx hb d_XMe_put_20 ?_
      refine z_iast (u' := xsM u0 (Int32.toNatClampNeg x1) (x2 &&& (255 : Int32))) hx hb hw hS 3 0 rfl rfl (z_in1024 (by assumption) (by assumption)) rfl d_XMe_put_21 (fun u_3 H locs eu_3 hw hS => ?_)
      have hf := hf.trans (nm_eq eu_3)
      exact hret _ _ _ _ _ d_XMe_put_22 hw hS hf
def g_XMe_putDecimal_22 (x1 : Int32) (L_8 : Int64 → Int32 → Int32 → XS → XS) : Int64 → Int32 → Int32 → XS → XS := fun y_4 x_5 x_6 u_7 => if x_6 < (0 : Int32) then u_7 else nm (f_XMe_put u_7 (x1 + x_6) (((Int64.toInt32 (y_4 - y_4 / (10 : Int64) * (10 : Int64))) * (16 : Int32)) + x_5)) (fun (u_11 : XS) => nm (Int64.toInt32 ((y_4 / (10 : Int64)) - (y_4 / (10 : Int64)) / (10 : Int64) * (10 : Int64))) (fun (x_12 : Int32) => nm (y_4 / (100 : Int64)) (fun (y_13 : Int64) => nm (x_6 + (-1 : Int32)) (fun (x_14 : Int32) => L_8 y_13 x_12 x_14 u_11))))
def f_XMe_putDecimal (u0 : XS) (x1 : Int32) (x2 : Int32) (y3 : Int64) (z5 : Bool) : XS := jn (fun (K_2 : Int32 → XS) => if (bI z5) = (0 : Int32) then K_2 (12 : Int32) else K_2 (13 : Int32)) (fun (x_1 : Int32) => nm (x2 - (1 : Int32)) (fun (x_3 : Int32) => lpN ((Int32.toInt x_3 + 1).toNat + 1) (g_XMe_putDecimal_22 x1) (fun _ _ _ _ => default) y3 x_1 x_3 u0))
set_option maxHeartbeats 4000000 in
set_option maxRecDepth 100000 in
theorem c_XMe_putDecimal (l : Launch) (D : va_G) (a : Nat → Nat) (k : Nat → ClassId) (u0 : XS) (x1 : Int32) (x2 : Int32) (y3 : Int64) (z5 : Bool) : zMv l y_XMe_putDecimal w_XMe_putDecimal rm_XMe_putDecimal D clX (tyX k) nwX (xW a k) [.ref (a 2), .int x1, .int x2, .long y3, .int (bI z5)] u0 (f_XMe_putDecimal u0 x1 x2 y3 z5) := by
  generalize hF : f_XMe_putDecimal u0 x1 x2 y3 z5 = F
  have hf := hF.symm
  unfold f_XMe_putDecimal at hf
  refine zMv_of (cc := b_XMe_putDecimal) (maxL := 10) (own := RX_Me) (by decide) rfl rfl (Nat.le_of_ble_eq_true rfl) ?_
  intro p e R st m args below meth c A H locs Q ls hR hx hb hml hown hts hw hS hret hl
  subst hR
  have hcs : 0 ≤ (rm_XMe_putDecimal).cells ∧ 0 ≤ (rm_XMe_putDecimal).slots := ⟨Nat.zero_le _, Nat.zero_le _⟩
  have hl : lv_has ls 10 [(0, .ref (a 2)), (1, .int x1), (2, .int x2), (3, .long y3), (5, .int (bI z5))] := hl
  refine lv_lload_n hx hb d_XMe_putDecimal_0 rfl (lv_at hl 3 rfl) ?_
  refine lv_lstore (lv' := [(6, .long y3), (0, .ref (a 2)), (1, .int x1), (2, .int x2), (3, .long y3), (5, .int (bI z5))]) hx hb d_XMe_putDecimal_1 hl (by decide) rfl (fun ls hl => ?_)
  refine lv_iload hx hb d_XMe_putDecimal_3 (lv_at hl 5 rfl) ?_
  refine jn_cut hf (fun (K_2 : Int32 → XS) => ∀ (x_1 : Int32), ∀ (ls : Array Slot), lv_has ls 10 [(0, .ref (a 2)), (1, .int x1), (2, .int x2), (6, .long y3)] → F = K_2 x_1 → W p l e rm_XMe_putDecimal st m args below meth c H locs 0 0 Q (F0 m 15 ls [.int x_1])) ?_ ?_
  · intro x_1 ls hl hf
    refine lv_istore (lv' := [(8, .int x_1), (0, .ref (a 2)), (1, .int x1), (2, .int x2), (6, .long y3)]) hx hb d_XMe_putDecimal_15 hl (by decide) rfl (fun ls hl => ?_)
    refine lv_iload_n hx hb d_XMe_putDecimal_17 rfl (lv_at hl 3 rfl) ?_
    refine lv_iconst (v := (1 : Int32)) hx hb d_XMe_putDecimal_18 (by decide) ?_
    refine lv_isub hx hb d_XMe_putDecimal_19 ?_
    refine lv_topi (fun x_3 ex_3 => ?_)
    have hf := hf.trans (nm_eq ex_3)
    refine lv_istore (lv' := [(9, .int x_3), (8, .int x_1), (0, .ref (a 2)), (1, .int x1), (2, .int x2), (6, .long y3)]) hx hb d_XMe_putDecimal_20 hl (by decide) rfl (fun ls hl => ?_)
    refine lp_cut (fun (n_9 : Nat) (L_8 : Int64 → Int32 → Int32 → XS → XS) => ∀ (y_4 : Int64) (x_5 : Int32) (x_6 : Int32) (u_7 : XS), (Int32.toInt x_6 + 1).toNat < n_9 → ∀ (H : Heap) (locs : List Loc), zW D clX (tyX k) nwX (xW a k) A st u_7 H → va_S A st.heap H locs → ∀ (ls : Array Slot), lv_has ls 10 [(0, .ref (a 2)), (1, .int x1), (6, .long y_4), (8, .int x_5), (9, .int x_6)] → F = L_8 y_4 x_5 x_6 u_7 → W p l e rm_XMe_putDecimal st m args below meth c H locs 0 0 Q (F0 m 22 ls [])) ?_ ?_ ((Int32.toInt x_3 + 1).toNat + 1) y3 x_1 x_3 u0 (Nat.lt_succ_self _) _ _ hw hS _ (lv_sub hl [2, 3, 5, 1, 0] rfl) hf
    · intro y_4 x_5 x_6 u_7 hn; exact absurd hn (Nat.not_lt_zero _)
    · intro n_9 L_8 hL_8 y_4 x_5 x_6 u_7 hn H locs hw hS ls hl hf
      unfold g_XMe_putDecimal_22 at hf
      refine lv_iload hx hb d_XMe_putDecimal_22 (lv_at hl 4 rfl) ?_
      refine lv_if_lt (tgt := 75) hx hb d_XMe_putDecimal_24 (by decide) (fun c_10 => ?_) (fun c_10 => ?_)
      · have hf := hf.trans (if_pos c_10)
        exact hret _ _ _ _ _ d_XMe_putDecimal_75 hw hS hf
      · have hf := hf.trans (if_neg c_10)
        refine lv_aload_n hx hb d_XMe_putDecimal_27 rfl (lv_at hl 0 rfl) ?_
        refine lv_iload_n hx hb d_XMe_putDecimal_28 rfl (lv_at hl 1 rfl) ?_
        refine lv_iload hx hb d_XMe_putDecimal_29 (lv_at hl 4 rfl) ?_
        refine lv_iadd hx hb d_XMe_putDecimal_31 ?_
        refine lv_lload hx hb d_XMe_putDecimal_32 (lv_at hl 2 rfl) ?_
        refine lv_ldc2 (v := (10 : Int64)) hx hb hown (hts _ kX_Me_31) d_XMe_putDecimal_34 ?_
        refine lv_lrem hx hb d_XMe_putDecimal_37 (by decide) ?_
        refine lv_l2i (v := Int64.toInt32 (y_4 - y_4 / (10 : Int64) * (10 : Int64))) hx hb d_XMe_putDecimal_38 rfl ?_
        refine lv_bipush (v := (16 : Int32)) hx hb d_XMe_putDecimal_39 (by decide) ?_
        refine lv_imul hx hb d_XMe_putDecimal_41 ?_
        refine lv_iload hx hb d_XMe_putDecimal_42 (lv_at hl 3 rfl) ?_
        refine lv_iadd hx hb d_XMe_putDecimal_44 ?_
        refine z_wv (z_runV (As := [.int (x1 + x_6), .int (((Int64.toInt32 (y_4 - y_4 / (10 : Int64) * (10 : Int64))) * (16 : Int32)) + x_5)]) (rest := []) ⟨hx, hb, hml, hown, hts⟩ (c_XMe_put l D a k u_7 (x1 + x_6) (((Int64.toInt32 (y_4 - y_4 / (10 : Int64) * (10 : Int64))) * (16 : Int32)) + x_5)) (qX_Me_25 hts (by decide)) hw 2 rfl rfl hl.1 rfl (lv_room (Nat.le_of_ble_eq_true rfl)) d_XMe_putDecimal_45 hcs) hw hS (fun u_11 H locs eu_11 hw hS => ?_)
        have hf := hf.trans (nm_eq eu_11)
        refine lv_lload hx hb d_XMe_putDecimal_48 (lv_at hl 2 rfl) ?_
        refine lv_ldc2 (v := (10 : Int64)) hx hb hown (hts _ kX_Me_31) d_XMe_putDecimal_50 ?_
        refine lv_ldiv hx hb d_XMe_putDecimal_53 (by decide) ?_
        refine lv_ldc2 (v := (10 : Int64)) hx hb hown (hts _ kX_Me_31) d_XMe_putDecimal_54 ?_
        refine lv_lrem hx hb d_XMe_putDecimal_57 (by decide) ?_
        refine lv_l2i (v := Int64.toInt32 ((y_4 / (10 : Int64)) - (y_4 / (10 : Int64)) / (10 : Int64) * (10 : Int64))) hx hb d_XMe_putDecimal_58 rfl ?_
        refine lv_topi (fun x_12 ex_12 => ?_)
        have hf := hf.trans (nm_eq ex_12)
        refine lv_istore (lv' := [(8, .int x_12), (0, .ref (a 2)), (1, .int x1), (6, .long y_4), (9, .int x_6)]) hx hb d_XMe_putDecimal_59 hl (by decide) rfl (fun ls hl => ?_)
        refine lv_lload hx hb d_XMe_putDecimal_61 (lv_at hl 3 rfl) ?_
        refine lv_ldc2 (v := (100 : Int64)) hx hb hown (hts _ kX_Me_29) d_XMe_putDecimal_63 ?_
        refine lv_ldiv hx hb d_XMe_putDecimal_66 (by decide) ?_
        refine lv_topl (fun y_13 ey_13 => ?_)
        have hf := hf.trans (nm_eq ey_13)
        refine lv_lstore (lv' := [(6, .long y_13), (8, .int x_12), (0, .ref (a 2)), (1, .int x1), (9, .int x_6)]) hx hb d_XMe_putDecimal_67 hl (by decide) rfl (fun ls hl => ?_)
        obtain ⟨x_14, ex_14⟩ : ∃ y : Int32, y = x_6 + (-1 : Int32) := ⟨_, rfl⟩
        have hf := hf.trans (nm_eq ex_14)
        refine lv_iinc (v := x_14) (lv' := [(9, .int x_14), (6, .long y_13), (8, .int x_12), (0, .ref (a 2)), (1, .int x1)]) hx hb d_XMe_putDecimal_69 hl (k := 4) rfl (by rw [ex_14]; rfl) (by decide) rfl (fun ls hl => ?_)
        refine lv_goto (tgt := 22) hx hb d_XMe_putDecimal_72 (by decide) ?_
        exact hL_8 y_13 x_12 x_14 u_11 (mu_dn c_10 ex_14 hn) _ _ hw hS _ (lv_sub hl [3, 4, 1, 2, 0] rfl) hf
  · intro K_2 hK_2 hf
    refine lv_if_eq (tgt := 13) hx hb d_XMe_putDecimal_5 (by decide) (fun c_15 => ?_) (fun c_15 => ?_)
    · have hf := hf.trans (if_pos c_15)
      refine lv_bipush (v := (12 : Int32)) hx hb d_XMe_putDecimal_13 (by decide) ?_
      exact hK_2 (12 : Int32) _ (lv_sub hl [1, 2, 3, 0] rfl) hf
    · have hf := hf.trans (if_neg c_15)
      refine lv_bipush (v := (13 : Int32)) hx hb d_XMe_putDecimal_8 (by decide) ?_
      refine lv_goto (tgt := 15) hx hb d_XMe_putDecimal_10 (by decide) ?_
      exact hK_2 (13 : Int32) _ (lv_sub hl [1, 2, 3, 0] rfl) hf
def g_XMe_isPacked_37 (x2 : Int32) (u0 : XS) (x1 : Int32) (L_6 : Bool → Int32 → Bool) : Bool → Int32 → Bool := fun z_4 x_5 => if (x2 - (1 : Int32)) ≤ x_5 then z_4 else nm (f_XMe_get u0 (x1 + x_5)) (fun (x_9 : Int32) => jn (fun (K_11 : Bool → Bool) => jn (fun (K_13 : Bool) => if (bI z_4) = (0 : Int32) then K_13 else if (9 : Int32) < (x_9 >>> ((4 : Int32) &&& 31)) then K_13 else if (9 : Int32) < (x_9 &&& (15 : Int32)) then K_13 else K_11 true) (K_11 false)) (fun (z_10 : Bool) => nm (x_5 + (1 : Int32)) (fun (x_12 : Int32) => L_6 z_10 x_12)))
def f_XMe_isPacked (u0 : XS) (x1 : Int32) (x2 : Int32) : Bool := nm (f_XMe_get u0 ((x1 + x2) - (1 : Int32))) (fun (x_1 : Int32) => jn (fun (K_3 : Bool → Bool) => jn (fun (K_17 : Bool) => if (9 : Int32) < (x_1 >>> ((4 : Int32) &&& 31)) then K_17 else if (x_1 &&& (15 : Int32)) < (10 : Int32) then K_17 else K_3 true) (K_3 false)) (fun (z_2 : Bool) => lpN ((Int32.toInt (x2 - 1) - Int32.toInt (0 : Int32)).toNat + 1) (g_XMe_isPacked_37 x2 u0 x1) (fun _ _ => default) z_2 (0 : Int32)))
set_option maxHeartbeats 4000000 in
set_option maxRecDepth 100000 in
theorem c_XMe_isPacked (l : Launch) (D : va_G) (a : Nat → Nat) (k : Nat → ClassId) (u0 : XS) (x1 : Int32) (x2 : Int32) : zRz l y_XMe_isPacked w_XMe_isPacked rm_XMe_isPacked D clX (tyX k) nwX (xW a k) [.ref (a 2), .int x1, .int x2] u0 (f_XMe_isPacked u0 x1 x2) := by
  generalize hF : f_XMe_isPacked u0 x1 x2 = F
  have hf := hF.symm
  unfold f_XMe_isPacked at hf
  refine zRz_of (cc := b_XMe_isPacked) (maxL := 7) (own := RX_Me) (by decide) rfl rfl (Nat.le_of_ble_eq_true rfl) ?_
  intro p e R st m args below meth c H locs Q ls hR hx hb hml hown hts hw hret hl
  subst hR
  have hcs : 0 ≤ (rm_XMe_isPacked).cells ∧ 0 ≤ (rm_XMe_isPacked).slots := ⟨Nat.zero_le _, Nat.zero_le _⟩
  have hl : lv_has ls 7 [(0, .ref (a 2)), (1, .int x1), (2, .int x2)] := hl
  refine lv_aload_n hx hb d_XMe_isPacked_0 rfl (lv_at hl 0 rfl) ?_
  refine lv_iload_n hx hb d_XMe_isPacked_1 rfl (lv_at hl 1 rfl) ?_
  refine lv_iload_n hx hb d_XMe_isPacked_2 rfl (lv_at hl 2 rfl) ?_
  refine lv_iadd hx hb d_XMe_isPacked_3 ?_
  refine lv_iconst (v := (1 : Int32)) hx hb d_XMe_isPacked_4 (by decide) ?_
  refine lv_isub hx hb d_XMe_isPacked_5 ?_
  refine z_ri (z_runV (As := [.int ((x1 + x2) - (1 : Int32))]) (rest := []) ⟨hx, hb, hml, hown, hts⟩ (c_XMe_get l D a k u0 ((x1 + x2) - (1 : Int32))) (qX_Me_19 hts (by decide)) hw 2 rfl rfl hl.1 rfl (lv_room (Nat.le_of_ble_eq_true rfl)) d_XMe_isPacked_6 hcs) (fun x_1 ex_1 => ?_)
  have hf := hf.trans (nm_eq ex_1)
  refine lv_istore_n (lv' := [(3, .int x_1), (0, .ref (a 2)), (1, .int x1), (2, .int x2)]) hx hb d_XMe_isPacked_9 rfl hl (by decide) rfl (fun ls hl => ?_)
  refine lv_iload_n hx hb d_XMe_isPacked_10 rfl (lv_at hl 0 rfl) ?_
  refine lv_iconst (v := (4 : Int32)) hx hb d_XMe_isPacked_11 (by decide) ?_
  refine lv_ishr hx hb d_XMe_isPacked_12 ?_
  refine lv_bipush (v := (9 : Int32)) hx hb d_XMe_isPacked_13 (by decide) ?_
  refine jn_cut hf (fun (K_3 : Bool → Bool) => ∀ (z_2 : Bool), ∀ (ls : Array Slot), lv_has ls 7 [(0, .ref (a 2)), (1, .int x1), (2, .int x2)] → F = K_3 z_2 → W p l e rm_XMe_isPacked st m args below meth c H locs 0 0 Q (F0 m 32 ls [.int (bI z_2)])) ?_ ?_
  · intro z_2 ls hl hf
    refine lv_istore (lv' := [(4, .int (bI z_2)), (0, .ref (a 2)), (1, .int x1), (2, .int x2)]) hx hb d_XMe_isPacked_32 hl (by decide) rfl (fun ls hl => ?_)
    refine lv_iconst (v := (0 : Int32)) hx hb d_XMe_isPacked_34 (by decide) ?_
    refine lv_istore (lv' := [(5, .int (0 : Int32)), (4, .int (bI z_2)), (0, .ref (a 2)), (1, .int x1), (2, .int x2)]) hx hb d_XMe_isPacked_35 hl (by decide) rfl (fun ls hl => ?_)
    refine lp_cut (fun (n_7 : Nat) (L_6 : Bool → Int32 → Bool) => ∀ (z_4 : Bool) (x_5 : Int32), (Int32.toInt (x2 - 1) - Int32.toInt x_5).toNat < n_7 → ∀ (ls : Array Slot), lv_has ls 7 [(0, .ref (a 2)), (1, .int x1), (2, .int x2), (4, .int (bI z_4)), (5, .int x_5)] → F = L_6 z_4 x_5 → W p l e rm_XMe_isPacked st m args below meth c H locs 0 0 Q (F0 m 37 ls [])) ?_ ?_ ((Int32.toInt (x2 - 1) - Int32.toInt (0 : Int32)).toNat + 1) z_2 (0 : Int32) (Nat.lt_succ_self _) _ (lv_sub hl [2, 3, 4, 1, 0] rfl) hf
    · intro z_4 x_5 hn; exact absurd hn (Nat.not_lt_zero _)
    · intro n_7 L_6 hL_6 z_4 x_5 hn ls hl hf
      unfold g_XMe_isPacked_37 at hf
      refine lv_iload hx hb d_XMe_isPacked_37 (lv_at hl 4 rfl) ?_
      refine lv_iload_n hx hb d_XMe_isPacked_39 rfl (lv_at hl 2 rfl) ?_
      refine lv_iconst (v := (1 : Int32)) hx hb d_XMe_isPacked_40 (by decide) ?_
      refine lv_isub hx hb d_XMe_isPacked_41 ?_
      refine lv_icmp_ge (tgt := 92) hx hb d_XMe_isPacked_42 (by decide) (fun c_8 => ?_) (fun c_8 => ?_)
      · have hf := hf.trans (if_pos c_8)
        refine lv_iload hx hb d_XMe_isPacked_92 (lv_at hl 3 rfl) ?_
        exact hret z_4 _ _ d_XMe_isPacked_94 hf
      · have hf := hf.trans (if_neg c_8)
        refine lv_aload_n hx hb d_XMe_isPacked_45 rfl (lv_at hl 0 rfl) ?_
        refine lv_iload_n hx hb d_XMe_isPacked_46 rfl (lv_at hl 1 rfl) ?_
        refine lv_iload hx hb d_XMe_isPacked_47 (lv_at hl 4 rfl) ?_
        refine lv_iadd hx hb d_XMe_isPacked_49 ?_
        refine z_ri (z_runV (As := [.int (x1 + x_5)]) (rest := []) ⟨hx, hb, hml, hown, hts⟩ (c_XMe_get l D a k u0 (x1 + x_5)) (qX_Me_19 hts (by decide)) hw 2 rfl rfl hl.1 rfl (lv_room (Nat.le_of_ble_eq_true rfl)) d_XMe_isPacked_50 hcs) (fun x_9 ex_9 => ?_)
        have hf := hf.trans (nm_eq ex_9)
        refine lv_istore (lv' := [(6, .int x_9), (0, .ref (a 2)), (1, .int x1), (2, .int x2), (4, .int (bI z_4)), (5, .int x_5)]) hx hb d_XMe_isPacked_53 hl (by decide) rfl (fun ls hl => ?_)
        refine lv_iload hx hb d_XMe_isPacked_55 (lv_at hl 4 rfl) ?_
        refine jn_cut hf (fun (K_11 : Bool → Bool) => ∀ (z_10 : Bool), ∀ (ls : Array Slot), lv_has ls 7 [(0, .ref (a 2)), (1, .int x1), (2, .int x2), (5, .int x_5)] → F = K_11 z_10 → W p l e rm_XMe_isPacked st m args below meth c H locs 0 0 Q (F0 m 84 ls [.int (bI z_10)])) ?_ ?_
        · intro z_10 ls hl hf
          refine lv_istore (lv' := [(4, .int (bI z_10)), (0, .ref (a 2)), (1, .int x1), (2, .int x2), (5, .int x_5)]) hx hb d_XMe_isPacked_84 hl (by decide) rfl (fun ls hl => ?_)
          obtain ⟨x_12, ex_12⟩ : ∃ y : Int32, y = x_5 + (1 : Int32) := ⟨_, rfl⟩
          have hf := hf.trans (nm_eq ex_12)
          refine lv_iinc (v := x_12) (lv' := [(5, .int x_12), (4, .int (bI z_10)), (0, .ref (a 2)), (1, .int x1), (2, .int x2)]) hx hb d_XMe_isPacked_86 hl (k := 4) rfl (by rw [ex_12]; rfl) (by decide) rfl (fun ls hl => ?_)
          refine lv_goto (tgt := 37) hx hb d_XMe_isPacked_89 (by decide) ?_
          exact hL_6 z_10 x_12 (mu_up c_8 ex_12 hn) _ (lv_sub hl [2, 3, 4, 1, 0] rfl) hf
        · intro K_11 hK_11 hf
          refine jn_cut hf (fun (K_13 : Bool) => ∀ (ls : Array Slot), lv_has ls 7 [(0, .ref (a 2)), (1, .int x1), (2, .int x2), (5, .int x_5)] → F = K_13 → W p l e rm_XMe_isPacked st m args below meth c H locs 0 0 Q (F0 m 83 ls [])) ?_ ?_
          · intro ls hl hf
            refine lv_iconst (v := (0 : Int32)) hx hb d_XMe_isPacked_83 (by decide) ?_
            exact hK_11 false _ (lv_sub hl [0, 1, 2, 3] rfl) hf
          · intro K_13 hK_13 hf
            refine lv_if_eq (tgt := 83) hx hb d_XMe_isPacked_57 (by decide) (fun c_14 => ?_) (fun c_14 => ?_)
            · have hf := hf.trans (if_pos c_14)
              exact hK_13 _ (lv_sub hl [1, 2, 3, 5] rfl) hf
            · have hf := hf.trans (if_neg c_14)
              refine lv_iload hx hb d_XMe_isPacked_60 (lv_at hl 0 rfl) ?_
              refine lv_iconst (v := (4 : Int32)) hx hb d_XMe_isPacked_62 (by decide) ?_
              refine lv_ishr hx hb d_XMe_isPacked_63 ?_
              refine lv_bipush (v := (9 : Int32)) hx hb d_XMe_isPacked_64 (by decide) ?_
              refine lv_icmp_gt (tgt := 83) hx hb d_XMe_isPacked_66 (by decide) (fun c_15 => ?_) (fun c_15 => ?_)
              · have hf := hf.trans (if_pos c_15)
                exact hK_13 _ (lv_sub hl [1, 2, 3, 5] rfl) hf
              · have hf := hf.trans (if_neg c_15)
                refine lv_iload hx hb d_XMe_isPacked_69 (lv_at hl 0 rfl) ?_
                refine lv_bipush (v := (15 : Int32)) hx hb d_XMe_isPacked_71 (by decide) ?_
                refine lv_iand hx hb d_XMe_isPacked_73 ?_
                refine lv_bipush (v := (9 : Int32)) hx hb d_XMe_isPacked_74 (by decide) ?_
                refine lv_icmp_gt (tgt := 83) hx hb d_XMe_isPacked_76 (by decide) (fun c_16 => ?_) (fun c_16 => ?_)
                · have hf := hf.trans (if_pos c_16)
                  exact hK_13 _ (lv_sub hl [1, 2, 3, 5] rfl) hf
                · have hf := hf.trans (if_neg c_16)
                  refine lv_iconst (v := (1 : Int32)) hx hb d_XMe_isPacked_79 (by decide) ?_
                  refine lv_goto (tgt := 84) hx hb d_XMe_isPacked_80 (by decide) ?_
                  exact hK_11 true _ (lv_sub hl [1, 2, 3, 5] rfl) hf
  · intro K_3 hK_3 hf
    refine jn_cut hf (fun (K_17 : Bool) => ∀ (ls : Array Slot), lv_has ls 7 [(0, .ref (a 2)), (1, .int x1), (2, .int x2)] → F = K_17 → W p l e rm_XMe_isPacked st m args below meth c H locs 0 0 Q (F0 m 31 ls [])) ?_ ?_
    · intro ls hl hf
      refine lv_iconst (v := (0 : Int32)) hx hb d_XMe_isPacked_31 (by decide) ?_
      exact hK_3 false _ (lv_sub hl [0, 1, 2] rfl) hf
    · intro K_17 hK_17 hf
      refine lv_icmp_gt (tgt := 31) hx hb d_XMe_isPacked_15 (by decide) (fun c_18 => ?_) (fun c_18 => ?_)
      · have hf := hf.trans (if_pos c_18)
        exact hK_17 _ (lv_sub hl [1, 2, 3] rfl) hf
      · have hf := hf.trans (if_neg c_18)
        refine lv_iload_n hx hb d_XMe_isPacked_18 rfl (lv_at hl 0 rfl) ?_
        refine lv_bipush (v := (15 : Int32)) hx hb d_XMe_isPacked_19 (by decide) ?_
        refine lv_iand hx hb d_XMe_isPacked_21 ?_
        refine lv_bipush (v := (10 : Int32)) hx hb d_XMe_isPacked_22 (by decide) ?_
        refine lv_icmp_lt (tgt := 31) hx hb d_XMe_isPacked_24 (by decide) (fun c_19 => ?_) (fun c_19 => ?_)
        · have hf := hf.trans (if_pos c_19)
          exact hK_17 _ (lv_sub hl [1, 2, 3] rfl) hf
        · have hf := hf.trans (if_neg c_19)
          refine lv_iconst (v := (1 : Int32)) hx hb d_XMe_isPacked_27 (by decide) ?_
          refine lv_goto (tgt := 32) hx hb d_XMe_isPacked_28 (by decide) ?_
          exact hK_3 true _ (lv_sub hl [1, 2, 3] rfl) hf
def f_XMe_isMinus (u0 : XS) (x1 : Int32) (x2 : Int32) : Bool := nm (f_XMe_get u0 ((x1 + x2) - (1 : Int32))) (fun (x_1 : Int32) => nm (x_1 &&& (15 : Int32)) (fun (x_2 : Int32) => if x_2 = (13 : Int32) then true else if x_2 = (11 : Int32) then true else false))
set_option maxHeartbeats 4000000 in
set_option maxRecDepth 100000 in
theorem c_XMe_isMinus (l : Launch) (D : va_G) (a : Nat → Nat) (k : Nat → ClassId) (u0 : XS) (x1 : Int32) (x2 : Int32) : zRz l y_XMe_isMinus w_XMe_isMinus rm_XMe_isMinus D clX (tyX k) nwX (xW a k) [.ref (a 2), .int x1, .int x2] u0 (f_XMe_isMinus u0 x1 x2) := by
  generalize hF : f_XMe_isMinus u0 x1 x2 = F
  have hf := hF.symm
  unfold f_XMe_isMinus at hf
  refine zRz_of (cc := b_XMe_isMinus) (maxL := 4) (own := RX_Me) (by decide) rfl rfl (Nat.le_of_ble_eq_true rfl) ?_
  intro p e R st m args below meth c H locs Q ls hR hx hb hml hown hts hw hret hl
  subst hR
  have hcs : 0 ≤ (rm_XMe_isMinus).cells ∧ 0 ≤ (rm_XMe_isMinus).slots := ⟨Nat.zero_le _, Nat.zero_le _⟩
  have hl : lv_has ls 4 [(0, .ref (a 2)), (1, .int x1), (2, .int x2)] := hl
  refine lv_aload_n hx hb d_XMe_isMinus_0 rfl (lv_at hl 0 rfl) ?_
  refine lv_iload_n hx hb d_XMe_isMinus_1 rfl (lv_at hl 1 rfl) ?_
  refine lv_iload_n hx hb d_XMe_isMinus_2 rfl (lv_at hl 2 rfl) ?_
  refine lv_iadd hx hb d_XMe_isMinus_3 ?_
  refine lv_iconst (v := (1 : Int32)) hx hb d_XMe_isMinus_4 (by decide) ?_
  refine lv_isub hx hb d_XMe_isMinus_5 ?_
  refine z_ri (z_runV (As := [.int ((x1 + x2) - (1 : Int32))]) (rest := []) ⟨hx, hb, hml, hown, hts⟩ (c_XMe_get l D a k u0 ((x1 + x2) - (1 : Int32))) (qX_Me_19 hts (by decide)) hw 2 rfl rfl hl.1 rfl (lv_room (Nat.le_of_ble_eq_true rfl)) d_XMe_isMinus_6 hcs) (fun x_1 ex_1 => ?_)
  have hf := hf.trans (nm_eq ex_1)
  refine lv_bipush (v := (15 : Int32)) hx hb d_XMe_isMinus_9 (by decide) ?_
  refine lv_iand hx hb d_XMe_isMinus_11 ?_
  refine lv_topi (fun x_2 ex_2 => ?_)
  have hf := hf.trans (nm_eq ex_2)
  refine lv_istore_n (lv' := [(3, .int x_2), (0, .ref (a 2)), (1, .int x1), (2, .int x2)]) hx hb d_XMe_isMinus_12 rfl hl (by decide) rfl (fun ls hl => ?_)
  refine lv_iload_n hx hb d_XMe_isMinus_13 rfl (lv_at hl 0 rfl) ?_
  refine lv_bipush (v := (13 : Int32)) hx hb d_XMe_isMinus_14 (by decide) ?_
  refine lv_icmp_eq (tgt := 25) hx hb d_XMe_isMinus_16 (by decide) (fun c_3 => ?_) (fun c_3 => ?_)
  · have hf := hf.trans (if_pos c_3)
    refine lv_iconst (v := (1 : Int32)) hx hb d_XMe_isMinus_25 (by decide) ?_
    refine lv_goto (tgt := 30) hx hb d_XMe_isMinus_26 (by decide) ?_
    exact hret true _ _ d_XMe_isMinus_30 hf
  · have hf := hf.trans (if_neg c_3)
    refine lv_iload_n hx hb d_XMe_isMinus_19 rfl (lv_at hl 0 rfl) ?_
    refine lv_bipush (v := (11 : Int32)) hx hb d_XMe_isMinus_20 (by decide) ?_
    refine lv_icmp_ne (tgt := 29) hx hb d_XMe_isMinus_22 (by decide) (fun c_4 => ?_) (fun c_4 => ?_)
    · have hf := hf.trans (if_neg c_4)
      refine lv_iconst (v := (0 : Int32)) hx hb d_XMe_isMinus_29 (by decide) ?_
      exact hret false _ _ d_XMe_isMinus_30 hf
    · have hf := hf.trans (if_pos c_4)
      refine lv_iconst (v := (1 : Int32)) hx hb d_XMe_isMinus_25 (by decide) ?_
      refine lv_goto (tgt := 30) hx hb d_XMe_isMinus_26 (by decide) ?_
      exact hret true _ _ d_XMe_isMinus_30 hf
def g_XMe_decimal_5 (x2 : Int32) (K_2 : Int64 → Int64) (u0 : XS) (x1 : Int32) (L_9 : Int64 → Int32 → Int64) : Int64 → Int32 → Int64 := fun y_7 x_8 => if (x2 - (1 : Int32)) ≤ x_8 then K_2 y_7 else nm (f_XMe_get u0 (x1 + x_8)) (fun (x_12 : Int32) => nm (((y_7 * (100 : Int64)) + (Int32.toInt64 ((x_12 >>> ((4 : Int32) &&& 31)) * (10 : Int32)))) + (Int32.toInt64 (x_12 &&& (15 : Int32)))) (fun (y_13 : Int64) => nm (x_8 + (1 : Int32)) (fun (x_14 : Int32) => L_9 y_13 x_14)))
def f_XMe_decimal (u0 : XS) (x1 : Int32) (x2 : Int32) : Int64 := jn (fun (K_2 : Int64 → Int64) => lpN ((Int32.toInt (x2 - 1) - Int32.toInt (0 : Int32)).toNat + 1) (g_XMe_decimal_5 x2 K_2 u0 x1) (fun _ _ => default) (0 : Int64) (0 : Int32)) (fun (y_1 : Int64) => nm (f_XMe_get u0 ((x1 + x2) - (1 : Int32))) (fun (x_3 : Int32) => nm ((y_1 * (10 : Int64)) + (Int32.toInt64 (x_3 >>> ((4 : Int32) &&& 31)))) (fun (y_4 : Int64) => nm (f_XMe_isMinus u0 x1 x2) (fun (z_5 : Bool) => if (bI z_5) = (0 : Int32) then y_4 else (-y_4)))))
set_option maxHeartbeats 4000000 in
set_option maxRecDepth 100000 in
theorem c_XMe_decimal (l : Launch) (D : va_G) (a : Nat → Nat) (k : Nat → ClassId) (u0 : XS) (x1 : Int32) (x2 : Int32) : zRl l y_XMe_decimal w_XMe_decimal rm_XMe_decimal D clX (tyX k) nwX (xW a k) [.ref (a 2), .int x1, .int x2] u0 (f_XMe_decimal u0 x1 x2) := by
  generalize hF : f_XMe_decimal u0 x1 x2 = F
  have hf := hF.symm
  unfold f_XMe_decimal at hf
  refine zRl_of (cc := b_XMe_decimal) (maxL := 7) (own := RX_Me) (by decide) rfl rfl (Nat.le_of_ble_eq_true rfl) ?_
  intro p e R st m args below meth c H locs Q ls hR hx hb hml hown hts hw hret hl
  subst hR
  have hcs : 0 ≤ (rm_XMe_decimal).cells ∧ 0 ≤ (rm_XMe_decimal).slots := ⟨Nat.zero_le _, Nat.zero_le _⟩
  have hl : lv_has ls 7 [(0, .ref (a 2)), (1, .int x1), (2, .int x2)] := hl
  refine lv_lconst (v := 0) hx hb d_XMe_decimal_0 (by decide) ?_
  refine lv_lstore_n (lv' := [(3, .long (0 : Int64)), (0, .ref (a 2)), (1, .int x1), (2, .int x2)]) hx hb d_XMe_decimal_1 rfl hl (by decide) rfl (fun ls hl => ?_)
  refine lv_iconst (v := (0 : Int32)) hx hb d_XMe_decimal_2 (by decide) ?_
  refine lv_istore (lv' := [(5, .int (0 : Int32)), (3, .long (0 : Int64)), (0, .ref (a 2)), (1, .int x1), (2, .int x2)]) hx hb d_XMe_decimal_3 hl (by decide) rfl (fun ls hl => ?_)
  refine jn_cut hf (fun (K_2 : Int64 → Int64) => ∀ (y_1 : Int64), ∀ (ls : Array Slot), lv_has ls 7 [(0, .ref (a 2)), (1, .int x1), (2, .int x2), (3, .long y_1)] → F = K_2 y_1 → W p l e rm_XMe_decimal st m args below meth c H locs 0 0 Q (F0 m 51 ls [])) ?_ ?_
  · intro y_1 ls hl hf
    refine lv_lload_n hx hb d_XMe_decimal_51 rfl (lv_at hl 3 rfl) ?_
    refine lv_ldc2 (v := (10 : Int64)) hx hb hown (hts _ kX_Me_31) d_XMe_decimal_52 ?_
    refine lv_lmul hx hb d_XMe_decimal_55 ?_
    refine lv_aload_n hx hb d_XMe_decimal_56 rfl (lv_at hl 0 rfl) ?_
    refine lv_iload_n hx hb d_XMe_decimal_57 rfl (lv_at hl 1 rfl) ?_
    refine lv_iload_n hx hb d_XMe_decimal_58 rfl (lv_at hl 2 rfl) ?_
    refine lv_iadd hx hb d_XMe_decimal_59 ?_
    refine lv_iconst (v := (1 : Int32)) hx hb d_XMe_decimal_60 (by decide) ?_
    refine lv_isub hx hb d_XMe_decimal_61 ?_
    refine z_ri (z_runV (As := [.int ((x1 + x2) - (1 : Int32))]) (rest := [.long (y_1 * (10 : Int64))]) ⟨hx, hb, hml, hown, hts⟩ (c_XMe_get l D a k u0 ((x1 + x2) - (1 : Int32))) (qX_Me_19 hts (by decide)) hw 2 rfl rfl hl.1 rfl (lv_room (Nat.le_of_ble_eq_true rfl)) d_XMe_decimal_62 hcs) (fun x_3 ex_3 => ?_)
    have hf := hf.trans (nm_eq ex_3)
    refine lv_iconst (v := (4 : Int32)) hx hb d_XMe_decimal_65 (by decide) ?_
    refine lv_ishr hx hb d_XMe_decimal_66 ?_
    refine lv_i2l (v := Int32.toInt64 (x_3 >>> ((4 : Int32) &&& 31))) hx hb d_XMe_decimal_67 rfl ?_
    refine lv_ladd hx hb d_XMe_decimal_68 ?_
    refine lv_topl (fun y_4 ey_4 => ?_)
    have hf := hf.trans (nm_eq ey_4)
    refine lv_lstore_n (lv' := [(3, .long y_4), (0, .ref (a 2)), (1, .int x1), (2, .int x2)]) hx hb d_XMe_decimal_69 rfl hl (by decide) rfl (fun ls hl => ?_)
    refine lv_aload_n hx hb d_XMe_decimal_70 rfl (lv_at hl 1 rfl) ?_
    refine lv_iload_n hx hb d_XMe_decimal_71 rfl (lv_at hl 2 rfl) ?_
    refine lv_iload_n hx hb d_XMe_decimal_72 rfl (lv_at hl 3 rfl) ?_
    refine z_rz (z_runV (As := [.int x1, .int x2]) (rest := []) ⟨hx, hb, hml, hown, hts⟩ (c_XMe_isMinus l D a k u0 x1 x2) (qX_Me_33 hts (by decide)) hw 2 rfl rfl hl.1 rfl (lv_room (Nat.le_of_ble_eq_true rfl)) d_XMe_decimal_73 hcs) (fun z_5 ez_5 => ?_)
    have hf := hf.trans (nm_eq ez_5)
    refine lv_if_eq (tgt := 84) hx hb d_XMe_decimal_76 (by decide) (fun c_6 => ?_) (fun c_6 => ?_)
    · have hf := hf.trans (if_pos c_6)
      refine lv_lload_n hx hb d_XMe_decimal_84 rfl (lv_at hl 0 rfl) ?_
      exact hret y_4 _ _ d_XMe_decimal_85 hf
    · have hf := hf.trans (if_neg c_6)
      refine lv_lload_n hx hb d_XMe_decimal_79 rfl (lv_at hl 0 rfl) ?_
      refine lv_lneg hx hb d_XMe_decimal_80 ?_
      refine lv_goto (tgt := 85) hx hb d_XMe_decimal_81 (by decide) ?_
      exact hret (-y_4) _ _ d_XMe_decimal_85 hf
  · intro K_2 hK_2 hf
    refine lp_cut (fun (n_10 : Nat) (L_9 : Int64 → Int32 → Int64) => ∀ (y_7 : Int64) (x_8 : Int32), (Int32.toInt (x2 - 1) - Int32.toInt x_8).toNat < n_10 → ∀ (ls : Array Slot), lv_has ls 7 [(0, .ref (a 2)), (1, .int x1), (2, .int x2), (3, .long y_7), (5, .int x_8)] → F = L_9 y_7 x_8 → W p l e rm_XMe_decimal st m args below meth c H locs 0 0 Q (F0 m 5 ls [])) ?_ ?_ ((Int32.toInt (x2 - 1) - Int32.toInt (0 : Int32)).toNat + 1) (0 : Int64) (0 : Int32) (Nat.lt_succ_self _) _ (lv_sub hl [2, 3, 4, 1, 0] rfl) hf
    · intro y_7 x_8 hn; exact absurd hn (Nat.not_lt_zero _)
    · intro n_10 L_9 hL_9 y_7 x_8 hn ls hl hf
      unfold g_XMe_decimal_5 at hf
      refine lv_iload hx hb d_XMe_decimal_5 (lv_at hl 4 rfl) ?_
      refine lv_iload_n hx hb d_XMe_decimal_7 rfl (lv_at hl 2 rfl) ?_
      refine lv_iconst (v := (1 : Int32)) hx hb d_XMe_decimal_8 (by decide) ?_
      refine lv_isub hx hb d_XMe_decimal_9 ?_
      refine lv_icmp_ge (tgt := 51) hx hb d_XMe_decimal_10 (by decide) (fun c_11 => ?_) (fun c_11 => ?_)
      · have hf := hf.trans (if_pos c_11)
        exact hK_2 y_7 _ (lv_sub hl [0, 1, 2, 3] rfl) hf
      · have hf := hf.trans (if_neg c_11)
        refine lv_aload_n hx hb d_XMe_decimal_13 rfl (lv_at hl 0 rfl) ?_
        refine lv_iload_n hx hb d_XMe_decimal_14 rfl (lv_at hl 1 rfl) ?_
        refine lv_iload hx hb d_XMe_decimal_15 (lv_at hl 4 rfl) ?_
        refine lv_iadd hx hb d_XMe_decimal_17 ?_
        refine z_ri (z_runV (As := [.int (x1 + x_8)]) (rest := []) ⟨hx, hb, hml, hown, hts⟩ (c_XMe_get l D a k u0 (x1 + x_8)) (qX_Me_19 hts (by decide)) hw 2 rfl rfl hl.1 rfl (lv_room (Nat.le_of_ble_eq_true rfl)) d_XMe_decimal_18 hcs) (fun x_12 ex_12 => ?_)
        have hf := hf.trans (nm_eq ex_12)
        refine lv_istore (lv' := [(6, .int x_12), (0, .ref (a 2)), (1, .int x1), (2, .int x2), (3, .long y_7), (5, .int x_8)]) hx hb d_XMe_decimal_21 hl (by decide) rfl (fun ls hl => ?_)
        refine lv_lload_n hx hb d_XMe_decimal_23 rfl (lv_at hl 4 rfl) ?_
        refine lv_ldc2 (v := (100 : Int64)) hx hb hown (hts _ kX_Me_29) d_XMe_decimal_24 ?_
        refine lv_lmul hx hb d_XMe_decimal_27 ?_
        refine lv_iload hx hb d_XMe_decimal_28 (lv_at hl 0 rfl) ?_
        refine lv_iconst (v := (4 : Int32)) hx hb d_XMe_decimal_30 (by decide) ?_
        refine lv_ishr hx hb d_XMe_decimal_31 ?_
        refine lv_bipush (v := (10 : Int32)) hx hb d_XMe_decimal_32 (by decide) ?_
        refine lv_imul hx hb d_XMe_decimal_34 ?_
        refine lv_i2l (v := Int32.toInt64 ((x_12 >>> ((4 : Int32) &&& 31)) * (10 : Int32))) hx hb d_XMe_decimal_35 rfl ?_
        refine lv_ladd hx hb d_XMe_decimal_36 ?_
        refine lv_iload hx hb d_XMe_decimal_37 (lv_at hl 0 rfl) ?_
        refine lv_bipush (v := (15 : Int32)) hx hb d_XMe_decimal_39 (by decide) ?_
        refine lv_iand hx hb d_XMe_decimal_41 ?_
        refine lv_i2l (v := Int32.toInt64 (x_12 &&& (15 : Int32))) hx hb d_XMe_decimal_42 rfl ?_
        refine lv_ladd hx hb d_XMe_decimal_43 ?_
        refine lv_topl (fun y_13 ey_13 => ?_)
        have hf := hf.trans (nm_eq ey_13)
        refine lv_lstore_n (lv' := [(3, .long y_13), (6, .int x_12), (0, .ref (a 2)), (1, .int x1), (2, .int x2), (5, .int x_8)]) hx hb d_XMe_decimal_44 rfl hl (by decide) rfl (fun ls hl => ?_)
        obtain ⟨x_14, ex_14⟩ : ∃ y : Int32, y = x_8 + (1 : Int32) := ⟨_, rfl⟩
        have hf := hf.trans (nm_eq ex_14)
        refine lv_iinc (v := x_14) (lv' := [(5, .int x_14), (3, .long y_13), (6, .int x_12), (0, .ref (a 2)), (1, .int x1), (2, .int x2)]) hx hb d_XMe_decimal_45 hl (k := 5) rfl (by rw [ex_14]; rfl) (by decide) rfl (fun ls hl => ?_)
        refine lv_goto (tgt := 5) hx hb d_XMe_decimal_48 (by decide) ?_
        exact hL_9 y_13 x_14 (mu_up c_11 ex_14 hn) _ (lv_sub hl [3, 4, 5, 1, 0] rfl) hf
end
section
def f_XDe_convertToBinary (u0 : XS)  : Int32 × XS := nm (f_XMe_isPacked u0 (xF u0 9) (8 : Int32)) (fun (z_1 : Bool) => if (bI z_1) = (0 : Int32) then ((7 : Int32), u0) else nm (f_XMe_decimal u0 (xF u0 9) (8 : Int32)) (fun (y_3 : Int64) => if y_3 = (Int32.toInt64 (Int64.toInt32 y_3)) then nm (f_XSt_put u0 (xF u0 6) (Int64.toInt32 y_3)) (fun (u_5 : XS) => ((0 : Int32), u_5)) else ((9 : Int32), u0)))
set_option maxHeartbeats 4000000 in
set_option maxRecDepth 100000 in
theorem c_XDe_convertToBinary (l : Launch) (D : va_G) (a : Nat → Nat) (k : Nat → ClassId) (u0 : XS)  : zMi l y_XDe_convertToBinary w_XDe_convertToBinary rm_XDe_convertToBinary D clX (tyX k) nwX (xW a k) [.ref (a 11), .ref (a 6)] u0 (f_XDe_convertToBinary u0) := by
  generalize hF : f_XDe_convertToBinary u0 = F
  have hf := hF.symm
  unfold f_XDe_convertToBinary at hf
  refine zMi_of (cc := b_XDe_convertToBinary) (maxL := 4) (own := RX_De) (by decide) rfl rfl (Nat.le_of_ble_eq_true rfl) ?_
  intro p e R st m args below meth c A H locs Q ls hR hx hb hml hown hts hw hS hret hl
  subst hR
  have hcs : 0 ≤ (rm_XDe_convertToBinary).cells ∧ 0 ≤ (rm_XDe_convertToBinary).slots := ⟨Nat.zero_le _, Nat.zero_le _⟩
  have hl : lv_has ls 4 [(0, .ref (a 11)), (1, .ref (a 6))] := hl
  refine lv_aload_n hx hb d_XDe_convertToBinary_0 rfl (lv_at hl 0 rfl) ?_
  refine va_get (v := .ref (a 2)) hx hb hts iX_De hown hw.2.1 hw.1 11 rfl rfl 1 (by decide) (hts _ kX_De_25) (fun _ h => h) rfl d_XDe_convertToBinary_1 ?_
  refine lv_aload_n hx hb d_XDe_convertToBinary_4 rfl (lv_at hl 1 rfl) ?_
  refine va_getN (v := .int (xF u0 9)) hx hb hts iX_In hown hw.2.1 hw.1 6 rfl rfl 5 (by decide) (va_Nw.use rfl (hw.2.2.2 _ kX_De_26).2) (fun _ h => h) rfl d_XDe_convertToBinary_5 ?_
  refine lv_bipush (v := (8 : Int32)) hx hb d_XDe_convertToBinary_8 (by decide) ?_
  refine z_rz (z_runV (As := [.int (xF u0 9), .int (8 : Int32)]) (rest := []) ⟨hx, hb, hml, hown, hts⟩ (c_XMe_isPacked l D a k u0 (xF u0 9) (8 : Int32)) (qX_De_62 hts (by decide)) hw 2 rfl rfl hl.1 rfl (lv_room (Nat.le_of_ble_eq_true rfl)) d_XDe_convertToBinary_10 hcs) (fun z_1 ez_1 => ?_)
  have hf := hf.trans (nm_eq ez_1)
  refine lv_if_ne (tgt := 19) hx hb d_XDe_convertToBinary_13 (by decide) (fun c_2 => ?_) (fun c_2 => ?_)
  · have hf := hf.trans (if_neg c_2)
    refine lv_aload_n hx hb d_XDe_convertToBinary_19 rfl (lv_at hl 0 rfl) ?_
    refine va_get (v := .ref (a 2)) hx hb hts iX_De hown hw.2.1 hw.1 11 rfl rfl 1 (by decide) (hts _ kX_De_25) (fun _ h => h) rfl d_XDe_convertToBinary_20 ?_
    refine lv_aload_n hx hb d_XDe_convertToBinary_23 rfl (lv_at hl 1 rfl) ?_
    refine va_getN (v := .int (xF u0 9)) hx hb hts iX_In hown hw.2.1 hw.1 6 rfl rfl 5 (by decide) (va_Nw.use rfl (hw.2.2.2 _ kX_De_26).2) (fun _ h => h) rfl d_XDe_convertToBinary_24 ?_
    refine lv_bipush (v := (8 : Int32)) hx hb d_XDe_convertToBinary_27 (by decide) ?_
    refine z_rl (z_runV (As := [.int (xF u0 9), .int (8 : Int32)]) (rest := []) ⟨hx, hb, hml, hown, hts⟩ (c_XMe_decimal l D a k u0 (xF u0 9) (8 : Int32)) (qX_De_66 hts (by decide)) hw 2 rfl rfl hl.1 rfl (lv_room (Nat.le_of_ble_eq_true rfl)) d_XDe_convertToBinary_29 hcs) (fun y_3 ey_3 => ?_)
    have hf := hf.trans (nm_eq ey_3)
    refine lv_lstore_n (lv' := [(2, .long y_3), (0, .ref (a 11)), (1, .ref (a 6))]) hx hb d_XDe_convertToBinary_32 rfl hl (by decide) rfl (fun ls hl => ?_)
    refine lv_lload_n hx hb d_XDe_convertToBinary_33 rfl (lv_at hl 0 rfl) ?_
    refine lv_lload_n hx hb d_XDe_convertToBinary_34 rfl (lv_at hl 0 rfl) ?_
    refine lv_l2i (v := Int64.toInt32 y_3) hx hb d_XDe_convertToBinary_35 rfl ?_
    refine lv_i2l (v := Int32.toInt64 (Int64.toInt32 y_3)) hx hb d_XDe_convertToBinary_36 rfl ?_
    refine z_lcmp_eq (tgt := 44) hx hb d_XDe_convertToBinary_37 d_XDe_convertToBinary_38 (by decide) (fun c_4 => ?_) (fun c_4 => ?_)
    · have hf := hf.trans (if_pos c_4)
      refine lv_aload_n hx hb d_XDe_convertToBinary_44 rfl (lv_at hl 1 rfl) ?_
      refine va_get (v := .ref (a 1)) hx hb hts iX_De hown hw.2.1 hw.1 11 rfl rfl 0 (by decide) (hts _ kX_De_15) (fun _ h => h) rfl d_XDe_convertToBinary_45 ?_
      refine lv_aload_n hx hb d_XDe_convertToBinary_48 rfl (lv_at hl 2 rfl) ?_
      refine va_getN (v := .int (xF u0 6)) hx hb hts iX_In hown hw.2.1 hw.1 6 rfl rfl 2 (by decide) (va_Nw.use rfl (hw.2.2.2 _ kX_De_41).2) (fun _ h => h) rfl d_XDe_convertToBinary_49 ?_
      refine lv_lload_n hx hb d_XDe_convertToBinary_52 rfl (lv_at hl 0 rfl) ?_
      refine lv_l2i (v := Int64.toInt32 y_3) hx hb d_XDe_convertToBinary_53 rfl ?_
      refine z_wv (z_runV (As := [.int (xF u0 6), .int (Int64.toInt32 y_3)]) (rest := []) ⟨hx, hb, hml, hown, hts⟩ (c_XSt_put l D a k u0 (xF u0 6) (Int64.toInt32 y_3)) (qX_De_70 hts (by decide)) hw 1 rfl rfl hl.1 rfl (lv_room (Nat.le_of_ble_eq_true rfl)) d_XDe_convertToBinary_54 hcs) hw hS (fun u_5 H locs eu_5 hw hS => ?_)
      have hf := hf.trans (nm_eq eu_5)
      refine lv_iconst (v := (0 : Int32)) hx hb d_XDe_convertToBinary_57 (by decide) ?_
      exact hret (0 : Int32) _ _ _ _ _ d_XDe_convertToBinary_58 hw hS hf
    · have hf := hf.trans (if_neg c_4)
      refine lv_bipush (v := (9 : Int32)) hx hb d_XDe_convertToBinary_41 (by decide) ?_
      exact hret (9 : Int32) _ _ _ _ _ d_XDe_convertToBinary_43 hw hS hf
  · have hf := hf.trans (if_pos c_2)
    refine lv_bipush (v := (7 : Int32)) hx hb d_XDe_convertToBinary_16 (by decide) ?_
    exact hret (7 : Int32) _ _ _ _ _ d_XDe_convertToBinary_18 hw hS hf
def f_XDe_convert (u0 : XS)  : Int32 × XS := nm (f_XMe_faultOf u0 (xF u0 9) (8 : Int32)) (fun (x_1 : Int32) => if x_1 = (0 : Int32) then if (xF u0 4) = (78 : Int32) then nm (f_XSt_value u0 (xF u0 6)) (fun (x_6 : Int32) => nm (Int32.toInt64 x_6) (fun (y_7 : Int64) => if (0 : Int64) ≤ y_7 then nm (f_XMe_putDecimal u0 (xF u0 9) (8 : Int32) (if 0 < y_7 then y_7 else -y_7) false) (fun (u_9 : XS) => ((0 : Int32), u_9)) else nm (f_XMe_putDecimal u0 (xF u0 9) (8 : Int32) (if 0 < y_7 then y_7 else -y_7) true) (fun (u_10 : XS) => ((0 : Int32), u_10)))) else pr (f_XDe_convertToBinary u0) (fun (x_5 : Int32) (u_4 : XS) => (x_5, u_4)) else (x_1, u0))
set_option maxHeartbeats 4000000 in
set_option maxRecDepth 100000 in
theorem c_XDe_convert (l : Launch) (D : va_G) (a : Nat → Nat) (k : Nat → ClassId) (u0 : XS)  : zMi l y_XDe_convert w_XDe_convert rm_XDe_convert D clX (tyX k) nwX (xW a k) [.ref (a 11), .ref (a 6)] u0 (f_XDe_convert u0) := by
  generalize hF : f_XDe_convert u0 = F
  have hf := hF.symm
  unfold f_XDe_convert at hf
  refine zMi_of (cc := b_XDe_convert) (maxL := 5) (own := RX_De) (by decide) rfl rfl (Nat.le_of_ble_eq_true rfl) ?_
  intro p e R st m args below meth c A H locs Q ls hR hx hb hml hown hts hw hS hret hl
  subst hR
  have hcs : 0 ≤ (rm_XDe_convert).cells ∧ 0 ≤ (rm_XDe_convert).slots := ⟨Nat.zero_le _, Nat.zero_le _⟩
  have hl : lv_has ls 5 [(0, .ref (a 11)), (1, .ref (a 6))] := hl
  refine lv_aload_n hx hb d_XDe_convert_0 rfl (lv_at hl 0 rfl) ?_
  refine va_get (v := .ref (a 2)) hx hb hts iX_De hown hw.2.1 hw.1 11 rfl rfl 1 (by decide) (hts _ kX_De_25) (fun _ h => h) rfl d_XDe_convert_1 ?_
  refine lv_aload_n hx hb d_XDe_convert_4 rfl (lv_at hl 1 rfl) ?_
  refine va_getN (v := .int (xF u0 9)) hx hb hts iX_In hown hw.2.1 hw.1 6 rfl rfl 5 (by decide) (va_Nw.use rfl (hw.2.2.2 _ kX_De_26).2) (fun _ h => h) rfl d_XDe_convert_5 ?_
  refine lv_bipush (v := (8 : Int32)) hx hb d_XDe_convert_8 (by decide) ?_
  refine z_ri (z_runV (As := [.int (xF u0 9), .int (8 : Int32)]) (rest := []) ⟨hx, hb, hml, hown, hts⟩ (c_XMe_faultOf l D a k u0 (xF u0 9) (8 : Int32)) (qX_De_32 hts (by decide)) hw 2 rfl rfl hl.1 rfl (lv_room (Nat.le_of_ble_eq_true rfl)) d_XDe_convert_10 hcs) (fun x_1 ex_1 => ?_)
  have hf := hf.trans (nm_eq ex_1)
  refine lv_istore_n (lv' := [(2, .int x_1), (0, .ref (a 11)), (1, .ref (a 6))]) hx hb d_XDe_convert_13 rfl hl (by decide) rfl (fun ls hl => ?_)
  refine lv_iload_n hx hb d_XDe_convert_14 rfl (lv_at hl 0 rfl) ?_
  refine lv_if_eq (tgt := 20) hx hb d_XDe_convert_15 (by decide) (fun c_2 => ?_) (fun c_2 => ?_)
  · have hf := hf.trans (if_pos c_2)
    refine lv_aload_n hx hb d_XDe_convert_20 rfl (lv_at hl 2 rfl) ?_
    refine va_getN (v := .int (xF u0 4)) hx hb hts iX_In hown hw.2.1 hw.1 6 rfl rfl 0 (by decide) (va_Nw.use rfl (hw.2.2.2 _ kX_De_38).2) (fun _ h => h) rfl d_XDe_convert_21 ?_
    refine lv_bipush (v := (78 : Int32)) hx hb d_XDe_convert_24 (by decide) ?_
    refine lv_icmp_ne (tgt := 72) hx hb d_XDe_convert_26 (by decide) (fun c_3 => ?_) (fun c_3 => ?_)
    · have hf := hf.trans (if_neg c_3)
      refine lv_aload_n hx hb d_XDe_convert_72 rfl (lv_at hl 1 rfl) ?_
      refine lv_aload_n hx hb d_XDe_convert_73 rfl (lv_at hl 2 rfl) ?_
      refine z_wi (z_runV (As := [.ref (a 6)]) (rest := []) ⟨hx, hb, hml, hown, hts⟩ (c_XDe_convertToBinary l D a k u0) (qX_De_58 hts (by decide)) hw 11 rfl rfl hl.1 rfl (lv_room (Nat.le_of_ble_eq_true rfl)) d_XDe_convert_74 hcs) hw hS (fun x_5 u_4 H locs ex_5 hw hS => ?_)
      have hf := hf.trans (pr_eq ex_5)
      exact hret x_5 _ _ _ _ _ d_XDe_convert_77 hw hS hf
    · have hf := hf.trans (if_pos c_3)
      refine lv_aload_n hx hb d_XDe_convert_29 rfl (lv_at hl 1 rfl) ?_
      refine va_get (v := .ref (a 1)) hx hb hts iX_De hown hw.2.1 hw.1 11 rfl rfl 0 (by decide) (hts _ kX_De_15) (fun _ h => h) rfl d_XDe_convert_30 ?_
      refine lv_aload_n hx hb d_XDe_convert_33 rfl (lv_at hl 2 rfl) ?_
      refine va_getN (v := .int (xF u0 6)) hx hb hts iX_In hown hw.2.1 hw.1 6 rfl rfl 2 (by decide) (va_Nw.use rfl (hw.2.2.2 _ kX_De_41).2) (fun _ h => h) rfl d_XDe_convert_34 ?_
      refine z_ri (z_runV (As := [.int (xF u0 6)]) (rest := []) ⟨hx, hb, hml, hown, hts⟩ (c_XSt_value l D a k u0 (xF u0 6)) (qX_De_44 hts (by decide)) hw 1 rfl rfl hl.1 rfl (lv_room (Nat.le_of_ble_eq_true rfl)) d_XDe_convert_37 hcs) (fun x_6 ex_6 => ?_)
      have hf := hf.trans (nm_eq ex_6)
      refine lv_i2l (v := Int32.toInt64 x_6) hx hb d_XDe_convert_40 rfl ?_
      refine lv_topl (fun y_7 ey_7 => ?_)
      have hf := hf.trans (nm_eq ey_7)
      refine lv_lstore_n (lv' := [(3, .long y_7), (2, .int x_1), (0, .ref (a 11)), (1, .ref (a 6))]) hx hb d_XDe_convert_41 rfl hl (by decide) rfl (fun ls hl => ?_)
      refine lv_aload_n hx hb d_XDe_convert_42 rfl (lv_at hl 2 rfl) ?_
      refine va_get (v := .ref (a 2)) hx hb hts iX_De hown hw.2.1 hw.1 11 rfl rfl 1 (by decide) (hts _ kX_De_25) (fun _ h => h) rfl d_XDe_convert_43 ?_
      refine lv_aload_n hx hb d_XDe_convert_46 rfl (lv_at hl 3 rfl) ?_
      refine va_getN (v := .int (xF u0 9)) hx hb hts iX_In hown hw.2.1 hw.1 6 rfl rfl 5 (by decide) (va_Nw.use rfl (hw.2.2.2 _ kX_De_26).2) (fun _ h => h) rfl d_XDe_convert_47 ?_
      refine lv_bipush (v := (8 : Int32)) hx hb d_XDe_convert_50 (by decide) ?_
      refine lv_lload_n hx hb d_XDe_convert_52 rfl (lv_at hl 0 rfl) ?_
      refine va_mabs_long hx hb (hml.trans hl.1.symm) hown (hts _ kX_De_48) (hts _ kX_abs_static) (hts _ kX_abs_ini) (hts _ kX_abs_code) (by decide) (Nat.le_of_ble_eq_true rfl) hcs.1 hcs.2 d_XDe_convert_53 ?_
      refine lv_lload_n hx hb d_XDe_convert_56 rfl (lv_at hl 0 rfl) ?_
      refine lv_lconst (v := 0) hx hb d_XDe_convert_57 (by decide) ?_
      refine z_lcmp_ge (tgt := 66) hx hb d_XDe_convert_58 d_XDe_convert_59 (by decide) (fun c_8 => ?_) (fun c_8 => ?_)
      · have hf := hf.trans (if_pos c_8)
        refine lv_iconst (v := (0 : Int32)) hx hb d_XDe_convert_66 (by decide) ?_
        refine z_wv (z_runV (As := [.int (xF u0 9), .int (8 : Int32), .long (if 0 < y_7 then y_7 else -y_7), .int (0 : Int32)]) (rest := []) ⟨hx, hb, hml, hown, hts⟩ (c_XMe_putDecimal l D a k u0 (xF u0 9) (8 : Int32) (if 0 < y_7 then y_7 else -y_7) false) (qX_De_54 hts (by decide)) hw 2 rfl rfl hl.1 rfl (lv_room (Nat.le_of_ble_eq_true rfl)) d_XDe_convert_67 hcs) hw hS (fun u_9 H locs eu_9 hw hS => ?_)
        have hf := hf.trans (nm_eq eu_9)
        refine lv_iconst (v := (0 : Int32)) hx hb d_XDe_convert_70 (by decide) ?_
        exact hret (0 : Int32) _ _ _ _ _ d_XDe_convert_71 hw hS hf
      · have hf := hf.trans (if_neg c_8)
        refine lv_iconst (v := (1 : Int32)) hx hb d_XDe_convert_62 (by decide) ?_
        refine lv_goto (tgt := 67) hx hb d_XDe_convert_63 (by decide) ?_
        refine z_wv (z_runV (As := [.int (xF u0 9), .int (8 : Int32), .long (if 0 < y_7 then y_7 else -y_7), .int (1 : Int32)]) (rest := []) ⟨hx, hb, hml, hown, hts⟩ (c_XMe_putDecimal l D a k u0 (xF u0 9) (8 : Int32) (if 0 < y_7 then y_7 else -y_7) true) (qX_De_54 hts (by decide)) hw 2 rfl rfl hl.1 rfl (lv_room (Nat.le_of_ble_eq_true rfl)) d_XDe_convert_67 hcs) hw hS (fun u_10 H locs eu_10 hw hS => ?_)
        have hf := hf.trans (nm_eq eu_10)
        refine lv_iconst (v := (0 : Int32)) hx hb d_XDe_convert_70 (by decide) ?_
        exact hret (0 : Int32) _ _ _ _ _ d_XDe_convert_71 hw hS hf
  · have hf := hf.trans (if_neg c_2)
    refine lv_iload_n hx hb d_XDe_convert_18 rfl (lv_at hl 0 rfl) ?_
    exact hret x_1 _ _ _ _ _ d_XDe_convert_19 hw hS hf
def f_XDe_sourceOctet (u0 : XS) (x1 : Int32) : Int32 := if x1 < (0 : Int32) then (0 : Int32) else if (16 : Int32) ≤ x1 then (0 : Int32) else (xO u0 (Int32.toNatClampNeg x1))
set_option maxHeartbeats 4000000 in
set_option maxRecDepth 100000 in
theorem c_XDe_sourceOctet (l : Launch) (D : va_G) (a : Nat → Nat) (k : Nat → ClassId) (u0 : XS) (x1 : Int32) : zRi l y_XDe_sourceOctet w_XDe_sourceOctet rm_XDe_sourceOctet D clX (tyX k) nwX (xW a k) [.ref (a 11), .int x1] u0 (f_XDe_sourceOctet u0 x1) := by
  generalize hF : f_XDe_sourceOctet u0 x1 = F
  have hf := hF.symm
  unfold f_XDe_sourceOctet at hf
  refine zRi_of (cc := b_XDe_sourceOctet) (maxL := 2) (own := RX_De) (by decide) rfl rfl (Nat.le_of_ble_eq_true rfl) ?_
  intro p e R st m args below meth c H locs Q ls hR hx hb hml hown hts hw hret hl
  subst hR
  have hcs : 0 ≤ (rm_XDe_sourceOctet).cells ∧ 0 ≤ (rm_XDe_sourceOctet).slots := ⟨Nat.zero_le _, Nat.zero_le _⟩
  have hl : lv_has ls 2 [(0, .ref (a 11)), (1, .int x1)] := hl
  refine lv_iload_n hx hb d_XDe_sourceOctet_0 rfl (lv_at hl 1 rfl) ?_
  refine lv_if_lt (tgt := 22) hx hb d_XDe_sourceOctet_1 (by decide) (fun c_1 => ?_) (fun c_1 => ?_)
  · have hf := hf.trans (if_pos c_1)
    refine lv_iconst (v := (0 : Int32)) hx hb d_XDe_sourceOctet_22 (by decide) ?_
    exact hret (0 : Int32) _ _ d_XDe_sourceOctet_23 hf
  · have hf := hf.trans (if_neg c_1)
    refine lv_iload_n hx hb d_XDe_sourceOctet_4 rfl (lv_at hl 1 rfl) ?_
    refine lv_aload_n hx hb d_XDe_sourceOctet_5 rfl (lv_at hl 0 rfl) ?_
    refine va_get (v := .ref (a 12)) hx hb hts iX_De hown hw.2.1 hw.1 11 rfl rfl 2 (by decide) (hts _ kX_De_9) (fun _ h => h) rfl d_XDe_sourceOctet_6 ?_
    refine va_alen (v := 16) hx hb hw.2.1 hw.1 12 2 rfl rfl rfl d_XDe_sourceOctet_9 ?_
    refine lv_icmp_ge (tgt := 22) hx hb d_XDe_sourceOctet_10 (by decide) (fun c_2 => ?_) (fun c_2 => ?_)
    · have hf := hf.trans (if_pos c_2)
      refine lv_iconst (v := (0 : Int32)) hx hb d_XDe_sourceOctet_22 (by decide) ?_
      exact hret (0 : Int32) _ _ d_XDe_sourceOctet_23 hf
    · have hf := hf.trans (if_neg c_2)
      refine lv_aload_n hx hb d_XDe_sourceOctet_13 rfl (lv_at hl 0 rfl) ?_
      refine va_get (v := .ref (a 12)) hx hb hts iX_De hown hw.2.1 hw.1 11 rfl rfl 2 (by decide) (hts _ kX_De_9) (fun _ h => h) rfl d_XDe_sourceOctet_14 ?_
      refine lv_iload_n hx hb d_XDe_sourceOctet_17 rfl (lv_at hl 1 rfl) ?_
      refine va_iald hx hb hw.2.1 hw.1 12 2 rfl rfl (z_in16 (by assumption) (by assumption)) d_XDe_sourceOctet_18 ?_
      refine lv_goto (tgt := 23) hx hb d_XDe_sourceOctet_19 (by decide) ?_
      exact hret (xO u0 (Int32.toNatClampNeg x1)) _ _ d_XDe_sourceOctet_23 hf
def g_XDe_packRest_10 (x1 : Int32) (L_6 : Int32 → Int32 → XS → XS) : Int32 → Int32 → XS → XS := fun x_3 x_4 u_5 => if x_4 < (0 : Int32) then u_5 else nm (f_XDe_sourceOctet u_5 x_3) (fun (x_9 : Int32) => nm (x_9 &&& (15 : Int32)) (fun (x_10 : Int32) => nm (f_XDe_sourceOctet u_5 (x_3 - (1 : Int32))) (fun (x_11 : Int32) => nm (x_11 &&& (15 : Int32)) (fun (x_12 : Int32) => nm (f_XMe_put u_5 (x1 + x_4) ((x_12 <<< ((4 : Int32) &&& 31)) ||| x_10)) (fun (u_13 : XS) => nm (x_3 - (2 : Int32)) (fun (x_14 : Int32) => nm (x_4 + (-1 : Int32)) (fun (x_15 : Int32) => L_6 x_14 x_15 u_13)))))))
def f_XDe_packRest (u0 : XS) (x1 : Int32) (x2 : Int32) (x3 : Int32) : XS := nm (x3 - (2 : Int32)) (fun (x_1 : Int32) => nm (x2 - (2 : Int32)) (fun (x_2 : Int32) => lpN ((Int32.toInt x_2 + 1).toNat + 1) (g_XDe_packRest_10 x1) (fun _ _ _ => default) x_1 x_2 u0))
set_option maxHeartbeats 4000000 in
set_option maxRecDepth 100000 in
theorem c_XDe_packRest (l : Launch) (D : va_G) (a : Nat → Nat) (k : Nat → ClassId) (u0 : XS) (x1 : Int32) (x2 : Int32) (x3 : Int32) : zMv l y_XDe_packRest w_XDe_packRest rm_XDe_packRest D clX (tyX k) nwX (xW a k) [.ref (a 11), .int x1, .int x2, .int x3] u0 (f_XDe_packRest u0 x1 x2 x3) := by
  generalize hF : f_XDe_packRest u0 x1 x2 x3 = F
  have hf := hF.symm
  unfold f_XDe_packRest at hf
  refine zMv_of (cc := b_XDe_packRest) (maxL := 8) (own := RX_De) (by decide) rfl rfl (Nat.le_of_ble_eq_true rfl) ?_
  intro p e R st m args below meth c A H locs Q ls hR hx hb hml hown hts hw hS hret hl
  subst hR
  have hcs : 0 ≤ (rm_XDe_packRest).cells ∧ 0 ≤ (rm_XDe_packRest).slots := ⟨Nat.zero_le _, Nat.zero_le _⟩
  have hl : lv_has ls 8 [(0, .ref (a 11)), (1, .int x1), (2, .int x2), (3, .int x3)] := hl
  refine lv_iload_n hx hb d_XDe_packRest_0 rfl (lv_at hl 3 rfl) ?_
  refine lv_iconst (v := (2 : Int32)) hx hb d_XDe_packRest_1 (by decide) ?_
  refine lv_isub hx hb d_XDe_packRest_2 ?_
  refine lv_topi (fun x_1 ex_1 => ?_)
  have hf := hf.trans (nm_eq ex_1)
  refine lv_istore (lv' := [(4, .int x_1), (0, .ref (a 11)), (1, .int x1), (2, .int x2), (3, .int x3)]) hx hb d_XDe_packRest_3 hl (by decide) rfl (fun ls hl => ?_)
  refine lv_iload_n hx hb d_XDe_packRest_5 rfl (lv_at hl 3 rfl) ?_
  refine lv_iconst (v := (2 : Int32)) hx hb d_XDe_packRest_6 (by decide) ?_
  refine lv_isub hx hb d_XDe_packRest_7 ?_
  refine lv_topi (fun x_2 ex_2 => ?_)
  have hf := hf.trans (nm_eq ex_2)
  refine lv_istore (lv' := [(5, .int x_2), (4, .int x_1), (0, .ref (a 11)), (1, .int x1), (2, .int x2), (3, .int x3)]) hx hb d_XDe_packRest_8 hl (by decide) rfl (fun ls hl => ?_)
  refine lp_cut (fun (n_7 : Nat) (L_6 : Int32 → Int32 → XS → XS) => ∀ (x_3 : Int32) (x_4 : Int32) (u_5 : XS), (Int32.toInt x_4 + 1).toNat < n_7 → ∀ (H : Heap) (locs : List Loc), zW D clX (tyX k) nwX (xW a k) A st u_5 H → va_S A st.heap H locs → ∀ (ls : Array Slot), lv_has ls 8 [(0, .ref (a 11)), (1, .int x1), (4, .int x_3), (5, .int x_4)] → F = L_6 x_3 x_4 u_5 → W p l e rm_XDe_packRest st m args below meth c H locs 0 0 Q (F0 m 10 ls [])) ?_ ?_ ((Int32.toInt x_2 + 1).toNat + 1) x_1 x_2 u0 (Nat.lt_succ_self _) _ _ hw hS _ (lv_sub hl [2, 3, 1, 0] rfl) hf
  · intro x_3 x_4 u_5 hn; exact absurd hn (Nat.not_lt_zero _)
  · intro n_7 L_6 hL_6 x_3 x_4 u_5 hn H locs hw hS ls hl hf
    unfold g_XDe_packRest_10 at hf
    refine lv_iload hx hb d_XDe_packRest_10 (lv_at hl 3 rfl) ?_
    refine lv_if_lt (tgt := 69) hx hb d_XDe_packRest_12 (by decide) (fun c_8 => ?_) (fun c_8 => ?_)
    · have hf := hf.trans (if_pos c_8)
      exact hret _ _ _ _ _ d_XDe_packRest_69 hw hS hf
    · have hf := hf.trans (if_neg c_8)
      refine lv_aload_n hx hb d_XDe_packRest_15 rfl (lv_at hl 0 rfl) ?_
      refine lv_iload hx hb d_XDe_packRest_16 (lv_at hl 2 rfl) ?_
      refine z_ri (z_runV (As := [.int x_3]) (rest := []) ⟨hx, hb, hml, hown, hts⟩ (c_XDe_sourceOctet l D a k u_5 x_3) (qX_De_86 hts (by decide)) hw 11 rfl rfl hl.1 rfl (lv_room (Nat.le_of_ble_eq_true rfl)) d_XDe_packRest_18 hcs) (fun x_9 ex_9 => ?_)
      have hf := hf.trans (nm_eq ex_9)
      refine lv_bipush (v := (15 : Int32)) hx hb d_XDe_packRest_21 (by decide) ?_
      refine lv_iand hx hb d_XDe_packRest_23 ?_
      refine lv_topi (fun x_10 ex_10 => ?_)
      have hf := hf.trans (nm_eq ex_10)
      refine lv_istore (lv' := [(6, .int x_10), (0, .ref (a 11)), (1, .int x1), (4, .int x_3), (5, .int x_4)]) hx hb d_XDe_packRest_24 hl (by decide) rfl (fun ls hl => ?_)
      refine lv_aload_n hx hb d_XDe_packRest_26 rfl (lv_at hl 1 rfl) ?_
      refine lv_iload hx hb d_XDe_packRest_27 (lv_at hl 3 rfl) ?_
      refine lv_iconst (v := (1 : Int32)) hx hb d_XDe_packRest_29 (by decide) ?_
      refine lv_isub hx hb d_XDe_packRest_30 ?_
      refine z_ri (z_runV (As := [.int (x_3 - (1 : Int32))]) (rest := []) ⟨hx, hb, hml, hown, hts⟩ (c_XDe_sourceOctet l D a k u_5 (x_3 - (1 : Int32))) (qX_De_86 hts (by decide)) hw 11 rfl rfl hl.1 rfl (lv_room (Nat.le_of_ble_eq_true rfl)) d_XDe_packRest_31 hcs) (fun x_11 ex_11 => ?_)
      have hf := hf.trans (nm_eq ex_11)
      refine lv_bipush (v := (15 : Int32)) hx hb d_XDe_packRest_34 (by decide) ?_
      refine lv_iand hx hb d_XDe_packRest_36 ?_
      refine lv_topi (fun x_12 ex_12 => ?_)
      have hf := hf.trans (nm_eq ex_12)
      refine lv_istore (lv' := [(7, .int x_12), (6, .int x_10), (0, .ref (a 11)), (1, .int x1), (4, .int x_3), (5, .int x_4)]) hx hb d_XDe_packRest_37 hl (by decide) rfl (fun ls hl => ?_)
      refine lv_aload_n hx hb d_XDe_packRest_39 rfl (lv_at hl 2 rfl) ?_
      refine va_get (v := .ref (a 2)) hx hb hts iX_De hown hw.2.1 hw.1 11 rfl rfl 1 (by decide) (hts _ kX_De_25) (fun _ h => h) rfl d_XDe_packRest_40 ?_
      refine lv_iload_n hx hb d_XDe_packRest_43 rfl (lv_at hl 3 rfl) ?_
      refine lv_iload hx hb d_XDe_packRest_44 (lv_at hl 5 rfl) ?_
      refine lv_iadd hx hb d_XDe_packRest_46 ?_
      refine lv_iload hx hb d_XDe_packRest_47 (lv_at hl 0 rfl) ?_
      refine lv_iconst (v := (4 : Int32)) hx hb d_XDe_packRest_49 (by decide) ?_
      refine lv_ishl hx hb d_XDe_packRest_50 ?_
      refine lv_iload hx hb d_XDe_packRest_51 (lv_at hl 1 rfl) ?_
      refine lv_ior hx hb d_XDe_packRest_53 ?_
      refine z_wv (z_runV (As := [.int (x1 + x_4), .int ((x_12 <<< ((4 : Int32) &&& 31)) ||| x_10)]) (rest := []) ⟨hx, hb, hml, hown, hts⟩ (c_XMe_put l D a k u_5 (x1 + x_4) ((x_12 <<< ((4 : Int32) &&& 31)) ||| x_10)) (qX_De_89 hts (by decide)) hw 2 rfl rfl hl.1 rfl (lv_room (Nat.le_of_ble_eq_true rfl)) d_XDe_packRest_54 hcs) hw hS (fun u_13 H locs eu_13 hw hS => ?_)
      have hf := hf.trans (nm_eq eu_13)
      refine lv_iload hx hb d_XDe_packRest_57 (lv_at hl 4 rfl) ?_
      refine lv_iconst (v := (2 : Int32)) hx hb d_XDe_packRest_59 (by decide) ?_
      refine lv_isub hx hb d_XDe_packRest_60 ?_
      refine lv_topi (fun x_14 ex_14 => ?_)
      have hf := hf.trans (nm_eq ex_14)
      refine lv_istore (lv' := [(4, .int x_14), (7, .int x_12), (6, .int x_10), (0, .ref (a 11)), (1, .int x1), (5, .int x_4)]) hx hb d_XDe_packRest_61 hl (by decide) rfl (fun ls hl => ?_)
      obtain ⟨x_15, ex_15⟩ : ∃ y : Int32, y = x_4 + (-1 : Int32) := ⟨_, rfl⟩
      have hf := hf.trans (nm_eq ex_15)
      refine lv_iinc (v := x_15) (lv' := [(5, .int x_15), (4, .int x_14), (7, .int x_12), (6, .int x_10), (0, .ref (a 11)), (1, .int x1)]) hx hb d_XDe_packRest_63 hl (k := 5) rfl (by rw [ex_15]; rfl) (by decide) rfl (fun ls hl => ?_)
      refine lv_goto (tgt := 10) hx hb d_XDe_packRest_66 (by decide) ?_
      exact hL_6 x_14 x_15 u_13 (mu_dn c_8 ex_15 hn) _ _ hw hS _ (lv_sub hl [4, 5, 1, 0] rfl) hf
def g_XDe_unpackRest_3 (x2 : Int32) (x3 : Int32) (x1 : Int32) (L_3 : Int32 → XS → XS) : Int32 → XS → XS := fun x_1 u_2 => if (x2 - (1 : Int32)) ≤ x_1 then u_2 else nm (f_XDe_sourceOctet u_2 ((x3 - (2 : Int32)) - (x_1 / (2 : Int32)))) (fun (x_6 : Int32) => jn (fun (K_8 : Int32 → XS) => if (x_1 - x_1 / (2 : Int32) * (2 : Int32)) = (0 : Int32) then K_8 (x_6 &&& (15 : Int32)) else K_8 (x_6 >>> ((4 : Int32) &&& 31))) (fun (x_7 : Int32) => nm (f_XMe_put u_2 (((x1 + x2) - (2 : Int32)) - x_1) ((240 : Int32) ||| x_7)) (fun (u_9 : XS) => nm (x_1 + (1 : Int32)) (fun (x_10 : Int32) => L_3 x_10 u_9))))
def f_XDe_unpackRest (u0 : XS) (x1 : Int32) (x2 : Int32) (x3 : Int32) : XS := lpN ((Int32.toInt (x2 - 1) - Int32.toInt (0 : Int32)).toNat + 1) (g_XDe_unpackRest_3 x2 x3 x1) (fun _ _ => default) (0 : Int32) u0
set_option maxHeartbeats 4000000 in
set_option maxRecDepth 100000 in
theorem c_XDe_unpackRest (l : Launch) (D : va_G) (a : Nat → Nat) (k : Nat → ClassId) (u0 : XS) (x1 : Int32) (x2 : Int32) (x3 : Int32) : zMv l y_XDe_unpackRest w_XDe_unpackRest rm_XDe_unpackRest D clX (tyX k) nwX (xW a k) [.ref (a 11), .int x1, .int x2, .int x3] u0 (f_XDe_unpackRest u0 x1 x2 x3) := by
  generalize hF : f_XDe_unpackRest u0 x1 x2 x3 = F
  have hf := hF.symm
  unfold f_XDe_unpackRest at hf
  refine zMv_of (cc := b_XDe_unpackRest) (maxL := 7) (own := RX_De) (by decide) rfl rfl (Nat.le_of_ble_eq_true rfl) ?_
  intro p e R st m args below meth c A H locs Q ls hR hx hb hml hown hts hw hS hret hl
  subst hR
  have hcs : 0 ≤ (rm_XDe_unpackRest).cells ∧ 0 ≤ (rm_XDe_unpackRest).slots := ⟨Nat.zero_le _, Nat.zero_le _⟩
  have hl : lv_has ls 7 [(0, .ref (a 11)), (1, .int x1), (2, .int x2), (3, .int x3)] := hl
  refine lv_iconst (v := (0 : Int32)) hx hb d_XDe_unpackRest_0 (by decide) ?_
  refine lv_istore (lv' := [(4, .int (0 : Int32)), (0, .ref (a 11)), (1, .int x1), (2, .int x2), (3, .int x3)]) hx hb d_XDe_unpackRest_1 hl (by decide) rfl (fun ls hl => ?_)
  refine lp_cut (fun (n_4 : Nat) (L_3 : Int32 → XS → XS) => ∀ (x_1 : Int32) (u_2 : XS), (Int32.toInt (x2 - 1) - Int32.toInt x_1).toNat < n_4 → ∀ (H : Heap) (locs : List Loc), zW D clX (tyX k) nwX (xW a k) A st u_2 H → va_S A st.heap H locs → ∀ (ls : Array Slot), lv_has ls 7 [(0, .ref (a 11)), (1, .int x1), (2, .int x2), (3, .int x3), (4, .int x_1)] → F = L_3 x_1 u_2 → W p l e rm_XDe_unpackRest st m args below meth c H locs 0 0 Q (F0 m 3 ls [])) ?_ ?_ ((Int32.toInt (x2 - 1) - Int32.toInt (0 : Int32)).toNat + 1) (0 : Int32) u0 (Nat.lt_succ_self _) _ _ hw hS _ (lv_sub hl [1, 2, 3, 4, 0] rfl) hf
  · intro x_1 u_2 hn; exact absurd hn (Nat.not_lt_zero _)
  · intro n_4 L_3 hL_3 x_1 u_2 hn H locs hw hS ls hl hf
    unfold g_XDe_unpackRest_3 at hf
    refine lv_iload hx hb d_XDe_unpackRest_3 (lv_at hl 4 rfl) ?_
    refine lv_iload_n hx hb d_XDe_unpackRest_5 rfl (lv_at hl 2 rfl) ?_
    refine lv_iconst (v := (1 : Int32)) hx hb d_XDe_unpackRest_6 (by decide) ?_
    refine lv_isub hx hb d_XDe_unpackRest_7 ?_
    refine lv_icmp_ge (tgt := 73) hx hb d_XDe_unpackRest_8 (by decide) (fun c_5 => ?_) (fun c_5 => ?_)
    · have hf := hf.trans (if_pos c_5)
      exact hret _ _ _ _ _ d_XDe_unpackRest_73 hw hS hf
    · have hf := hf.trans (if_neg c_5)
      refine lv_aload_n hx hb d_XDe_unpackRest_11 rfl (lv_at hl 0 rfl) ?_
      refine lv_iload_n hx hb d_XDe_unpackRest_12 rfl (lv_at hl 3 rfl) ?_
      refine lv_iconst (v := (2 : Int32)) hx hb d_XDe_unpackRest_13 (by decide) ?_
      refine lv_isub hx hb d_XDe_unpackRest_14 ?_
      refine lv_iload hx hb d_XDe_unpackRest_15 (lv_at hl 4 rfl) ?_
      refine lv_iconst (v := (2 : Int32)) hx hb d_XDe_unpackRest_17 (by decide) ?_
      refine lv_idiv hx hb d_XDe_unpackRest_18 (by decide) ?_
      refine lv_isub hx hb d_XDe_unpackRest_19 ?_
      refine z_ri (z_runV (As := [.int ((x3 - (2 : Int32)) - (x_1 / (2 : Int32)))]) (rest := []) ⟨hx, hb, hml, hown, hts⟩ (c_XDe_sourceOctet l D a k u_2 ((x3 - (2 : Int32)) - (x_1 / (2 : Int32)))) (qX_De_86 hts (by decide)) hw 11 rfl rfl hl.1 rfl (lv_room (Nat.le_of_ble_eq_true rfl)) d_XDe_unpackRest_20 hcs) (fun x_6 ex_6 => ?_)
      have hf := hf.trans (nm_eq ex_6)
      refine lv_istore (lv' := [(5, .int x_6), (0, .ref (a 11)), (1, .int x1), (2, .int x2), (3, .int x3), (4, .int x_1)]) hx hb d_XDe_unpackRest_23 hl (by decide) rfl (fun ls hl => ?_)
      refine lv_iload hx hb d_XDe_unpackRest_25 (lv_at hl 5 rfl) ?_
      refine lv_iconst (v := (2 : Int32)) hx hb d_XDe_unpackRest_27 (by decide) ?_
      refine lv_irem hx hb d_XDe_unpackRest_28 (by decide) ?_
      refine jn_cut hf (fun (K_8 : Int32 → XS) => ∀ (x_7 : Int32), ∀ (ls : Array Slot), lv_has ls 7 [(0, .ref (a 11)), (1, .int x1), (2, .int x2), (3, .int x3), (4, .int x_1)] → F = K_8 x_7 → W p l e rm_XDe_unpackRest st m args below meth c H locs 0 0 Q (F0 m 44 ls [.int x_7])) ?_ ?_
      · intro x_7 ls hl hf
        refine lv_istore (lv' := [(6, .int x_7), (0, .ref (a 11)), (1, .int x1), (2, .int x2), (3, .int x3), (4, .int x_1)]) hx hb d_XDe_unpackRest_44 hl (by decide) rfl (fun ls hl => ?_)
        refine lv_aload_n hx hb d_XDe_unpackRest_46 rfl (lv_at hl 1 rfl) ?_
        refine va_get (v := .ref (a 2)) hx hb hts iX_De hown hw.2.1 hw.1 11 rfl rfl 1 (by decide) (hts _ kX_De_25) (fun _ h => h) rfl d_XDe_unpackRest_47 ?_
        refine lv_iload_n hx hb d_XDe_unpackRest_50 rfl (lv_at hl 2 rfl) ?_
        refine lv_iload_n hx hb d_XDe_unpackRest_51 rfl (lv_at hl 3 rfl) ?_
        refine lv_iadd hx hb d_XDe_unpackRest_52 ?_
        refine lv_iconst (v := (2 : Int32)) hx hb d_XDe_unpackRest_53 (by decide) ?_
        refine lv_isub hx hb d_XDe_unpackRest_54 ?_
        refine lv_iload hx hb d_XDe_unpackRest_55 (lv_at hl 5 rfl) ?_
        refine lv_isub hx hb d_XDe_unpackRest_57 ?_
        refine lv_sipush (v := (240 : Int32)) hx hb d_XDe_unpackRest_58 (by decide) ?_
        refine lv_iload hx hb d_XDe_unpackRest_61 (lv_at hl 0 rfl) ?_
        refine lv_ior hx hb d_XDe_unpackRest_63 ?_
        refine z_wv (z_runV (As := [.int (((x1 + x2) - (2 : Int32)) - x_1), .int ((240 : Int32) ||| x_7)]) (rest := []) ⟨hx, hb, hml, hown, hts⟩ (c_XMe_put l D a k u_2 (((x1 + x2) - (2 : Int32)) - x_1) ((240 : Int32) ||| x_7)) (qX_De_89 hts (by decide)) hw 2 rfl rfl hl.1 rfl (lv_room (Nat.le_of_ble_eq_true rfl)) d_XDe_unpackRest_64 hcs) hw hS (fun u_9 H locs eu_9 hw hS => ?_)
        have hf := hf.trans (nm_eq eu_9)
        obtain ⟨x_10, ex_10⟩ : ∃ y : Int32, y = x_1 + (1 : Int32) := ⟨_, rfl⟩
        have hf := hf.trans (nm_eq ex_10)
        refine lv_iinc (v := x_10) (lv' := [(4, .int x_10), (6, .int x_7), (0, .ref (a 11)), (1, .int x1), (2, .int x2), (3, .int x3)]) hx hb d_XDe_unpackRest_67 hl (k := 5) rfl (by rw [ex_10]; rfl) (by decide) rfl (fun ls hl => ?_)
        refine lv_goto (tgt := 3) hx hb d_XDe_unpackRest_70 (by decide) ?_
        exact hL_3 x_10 u_9 (mu_up c_5 ex_10 hn) _ _ hw hS _ (lv_sub hl [2, 3, 4, 5, 0] rfl) hf
      · intro K_8 hK_8 hf
        refine lv_if_ne (tgt := 40) hx hb d_XDe_unpackRest_29 (by decide) (fun c_11 => ?_) (fun c_11 => ?_)
        · have hf := hf.trans (if_neg c_11)
          refine lv_iload hx hb d_XDe_unpackRest_40 (lv_at hl 0 rfl) ?_
          refine lv_iconst (v := (4 : Int32)) hx hb d_XDe_unpackRest_42 (by decide) ?_
          refine lv_ishr hx hb d_XDe_unpackRest_43 ?_
          exact hK_8 (x_6 >>> ((4 : Int32) &&& 31)) _ (lv_sub hl [1, 2, 3, 4, 5] rfl) hf
        · have hf := hf.trans (if_pos c_11)
          refine lv_iload hx hb d_XDe_unpackRest_32 (lv_at hl 0 rfl) ?_
          refine lv_bipush (v := (15 : Int32)) hx hb d_XDe_unpackRest_34 (by decide) ?_
          refine lv_iand hx hb d_XDe_unpackRest_36 ?_
          refine lv_goto (tgt := 44) hx hb d_XDe_unpackRest_37 (by decide) ?_
          exact hK_8 (x_6 &&& (15 : Int32)) _ (lv_sub hl [1, 2, 3, 4, 5] rfl) hf
def g_XDe_changeForm_49 (x_2 : Int32) (K_8 : XS → Int32 × XS) (L_16 : Int32 → XS → Int32 × XS) : Int32 → XS → Int32 × XS := fun x_14 u_15 => if x_2 ≤ x_14 then K_8 u_15 else if (16 : Int32) ≤ x_14 then K_8 u_15 else nm (f_XMe_get u_15 ((xF u_15 9) + x_14)) (fun (x_20 : Int32) => nm (xsO u_15 (Int32.toNatClampNeg x_14) x_20) (fun (u_21 : XS) => nm (x_14 + (1 : Int32)) (fun (x_22 : Int32) => L_16 x_22 u_21)))
def f_XDe_changeForm (u0 : XS)  : Int32 × XS := nm ((xF u0 6) + (1 : Int32)) (fun (x_1 : Int32) => nm ((xF u0 7) + (1 : Int32)) (fun (x_2 : Int32) => nm (f_XMe_holds u0 (xF u0 8) x_1) (fun (z_3 : Bool) => if (bI z_3) = (0 : Int32) then ((5 : Int32), u0) else nm (f_XMe_holds u0 (xF u0 9) x_2) (fun (z_5 : Bool) => if (bI z_5) = (0 : Int32) then ((5 : Int32), u0) else jn (fun (K_8 : XS → Int32 × XS) => lpN ((Int32.toInt x_2 - Int32.toInt (0 : Int32)).toNat + 1) (g_XDe_changeForm_49 x_2 K_8) (fun _ _ => default) (0 : Int32) u0) (fun (u_7 : XS) => nm (f_XDe_sourceOctet u_7 (x_2 - (1 : Int32))) (fun (x_9 : Int32) => nm (f_XMe_put u_7 (((xF u_7 8) + x_1) - (1 : Int32)) (((x_9 &&& (15 : Int32)) <<< ((4 : Int32) &&& 31)) ||| (x_9 >>> ((4 : Int32) &&& 31)))) (fun (u_10 : XS) => if (xF u_10 4) = (242 : Int32) then nm (f_XDe_packRest u_10 (xF u_10 8) x_1 x_2) (fun (u_13 : XS) => ((0 : Int32), u_13)) else nm (f_XDe_unpackRest u_10 (xF u_10 8) x_1 x_2) (fun (u_12 : XS) => ((0 : Int32), u_12)))))))))
set_option maxHeartbeats 4000000 in
set_option maxRecDepth 100000 in
theorem c_XDe_changeForm (l : Launch) (D : va_G) (a : Nat → Nat) (k : Nat → ClassId) (u0 : XS)  : zMi l y_XDe_changeForm w_XDe_changeForm rm_XDe_changeForm D clX (tyX k) nwX (xW a k) [.ref (a 11), .ref (a 6)] u0 (f_XDe_changeForm u0) := by
  generalize hF : f_XDe_changeForm u0 = F
  have hf := hF.symm
  unfold f_XDe_changeForm at hf
  refine zMi_of (cc := b_XDe_changeForm) (maxL := 5) (own := RX_De) (by decide) rfl rfl (Nat.le_of_ble_eq_true rfl) ?_
  intro p e R st m args below meth c A H locs Q ls hR hx hb hml hown hts hw hS hret hl
  subst hR
  have hcs : 0 ≤ (rm_XDe_changeForm).cells ∧ 0 ≤ (rm_XDe_changeForm).slots := ⟨Nat.zero_le _, Nat.zero_le _⟩
  have hl : lv_has ls 5 [(0, .ref (a 11)), (1, .ref (a 6))] := hl
  refine lv_aload_n hx hb d_XDe_changeForm_0 rfl (lv_at hl 1 rfl) ?_
  refine va_getN (v := .int (xF u0 6)) hx hb hts iX_In hown hw.2.1 hw.1 6 rfl rfl 2 (by decide) (va_Nw.use rfl (hw.2.2.2 _ kX_De_41).2) (fun _ h => h) rfl d_XDe_changeForm_1 ?_
  refine lv_iconst (v := (1 : Int32)) hx hb d_XDe_changeForm_4 (by decide) ?_
  refine lv_iadd hx hb d_XDe_changeForm_5 ?_
  refine lv_topi (fun x_1 ex_1 => ?_)
  have hf := hf.trans (nm_eq ex_1)
  refine lv_istore_n (lv' := [(2, .int x_1), (0, .ref (a 11)), (1, .ref (a 6))]) hx hb d_XDe_changeForm_6 rfl hl (by decide) rfl (fun ls hl => ?_)
  refine lv_aload_n hx hb d_XDe_changeForm_7 rfl (lv_at hl 2 rfl) ?_
  refine va_getN (v := .int (xF u0 7)) hx hb hts iX_In hown hw.2.1 hw.1 6 rfl rfl 3 (by decide) (va_Nw.use rfl (hw.2.2.2 _ kX_De_74).2) (fun _ h => h) rfl d_XDe_changeForm_8 ?_
  refine lv_iconst (v := (1 : Int32)) hx hb d_XDe_changeForm_11 (by decide) ?_
  refine lv_iadd hx hb d_XDe_changeForm_12 ?_
  refine lv_topi (fun x_2 ex_2 => ?_)
  have hf := hf.trans (nm_eq ex_2)
  refine lv_istore_n (lv' := [(3, .int x_2), (2, .int x_1), (0, .ref (a 11)), (1, .ref (a 6))]) hx hb d_XDe_changeForm_13 rfl hl (by decide) rfl (fun ls hl => ?_)
  refine lv_aload_n hx hb d_XDe_changeForm_14 rfl (lv_at hl 2 rfl) ?_
  refine va_get (v := .ref (a 2)) hx hb hts iX_De hown hw.2.1 hw.1 11 rfl rfl 1 (by decide) (hts _ kX_De_25) (fun _ h => h) rfl d_XDe_changeForm_15 ?_
  refine lv_aload_n hx hb d_XDe_changeForm_18 rfl (lv_at hl 3 rfl) ?_
  refine va_getN (v := .int (xF u0 8)) hx hb hts iX_In hown hw.2.1 hw.1 6 rfl rfl 4 (by decide) (va_Nw.use rfl (hw.2.2.2 _ kX_De_77).2) (fun _ h => h) rfl d_XDe_changeForm_19 ?_
  refine lv_iload_n hx hb d_XDe_changeForm_22 rfl (lv_at hl 1 rfl) ?_
  refine z_rz (z_runV (As := [.int (xF u0 8), .int x_1]) (rest := []) ⟨hx, hb, hml, hown, hts⟩ (c_XMe_holds l D a k u0 (xF u0 8) x_1) (qX_De_80 hts (by decide)) hw 2 rfl rfl hl.1 rfl (lv_room (Nat.le_of_ble_eq_true rfl)) d_XDe_changeForm_23 hcs) (fun z_3 ez_3 => ?_)
  have hf := hf.trans (nm_eq ez_3)
  refine lv_if_eq (tgt := 44) hx hb d_XDe_changeForm_26 (by decide) (fun c_4 => ?_) (fun c_4 => ?_)
  · have hf := hf.trans (if_pos c_4)
    refine lv_iconst (v := (5 : Int32)) hx hb d_XDe_changeForm_44 (by decide) ?_
    exact hret (5 : Int32) _ _ _ _ _ d_XDe_changeForm_45 hw hS hf
  · have hf := hf.trans (if_neg c_4)
    refine lv_aload_n hx hb d_XDe_changeForm_29 rfl (lv_at hl 2 rfl) ?_
    refine va_get (v := .ref (a 2)) hx hb hts iX_De hown hw.2.1 hw.1 11 rfl rfl 1 (by decide) (hts _ kX_De_25) (fun _ h => h) rfl d_XDe_changeForm_30 ?_
    refine lv_aload_n hx hb d_XDe_changeForm_33 rfl (lv_at hl 3 rfl) ?_
    refine va_getN (v := .int (xF u0 9)) hx hb hts iX_In hown hw.2.1 hw.1 6 rfl rfl 5 (by decide) (va_Nw.use rfl (hw.2.2.2 _ kX_De_26).2) (fun _ h => h) rfl d_XDe_changeForm_34 ?_
    refine lv_iload_n hx hb d_XDe_changeForm_37 rfl (lv_at hl 0 rfl) ?_
    refine z_rz (z_runV (As := [.int (xF u0 9), .int x_2]) (rest := []) ⟨hx, hb, hml, hown, hts⟩ (c_XMe_holds l D a k u0 (xF u0 9) x_2) (qX_De_80 hts (by decide)) hw 2 rfl rfl hl.1 rfl (lv_room (Nat.le_of_ble_eq_true rfl)) d_XDe_changeForm_38 hcs) (fun z_5 ez_5 => ?_)
    have hf := hf.trans (nm_eq ez_5)
    refine lv_if_ne (tgt := 46) hx hb d_XDe_changeForm_41 (by decide) (fun c_6 => ?_) (fun c_6 => ?_)
    · have hf := hf.trans (if_neg c_6)
      refine lv_iconst (v := (0 : Int32)) hx hb d_XDe_changeForm_46 (by decide) ?_
      refine lv_istore (lv' := [(4, .int (0 : Int32)), (3, .int x_2), (2, .int x_1), (0, .ref (a 11)), (1, .ref (a 6))]) hx hb d_XDe_changeForm_47 hl (by decide) rfl (fun ls hl => ?_)
      refine jn_cut hf (fun (K_8 : XS → Int32 × XS) => ∀ (u_7 : XS), ∀ (H : Heap) (locs : List Loc), zW D clX (tyX k) nwX (xW a k) A st u_7 H → va_S A st.heap H locs → ∀ (ls : Array Slot), lv_has ls 5 [(0, .ref (a 11)), (1, .ref (a 6)), (2, .int x_1), (3, .int x_2)] → F = K_8 u_7 → W p l e rm_XDe_changeForm st m args below meth c H locs 0 0 Q (F0 m 92 ls [])) ?_ ?_
      · intro u_7 H locs hw hS ls hl hf
        refine lv_aload_n hx hb d_XDe_changeForm_92 rfl (lv_at hl 0 rfl) ?_
        refine lv_iload_n hx hb d_XDe_changeForm_93 rfl (lv_at hl 3 rfl) ?_
        refine lv_iconst (v := (1 : Int32)) hx hb d_XDe_changeForm_94 (by decide) ?_
        refine lv_isub hx hb d_XDe_changeForm_95 ?_
        refine z_ri (z_runV (As := [.int (x_2 - (1 : Int32))]) (rest := []) ⟨hx, hb, hml, hown, hts⟩ (c_XDe_sourceOctet l D a k u_7 (x_2 - (1 : Int32))) (qX_De_86 hts (by decide)) hw 11 rfl rfl hl.1 rfl (lv_room (Nat.le_of_ble_eq_true rfl)) d_XDe_changeForm_96 hcs) (fun x_9 ex_9 => ?_)
        have hf := hf.trans (nm_eq ex_9)
        refine lv_istore (lv' := [(4, .int x_9), (0, .ref (a 11)), (1, .ref (a 6)), (2, .int x_1), (3, .int x_2)]) hx hb d_XDe_changeForm_99 hl (by decide) rfl (fun ls hl => ?_)
        refine lv_aload_n hx hb d_XDe_changeForm_101 rfl (lv_at hl 1 rfl) ?_
        refine va_get (v := .ref (a 2)) hx hb hts iX_De hown hw.2.1 hw.1 11 rfl rfl 1 (by decide) (hts _ kX_De_25) (fun _ h => h) rfl d_XDe_changeForm_102 ?_
        refine lv_aload_n hx hb d_XDe_changeForm_105 rfl (lv_at hl 2 rfl) ?_
        refine va_getN (v := .int (xF u_7 8)) hx hb hts iX_In hown hw.2.1 hw.1 6 rfl rfl 4 (by decide) (va_Nw.use rfl (hw.2.2.2 _ kX_De_77).2) (fun _ h => h) rfl d_XDe_changeForm_106 ?_
        refine lv_iload_n hx hb d_XDe_changeForm_109 rfl (lv_at hl 3 rfl) ?_
        refine lv_iadd hx hb d_XDe_changeForm_110 ?_
        refine lv_iconst (v := (1 : Int32)) hx hb d_XDe_changeForm_111 (by decide) ?_
        refine lv_isub hx hb d_XDe_changeForm_112 ?_
        refine lv_iload hx hb d_XDe_changeForm_113 (lv_at hl 0 rfl) ?_
        refine lv_bipush (v := (15 : Int32)) hx hb d_XDe_changeForm_115 (by decide) ?_
        refine lv_iand hx hb d_XDe_changeForm_117 ?_
        refine lv_iconst (v := (4 : Int32)) hx hb d_XDe_changeForm_118 (by decide) ?_
        refine lv_ishl hx hb d_XDe_changeForm_119 ?_
        refine lv_iload hx hb d_XDe_changeForm_120 (lv_at hl 0 rfl) ?_
        refine lv_iconst (v := (4 : Int32)) hx hb d_XDe_changeForm_122 (by decide) ?_
        refine lv_ishr hx hb d_XDe_changeForm_123 ?_
        refine lv_ior hx hb d_XDe_changeForm_124 ?_
        refine z_wv (z_runV (As := [.int (((xF u_7 8) + x_1) - (1 : Int32)), .int (((x_9 &&& (15 : Int32)) <<< ((4 : Int32) &&& 31)) ||| (x_9 >>> ((4 : Int32) &&& 31)))]) (rest := []) ⟨hx, hb, hml, hown, hts⟩ (c_XMe_put l D a k u_7 (((xF u_7 8) + x_1) - (1 : Int32)) (((x_9 &&& (15 : Int32)) <<< ((4 : Int32) &&& 31)) ||| (x_9 >>> ((4 : Int32) &&& 31)))) (qX_De_89 hts (by decide)) hw 2 rfl rfl hl.1 rfl (lv_room (Nat.le_of_ble_eq_true rfl)) d_XDe_changeForm_125 hcs) hw hS (fun u_10 H locs eu_10 hw hS => ?_)
        have hf := hf.trans (nm_eq eu_10)
        refine lv_aload_n hx hb d_XDe_changeForm_128 rfl (lv_at hl 2 rfl) ?_
        refine va_getN (v := .int (xF u_10 4)) hx hb hts iX_In hown hw.2.1 hw.1 6 rfl rfl 0 (by decide) (va_Nw.use rfl (hw.2.2.2 _ kX_De_38).2) (fun _ h => h) rfl d_XDe_changeForm_129 ?_
        refine lv_sipush (v := (242 : Int32)) hx hb d_XDe_changeForm_132 (by decide) ?_
        refine lv_icmp_ne (tgt := 151) hx hb d_XDe_changeForm_135 (by decide) (fun c_11 => ?_) (fun c_11 => ?_)
        · have hf := hf.trans (if_neg c_11)
          refine lv_aload_n hx hb d_XDe_changeForm_151 rfl (lv_at hl 1 rfl) ?_
          refine lv_aload_n hx hb d_XDe_changeForm_152 rfl (lv_at hl 2 rfl) ?_
          refine va_getN (v := .int (xF u_10 8)) hx hb hts iX_In hown hw.2.1 hw.1 6 rfl rfl 4 (by decide) (va_Nw.use rfl (hw.2.2.2 _ kX_De_77).2) (fun _ h => h) rfl d_XDe_changeForm_153 ?_
          refine lv_iload_n hx hb d_XDe_changeForm_156 rfl (lv_at hl 3 rfl) ?_
          refine lv_iload_n hx hb d_XDe_changeForm_157 rfl (lv_at hl 4 rfl) ?_
          refine z_wv (z_runV (As := [.int (xF u_10 8), .int x_1, .int x_2]) (rest := []) ⟨hx, hb, hml, hown, hts⟩ (c_XDe_unpackRest l D a k u_10 (xF u_10 8) x_1 x_2) (qX_De_94 hts (by decide)) hw 11 rfl rfl hl.1 rfl (lv_room (Nat.le_of_ble_eq_true rfl)) d_XDe_changeForm_158 hcs) hw hS (fun u_12 H locs eu_12 hw hS => ?_)
          have hf := hf.trans (nm_eq eu_12)
          refine lv_iconst (v := (0 : Int32)) hx hb d_XDe_changeForm_161 (by decide) ?_
          exact hret (0 : Int32) _ _ _ _ _ d_XDe_changeForm_162 hw hS hf
        · have hf := hf.trans (if_pos c_11)
          refine lv_aload_n hx hb d_XDe_changeForm_138 rfl (lv_at hl 1 rfl) ?_
          refine lv_aload_n hx hb d_XDe_changeForm_139 rfl (lv_at hl 2 rfl) ?_
          refine va_getN (v := .int (xF u_10 8)) hx hb hts iX_In hown hw.2.1 hw.1 6 rfl rfl 4 (by decide) (va_Nw.use rfl (hw.2.2.2 _ kX_De_77).2) (fun _ h => h) rfl d_XDe_changeForm_140 ?_
          refine lv_iload_n hx hb d_XDe_changeForm_143 rfl (lv_at hl 3 rfl) ?_
          refine lv_iload_n hx hb d_XDe_changeForm_144 rfl (lv_at hl 4 rfl) ?_
          refine z_wv (z_runV (As := [.int (xF u_10 8), .int x_1, .int x_2]) (rest := []) ⟨hx, hb, hml, hown, hts⟩ (c_XDe_packRest l D a k u_10 (xF u_10 8) x_1 x_2) (qX_De_90 hts (by decide)) hw 11 rfl rfl hl.1 rfl (lv_room (Nat.le_of_ble_eq_true rfl)) d_XDe_changeForm_145 hcs) hw hS (fun u_13 H locs eu_13 hw hS => ?_)
          have hf := hf.trans (nm_eq eu_13)
          refine lv_goto (tgt := 161) hx hb d_XDe_changeForm_148 (by decide) ?_
          refine lv_iconst (v := (0 : Int32)) hx hb d_XDe_changeForm_161 (by decide) ?_
          exact hret (0 : Int32) _ _ _ _ _ d_XDe_changeForm_162 hw hS hf
      · intro K_8 hK_8 hf
        refine lp_cut (fun (n_17 : Nat) (L_16 : Int32 → XS → Int32 × XS) => ∀ (x_14 : Int32) (u_15 : XS), (Int32.toInt x_2 - Int32.toInt x_14).toNat < n_17 ∧ ¬ x_14 < 0 → ∀ (H : Heap) (locs : List Loc), zW D clX (tyX k) nwX (xW a k) A st u_15 H → va_S A st.heap H locs → ∀ (ls : Array Slot), lv_has ls 5 [(0, .ref (a 11)), (1, .ref (a 6)), (2, .int x_1), (3, .int x_2), (4, .int x_14)] → F = L_16 x_14 u_15 → W p l e rm_XDe_changeForm st m args below meth c H locs 0 0 Q (F0 m 49 ls [])) ?_ ?_ ((Int32.toInt x_2 - Int32.toInt (0 : Int32)).toNat + 1) (0 : Int32) u0 ⟨Nat.lt_succ_self _, by decide⟩ _ _ hw hS _ (lv_sub hl [3, 4, 2, 1, 0] rfl) hf
        · intro x_14 u_15 hn; exact absurd hn.1 (Nat.not_lt_zero _)
        · intro n_17 L_16 hL_16 x_14 u_15 hn H locs hw hS ls hl hf
          unfold g_XDe_changeForm_49 at hf
          refine lv_iload hx hb d_XDe_changeForm_49 (lv_at hl 4 rfl) ?_
          refine lv_iload_n hx hb d_XDe_changeForm_51 rfl (lv_at hl 3 rfl) ?_
          refine lv_icmp_ge (tgt := 92) hx hb d_XDe_changeForm_52 (by decide) (fun c_18 => ?_) (fun c_18 => ?_)
          · have hf := hf.trans (if_pos c_18)
            exact hK_8 u_15 _ _ hw hS _ (lv_sub hl [0, 1, 2, 3] rfl) hf
          · have hf := hf.trans (if_neg c_18)
            refine lv_iload hx hb d_XDe_changeForm_55 (lv_at hl 4 rfl) ?_
            refine lv_aload_n hx hb d_XDe_changeForm_57 rfl (lv_at hl 0 rfl) ?_
            refine va_get (v := .ref (a 12)) hx hb hts iX_De hown hw.2.1 hw.1 11 rfl rfl 2 (by decide) (hts _ kX_De_9) (fun _ h => h) rfl d_XDe_changeForm_58 ?_
            refine va_alen (v := 16) hx hb hw.2.1 hw.1 12 2 rfl rfl rfl d_XDe_changeForm_61 ?_
            refine lv_icmp_ge (tgt := 92) hx hb d_XDe_changeForm_62 (by decide) (fun c_19 => ?_) (fun c_19 => ?_)
            · have hf := hf.trans (if_pos c_19)
              exact hK_8 u_15 _ _ hw hS _ (lv_sub hl [0, 1, 2, 3] rfl) hf
            · have hf := hf.trans (if_neg c_19)
              refine lv_aload_n hx hb d_XDe_changeForm_65 rfl (lv_at hl 0 rfl) ?_
              refine va_get (v := .ref (a 12)) hx hb hts iX_De hown hw.2.1 hw.1 11 rfl rfl 2 (by decide) (hts _ kX_De_9) (fun _ h => h) rfl d_XDe_changeForm_66 ?_
              refine lv_iload hx hb d_XDe_changeForm_69 (lv_at hl 4 rfl) ?_
              refine lv_aload_n hx hb d_XDe_changeForm_71 rfl (lv_at hl 0 rfl) ?_
              refine va_get (v := .ref (a 2)) hx hb hts iX_De hown hw.2.1 hw.1 11 rfl rfl 1 (by decide) (hts _ kX_De_25) (fun _ h => h) rfl d_XDe_changeForm_72 ?_
              refine lv_aload_n hx hb d_XDe_changeForm_75 rfl (lv_at hl 1 rfl) ?_
              refine va_getN (v := .int (xF u_15 9)) hx hb hts iX_In hown hw.2.1 hw.1 6 rfl rfl 5 (by decide) (va_Nw.use rfl (hw.2.2.2 _ kX_De_26).2) (fun _ h => h) rfl d_XDe_changeForm_76 ?_
              refine lv_iload hx hb d_XDe_changeForm_79 (lv_at hl 4 rfl) ?_
              refine lv_iadd hx hb d_XDe_changeForm_81 ?_
              refine z_ri (z_runV (As := [.int ((xF u_15 9) + x_14)]) (rest := [.int x_14, .ref (a 12)]) ⟨hx, hb, hml, hown, hts⟩ (c_XMe_get l D a k u_15 ((xF u_15 9) + x_14)) (qX_De_83 hts (by decide)) hw 2 rfl rfl hl.1 rfl (lv_room (Nat.le_of_ble_eq_true rfl)) d_XDe_changeForm_82 hcs) (fun x_20 ex_20 => ?_)
              have hf := hf.trans (nm_eq ex_20)
              refine z_iast (u' := xsO u_15 (Int32.toNatClampNeg x_14) x_20) hx hb hw hS 12 2 rfl rfl (z_in16 hn.2 (by assumption)) rfl d_XDe_changeForm_85 (fun u_21 H locs eu_21 hw hS => ?_)
              have hf := hf.trans (nm_eq eu_21)
              obtain ⟨x_22, ex_22⟩ : ∃ y : Int32, y = x_14 + (1 : Int32) := ⟨_, rfl⟩
              have hf := hf.trans (nm_eq ex_22)
              refine lv_iinc (v := x_22) (lv' := [(4, .int x_22), (0, .ref (a 11)), (1, .ref (a 6)), (2, .int x_1), (3, .int x_2)]) hx hb d_XDe_changeForm_86 hl (k := 4) rfl (by rw [ex_22]; rfl) (by decide) rfl (fun ls hl => ?_)
              refine lv_goto (tgt := 49) hx hb d_XDe_changeForm_89 (by decide) ?_
              exact hL_16 x_22 u_21 (⟨mu_up c_18 ex_22 hn.1, inv_up c_18 ex_22 hn.2⟩) _ _ hw hS _ (lv_sub hl [1, 2, 3, 4, 0] rfl) hf
    · have hf := hf.trans (if_pos c_6)
      refine lv_iconst (v := (5 : Int32)) hx hb d_XDe_changeForm_44 (by decide) ?_
      exact hret (5 : Int32) _ _ _ _ _ d_XDe_changeForm_45 hw hS hf
def g_XDe_startsWithZeros_5 (x2 : Int32) (K_2 : Int32 → Bool) (u0 : XS) (x1 : Int32) (L_6 : Int32 → Int32 → Bool) : Int32 → Int32 → Bool := fun x_4 x_5 => if x2 ≤ x_5 then K_2 x_4 else nm (f_XMe_get u0 (x1 + x_5)) (fun (x_9 : Int32) => nm (x_4 ||| x_9) (fun (x_10 : Int32) => nm (x_5 + (1 : Int32)) (fun (x_11 : Int32) => L_6 x_10 x_11)))
def f_XDe_startsWithZeros (u0 : XS) (x1 : Int32) (x2 : Int32) : Bool := jn (fun (K_2 : Int32 → Bool) => lpN ((Int32.toInt x2 - Int32.toInt (0 : Int32)).toNat + 1) (g_XDe_startsWithZeros_5 x2 K_2 u0 x1) (fun _ _ => default) (0 : Int32) (0 : Int32)) (fun (x_1 : Int32) => if x_1 = (0 : Int32) then true else false)
set_option maxHeartbeats 4000000 in
set_option maxRecDepth 100000 in
theorem c_XDe_startsWithZeros (l : Launch) (D : va_G) (a : Nat → Nat) (k : Nat → ClassId) (u0 : XS) (x1 : Int32) (x2 : Int32) : zRz l y_XDe_startsWithZeros w_XDe_startsWithZeros rm_XDe_startsWithZeros D clX (tyX k) nwX (xW a k) [.ref (a 11), .int x1, .int x2] u0 (f_XDe_startsWithZeros u0 x1 x2) := by
  generalize hF : f_XDe_startsWithZeros u0 x1 x2 = F
  have hf := hF.symm
  unfold f_XDe_startsWithZeros at hf
  refine zRz_of (cc := b_XDe_startsWithZeros) (maxL := 5) (own := RX_De) (by decide) rfl rfl (Nat.le_of_ble_eq_true rfl) ?_
  intro p e R st m args below meth c H locs Q ls hR hx hb hml hown hts hw hret hl
  subst hR
  have hcs : 0 ≤ (rm_XDe_startsWithZeros).cells ∧ 0 ≤ (rm_XDe_startsWithZeros).slots := ⟨Nat.zero_le _, Nat.zero_le _⟩
  have hl : lv_has ls 5 [(0, .ref (a 11)), (1, .int x1), (2, .int x2)] := hl
  refine lv_iconst (v := (0 : Int32)) hx hb d_XDe_startsWithZeros_0 (by decide) ?_
  refine lv_istore_n (lv' := [(3, .int (0 : Int32)), (0, .ref (a 11)), (1, .int x1), (2, .int x2)]) hx hb d_XDe_startsWithZeros_1 rfl hl (by decide) rfl (fun ls hl => ?_)
  refine lv_iconst (v := (0 : Int32)) hx hb d_XDe_startsWithZeros_2 (by decide) ?_
  refine lv_istore (lv' := [(4, .int (0 : Int32)), (3, .int (0 : Int32)), (0, .ref (a 11)), (1, .int x1), (2, .int x2)]) hx hb d_XDe_startsWithZeros_3 hl (by decide) rfl (fun ls hl => ?_)
  refine jn_cut hf (fun (K_2 : Int32 → Bool) => ∀ (x_1 : Int32), ∀ (ls : Array Slot), lv_has ls 5 [(3, .int x_1)] → F = K_2 x_1 → W p l e rm_XDe_startsWithZeros st m args below meth c H locs 0 0 Q (F0 m 31 ls [])) ?_ ?_
  · intro x_1 ls hl hf
    refine lv_iload_n hx hb d_XDe_startsWithZeros_31 rfl (lv_at hl 0 rfl) ?_
    refine lv_if_ne (tgt := 39) hx hb d_XDe_startsWithZeros_32 (by decide) (fun c_3 => ?_) (fun c_3 => ?_)
    · have hf := hf.trans (if_neg c_3)
      refine lv_iconst (v := (0 : Int32)) hx hb d_XDe_startsWithZeros_39 (by decide) ?_
      exact hret false _ _ d_XDe_startsWithZeros_40 hf
    · have hf := hf.trans (if_pos c_3)
      refine lv_iconst (v := (1 : Int32)) hx hb d_XDe_startsWithZeros_35 (by decide) ?_
      refine lv_goto (tgt := 40) hx hb d_XDe_startsWithZeros_36 (by decide) ?_
      exact hret true _ _ d_XDe_startsWithZeros_40 hf
  · intro K_2 hK_2 hf
    refine lp_cut (fun (n_7 : Nat) (L_6 : Int32 → Int32 → Bool) => ∀ (x_4 : Int32) (x_5 : Int32), (Int32.toInt x2 - Int32.toInt x_5).toNat < n_7 → ∀ (ls : Array Slot), lv_has ls 5 [(0, .ref (a 11)), (1, .int x1), (2, .int x2), (3, .int x_4), (4, .int x_5)] → F = L_6 x_4 x_5 → W p l e rm_XDe_startsWithZeros st m args below meth c H locs 0 0 Q (F0 m 5 ls [])) ?_ ?_ ((Int32.toInt x2 - Int32.toInt (0 : Int32)).toNat + 1) (0 : Int32) (0 : Int32) (Nat.lt_succ_self _) _ (lv_sub hl [2, 3, 4, 1, 0] rfl) hf
    · intro x_4 x_5 hn; exact absurd hn (Nat.not_lt_zero _)
    · intro n_7 L_6 hL_6 x_4 x_5 hn ls hl hf
      unfold g_XDe_startsWithZeros_5 at hf
      refine lv_iload hx hb d_XDe_startsWithZeros_5 (lv_at hl 4 rfl) ?_
      refine lv_iload_n hx hb d_XDe_startsWithZeros_7 rfl (lv_at hl 2 rfl) ?_
      refine lv_icmp_ge (tgt := 31) hx hb d_XDe_startsWithZeros_8 (by decide) (fun c_8 => ?_) (fun c_8 => ?_)
      · have hf := hf.trans (if_pos c_8)
        exact hK_2 x_4 _ (lv_sub hl [3] rfl) hf
      · have hf := hf.trans (if_neg c_8)
        refine lv_iload_n hx hb d_XDe_startsWithZeros_11 rfl (lv_at hl 3 rfl) ?_
        refine lv_aload_n hx hb d_XDe_startsWithZeros_12 rfl (lv_at hl 0 rfl) ?_
        refine va_get (v := .ref (a 2)) hx hb hts iX_De hown hw.2.1 hw.1 11 rfl rfl 1 (by decide) (hts _ kX_De_25) (fun _ h => h) rfl d_XDe_startsWithZeros_13 ?_
        refine lv_iload_n hx hb d_XDe_startsWithZeros_16 rfl (lv_at hl 1 rfl) ?_
        refine lv_iload hx hb d_XDe_startsWithZeros_17 (lv_at hl 4 rfl) ?_
        refine lv_iadd hx hb d_XDe_startsWithZeros_19 ?_
        refine z_ri (z_runV (As := [.int (x1 + x_5)]) (rest := [.int x_4]) ⟨hx, hb, hml, hown, hts⟩ (c_XMe_get l D a k u0 (x1 + x_5)) (qX_De_83 hts (by decide)) hw 2 rfl rfl hl.1 rfl (lv_room (Nat.le_of_ble_eq_true rfl)) d_XDe_startsWithZeros_20 hcs) (fun x_9 ex_9 => ?_)
        have hf := hf.trans (nm_eq ex_9)
        refine lv_ior hx hb d_XDe_startsWithZeros_23 ?_
        refine lv_topi (fun x_10 ex_10 => ?_)
        have hf := hf.trans (nm_eq ex_10)
        refine lv_istore_n (lv' := [(3, .int x_10), (0, .ref (a 11)), (1, .int x1), (2, .int x2), (4, .int x_5)]) hx hb d_XDe_startsWithZeros_24 rfl hl (by decide) rfl (fun ls hl => ?_)
        obtain ⟨x_11, ex_11⟩ : ∃ y : Int32, y = x_5 + (1 : Int32) := ⟨_, rfl⟩
        have hf := hf.trans (nm_eq ex_11)
        refine lv_iinc (v := x_11) (lv' := [(4, .int x_11), (3, .int x_10), (0, .ref (a 11)), (1, .int x1), (2, .int x2)]) hx hb d_XDe_startsWithZeros_25 hl (k := 4) rfl (by rw [ex_11]; rfl) (by decide) rfl (fun ls hl => ?_)
        refine lv_goto (tgt := 5) hx hb d_XDe_startsWithZeros_28 (by decide) ?_
        exact hL_6 x_10 x_11 (mu_up c_8 ex_11 hn) _ (lv_sub hl [2, 3, 4, 1, 0] rfl) hf
def f_XDe_faultOfFields (u0 : XS) (x2 : Int32) (x3 : Int32) : Int32 := jn (fun (K_2 : Bool → Int32) => jn (fun (K_23 : Int32) => if (8 : Int32) < x2 then K_23 else if x3 ≤ (8 : Int32) then K_2 false else K_23) (K_2 true)) (fun (z_1 : Bool) => if (bI z_1) = (0 : Int32) then jn (fun (K_4 : Int32) => if (xF u0 4) < (252 : Int32) then K_4 else if x3 < x2 then K_4 else (6 : Int32)) (nm (f_XMe_holds u0 (xF u0 8) x2) (fun (z_5 : Bool) => if (bI z_5) = (0 : Int32) then (5 : Int32) else nm (f_XMe_holds u0 (xF u0 9) x3) (fun (z_7 : Bool) => if (bI z_7) = (0 : Int32) then (5 : Int32) else jn (fun (K_10 : Bool → Int32) => jn (fun (K_17 : Int32) => if (xF u0 4) = (248 : Int32) then K_17 else nm (f_XMe_isPacked u0 (xF u0 8) x2) (fun (z_19 : Bool) => if (bI z_19) = (0 : Int32) then K_10 false else K_17)) (K_10 true)) (fun (z_9 : Bool) => if (bI z_9) = (0 : Int32) then (7 : Int32) else nm (f_XMe_isPacked u0 (xF u0 9) x3) (fun (z_12 : Bool) => if (bI z_12) = (0 : Int32) then (7 : Int32) else if (xF u0 4) = (252 : Int32) then nm (f_XDe_startsWithZeros u0 (xF u0 8) x3) (fun (z_15 : Bool) => if (bI z_15) = (0 : Int32) then (7 : Int32) else (0 : Int32)) else (0 : Int32)))))) else (6 : Int32))
set_option maxHeartbeats 4000000 in
set_option maxRecDepth 100000 in
theorem c_XDe_faultOfFields (l : Launch) (D : va_G) (a : Nat → Nat) (k : Nat → ClassId) (u0 : XS) (x2 : Int32) (x3 : Int32) : zRi l y_XDe_faultOfFields w_XDe_faultOfFields rm_XDe_faultOfFields D clX (tyX k) nwX (xW a k) [.ref (a 11), .ref (a 6), .int x2, .int x3] u0 (f_XDe_faultOfFields u0 x2 x3) := by
  generalize hF : f_XDe_faultOfFields u0 x2 x3 = F
  have hf := hF.symm
  unfold f_XDe_faultOfFields at hf
  refine zRi_of (cc := b_XDe_faultOfFields) (maxL := 6) (own := RX_De) (by decide) rfl rfl (Nat.le_of_ble_eq_true rfl) ?_
  intro p e R st m args below meth c H locs Q ls hR hx hb hml hown hts hw hret hl
  subst hR
  have hcs : 0 ≤ (rm_XDe_faultOfFields).cells ∧ 0 ≤ (rm_XDe_faultOfFields).slots := ⟨Nat.zero_le _, Nat.zero_le _⟩
  have hl : lv_has ls 6 [(0, .ref (a 11)), (1, .ref (a 6)), (2, .int x2), (3, .int x3)] := hl
  refine lv_iload_n hx hb d_XDe_faultOfFields_0 rfl (lv_at hl 2 rfl) ?_
  refine lv_bipush (v := (8 : Int32)) hx hb d_XDe_faultOfFields_1 (by decide) ?_
  refine jn_cut hf (fun (K_2 : Bool → Int32) => ∀ (z_1 : Bool), ∀ (ls : Array Slot), lv_has ls 6 [(0, .ref (a 11)), (1, .ref (a 6)), (2, .int x2), (3, .int x3)] → F = K_2 z_1 → W p l e rm_XDe_faultOfFields st m args below meth c H locs 0 0 Q (F0 m 17 ls [.int (bI z_1)])) ?_ ?_
  · intro z_1 ls hl hf
    refine lv_istore (lv' := [(4, .int (bI z_1)), (0, .ref (a 11)), (1, .ref (a 6)), (2, .int x2), (3, .int x3)]) hx hb d_XDe_faultOfFields_17 hl (by decide) rfl (fun ls hl => ?_)
    refine lv_iload hx hb d_XDe_faultOfFields_19 (lv_at hl 0 rfl) ?_
    refine lv_if_ne (tgt := 39) hx hb d_XDe_faultOfFields_21 (by decide) (fun c_3 => ?_) (fun c_3 => ?_)
    · have hf := hf.trans (if_neg c_3)
      refine lv_bipush (v := (6 : Int32)) hx hb d_XDe_faultOfFields_39 (by decide) ?_
      exact hret (6 : Int32) _ _ d_XDe_faultOfFields_41 hf
    · have hf := hf.trans (if_pos c_3)
      refine lv_aload_n hx hb d_XDe_faultOfFields_24 rfl (lv_at hl 2 rfl) ?_
      refine va_getN (v := .int (xF u0 4)) hx hb hts iX_In hown hw.2.1 hw.1 6 rfl rfl 0 (by decide) (va_Nw.use rfl (hw.2.2.2 _ kX_De_38).2) (fun _ h => h) rfl d_XDe_faultOfFields_25 ?_
      refine lv_sipush (v := (252 : Int32)) hx hb d_XDe_faultOfFields_28 (by decide) ?_
      refine jn_cut hf (fun (K_4 : Int32) => ∀ (ls : Array Slot), lv_has ls 6 [(0, .ref (a 11)), (1, .ref (a 6)), (2, .int x2), (3, .int x3)] → F = K_4 → W p l e rm_XDe_faultOfFields st m args below meth c H locs 0 0 Q (F0 m 42 ls [])) ?_ ?_
      · intro ls hl hf
        refine lv_aload_n hx hb d_XDe_faultOfFields_42 rfl (lv_at hl 0 rfl) ?_
        refine va_get (v := .ref (a 2)) hx hb hts iX_De hown hw.2.1 hw.1 11 rfl rfl 1 (by decide) (hts _ kX_De_25) (fun _ h => h) rfl d_XDe_faultOfFields_43 ?_
        refine lv_aload_n hx hb d_XDe_faultOfFields_46 rfl (lv_at hl 1 rfl) ?_
        refine va_getN (v := .int (xF u0 8)) hx hb hts iX_In hown hw.2.1 hw.1 6 rfl rfl 4 (by decide) (va_Nw.use rfl (hw.2.2.2 _ kX_De_77).2) (fun _ h => h) rfl d_XDe_faultOfFields_47 ?_
        refine lv_iload_n hx hb d_XDe_faultOfFields_50 rfl (lv_at hl 2 rfl) ?_
        refine z_rz (z_runV (As := [.int (xF u0 8), .int x2]) (rest := []) ⟨hx, hb, hml, hown, hts⟩ (c_XMe_holds l D a k u0 (xF u0 8) x2) (qX_De_80 hts (by decide)) hw 2 rfl rfl hl.1 rfl (lv_room (Nat.le_of_ble_eq_true rfl)) d_XDe_faultOfFields_51 hcs) (fun z_5 ez_5 => ?_)
        have hf := hf.trans (nm_eq ez_5)
        refine lv_if_eq (tgt := 72) hx hb d_XDe_faultOfFields_54 (by decide) (fun c_6 => ?_) (fun c_6 => ?_)
        · have hf := hf.trans (if_pos c_6)
          refine lv_iconst (v := (5 : Int32)) hx hb d_XDe_faultOfFields_72 (by decide) ?_
          exact hret (5 : Int32) _ _ d_XDe_faultOfFields_73 hf
        · have hf := hf.trans (if_neg c_6)
          refine lv_aload_n hx hb d_XDe_faultOfFields_57 rfl (lv_at hl 0 rfl) ?_
          refine va_get (v := .ref (a 2)) hx hb hts iX_De hown hw.2.1 hw.1 11 rfl rfl 1 (by decide) (hts _ kX_De_25) (fun _ h => h) rfl d_XDe_faultOfFields_58 ?_
          refine lv_aload_n hx hb d_XDe_faultOfFields_61 rfl (lv_at hl 1 rfl) ?_
          refine va_getN (v := .int (xF u0 9)) hx hb hts iX_In hown hw.2.1 hw.1 6 rfl rfl 5 (by decide) (va_Nw.use rfl (hw.2.2.2 _ kX_De_26).2) (fun _ h => h) rfl d_XDe_faultOfFields_62 ?_
          refine lv_iload_n hx hb d_XDe_faultOfFields_65 rfl (lv_at hl 3 rfl) ?_
          refine z_rz (z_runV (As := [.int (xF u0 9), .int x3]) (rest := []) ⟨hx, hb, hml, hown, hts⟩ (c_XMe_holds l D a k u0 (xF u0 9) x3) (qX_De_80 hts (by decide)) hw 2 rfl rfl hl.1 rfl (lv_room (Nat.le_of_ble_eq_true rfl)) d_XDe_faultOfFields_66 hcs) (fun z_7 ez_7 => ?_)
          have hf := hf.trans (nm_eq ez_7)
          refine lv_if_ne (tgt := 74) hx hb d_XDe_faultOfFields_69 (by decide) (fun c_8 => ?_) (fun c_8 => ?_)
          · have hf := hf.trans (if_neg c_8)
            refine lv_aload_n hx hb d_XDe_faultOfFields_74 rfl (lv_at hl 1 rfl) ?_
            refine va_getN (v := .int (xF u0 4)) hx hb hts iX_In hown hw.2.1 hw.1 6 rfl rfl 0 (by decide) (va_Nw.use rfl (hw.2.2.2 _ kX_De_38).2) (fun _ h => h) rfl d_XDe_faultOfFields_75 ?_
            refine lv_sipush (v := (248 : Int32)) hx hb d_XDe_faultOfFields_78 (by decide) ?_
            refine jn_cut hf (fun (K_10 : Bool → Int32) => ∀ (z_9 : Bool), ∀ (ls : Array Slot), lv_has ls 6 [(0, .ref (a 11)), (1, .ref (a 6)), (3, .int x3)] → F = K_10 z_9 → W p l e rm_XDe_faultOfFields st m args below meth c H locs 0 0 Q (F0 m 104 ls [.int (bI z_9)])) ?_ ?_
            · intro z_9 ls hl hf
              refine lv_istore (lv' := [(5, .int (bI z_9)), (0, .ref (a 11)), (1, .ref (a 6)), (3, .int x3)]) hx hb d_XDe_faultOfFields_104 hl (by decide) rfl (fun ls hl => ?_)
              refine lv_iload hx hb d_XDe_faultOfFields_106 (lv_at hl 0 rfl) ?_
              refine lv_if_eq (tgt := 126) hx hb d_XDe_faultOfFields_108 (by decide) (fun c_11 => ?_) (fun c_11 => ?_)
              · have hf := hf.trans (if_pos c_11)
                refine lv_bipush (v := (7 : Int32)) hx hb d_XDe_faultOfFields_126 (by decide) ?_
                exact hret (7 : Int32) _ _ d_XDe_faultOfFields_128 hf
              · have hf := hf.trans (if_neg c_11)
                refine lv_aload_n hx hb d_XDe_faultOfFields_111 rfl (lv_at hl 1 rfl) ?_
                refine va_get (v := .ref (a 2)) hx hb hts iX_De hown hw.2.1 hw.1 11 rfl rfl 1 (by decide) (hts _ kX_De_25) (fun _ h => h) rfl d_XDe_faultOfFields_112 ?_
                refine lv_aload_n hx hb d_XDe_faultOfFields_115 rfl (lv_at hl 2 rfl) ?_
                refine va_getN (v := .int (xF u0 9)) hx hb hts iX_In hown hw.2.1 hw.1 6 rfl rfl 5 (by decide) (va_Nw.use rfl (hw.2.2.2 _ kX_De_26).2) (fun _ h => h) rfl d_XDe_faultOfFields_116 ?_
                refine lv_iload_n hx hb d_XDe_faultOfFields_119 rfl (lv_at hl 3 rfl) ?_
                refine z_rz (z_runV (As := [.int (xF u0 9), .int x3]) (rest := []) ⟨hx, hb, hml, hown, hts⟩ (c_XMe_isPacked l D a k u0 (xF u0 9) x3) (qX_De_62 hts (by decide)) hw 2 rfl rfl hl.1 rfl (lv_room (Nat.le_of_ble_eq_true rfl)) d_XDe_faultOfFields_120 hcs) (fun z_12 ez_12 => ?_)
                have hf := hf.trans (nm_eq ez_12)
                refine lv_if_ne (tgt := 129) hx hb d_XDe_faultOfFields_123 (by decide) (fun c_13 => ?_) (fun c_13 => ?_)
                · have hf := hf.trans (if_neg c_13)
                  refine lv_aload_n hx hb d_XDe_faultOfFields_129 rfl (lv_at hl 2 rfl) ?_
                  refine va_getN (v := .int (xF u0 4)) hx hb hts iX_In hown hw.2.1 hw.1 6 rfl rfl 0 (by decide) (va_Nw.use rfl (hw.2.2.2 _ kX_De_38).2) (fun _ h => h) rfl d_XDe_faultOfFields_130 ?_
                  refine lv_sipush (v := (252 : Int32)) hx hb d_XDe_faultOfFields_133 (by decide) ?_
                  refine lv_icmp_ne (tgt := 156) hx hb d_XDe_faultOfFields_136 (by decide) (fun c_14 => ?_) (fun c_14 => ?_)
                  · have hf := hf.trans (if_neg c_14)
                    refine lv_iconst (v := (0 : Int32)) hx hb d_XDe_faultOfFields_156 (by decide) ?_
                    exact hret (0 : Int32) _ _ d_XDe_faultOfFields_157 hf
                  · have hf := hf.trans (if_pos c_14)
                    refine lv_aload_n hx hb d_XDe_faultOfFields_139 rfl (lv_at hl 1 rfl) ?_
                    refine lv_aload_n hx hb d_XDe_faultOfFields_140 rfl (lv_at hl 2 rfl) ?_
                    refine va_getN (v := .int (xF u0 8)) hx hb hts iX_In hown hw.2.1 hw.1 6 rfl rfl 4 (by decide) (va_Nw.use rfl (hw.2.2.2 _ kX_De_77).2) (fun _ h => h) rfl d_XDe_faultOfFields_141 ?_
                    refine lv_iload_n hx hb d_XDe_faultOfFields_144 rfl (lv_at hl 3 rfl) ?_
                    refine z_rz (z_runV (As := [.int (xF u0 8), .int x3]) (rest := []) ⟨hx, hb, hml, hown, hts⟩ (c_XDe_startsWithZeros l D a k u0 (xF u0 8) x3) (qX_De_115 hts (by decide)) hw 11 rfl rfl hl.1 rfl (lv_room (Nat.le_of_ble_eq_true rfl)) d_XDe_faultOfFields_145 hcs) (fun z_15 ez_15 => ?_)
                    have hf := hf.trans (nm_eq ez_15)
                    refine lv_if_ne (tgt := 156) hx hb d_XDe_faultOfFields_148 (by decide) (fun c_16 => ?_) (fun c_16 => ?_)
                    · have hf := hf.trans (if_neg c_16)
                      refine lv_iconst (v := (0 : Int32)) hx hb d_XDe_faultOfFields_156 (by decide) ?_
                      exact hret (0 : Int32) _ _ d_XDe_faultOfFields_157 hf
                    · have hf := hf.trans (if_pos c_16)
                      refine lv_bipush (v := (7 : Int32)) hx hb d_XDe_faultOfFields_151 (by decide) ?_
                      refine lv_goto (tgt := 157) hx hb d_XDe_faultOfFields_153 (by decide) ?_
                      exact hret (7 : Int32) _ _ d_XDe_faultOfFields_157 hf
                · have hf := hf.trans (if_pos c_13)
                  refine lv_bipush (v := (7 : Int32)) hx hb d_XDe_faultOfFields_126 (by decide) ?_
                  exact hret (7 : Int32) _ _ d_XDe_faultOfFields_128 hf
            · intro K_10 hK_10 hf
              refine jn_cut hf (fun (K_17 : Int32) => ∀ (ls : Array Slot), lv_has ls 6 [(0, .ref (a 11)), (1, .ref (a 6)), (3, .int x3)] → F = K_17 → W p l e rm_XDe_faultOfFields st m args below meth c H locs 0 0 Q (F0 m 99 ls [])) ?_ ?_
              · intro ls hl hf
                refine lv_iconst (v := (1 : Int32)) hx hb d_XDe_faultOfFields_99 (by decide) ?_
                refine lv_goto (tgt := 104) hx hb d_XDe_faultOfFields_100 (by decide) ?_
                exact hK_10 true _ (lv_sub hl [0, 1, 2] rfl) hf
              · intro K_17 hK_17 hf
                refine lv_icmp_eq (tgt := 99) hx hb d_XDe_faultOfFields_81 (by decide) (fun c_18 => ?_) (fun c_18 => ?_)
                · have hf := hf.trans (if_pos c_18)
                  exact hK_17 _ (lv_sub hl [0, 1, 3] rfl) hf
                · have hf := hf.trans (if_neg c_18)
                  refine lv_aload_n hx hb d_XDe_faultOfFields_84 rfl (lv_at hl 0 rfl) ?_
                  refine va_get (v := .ref (a 2)) hx hb hts iX_De hown hw.2.1 hw.1 11 rfl rfl 1 (by decide) (hts _ kX_De_25) (fun _ h => h) rfl d_XDe_faultOfFields_85 ?_
                  refine lv_aload_n hx hb d_XDe_faultOfFields_88 rfl (lv_at hl 1 rfl) ?_
                  refine va_getN (v := .int (xF u0 8)) hx hb hts iX_In hown hw.2.1 hw.1 6 rfl rfl 4 (by decide) (va_Nw.use rfl (hw.2.2.2 _ kX_De_77).2) (fun _ h => h) rfl d_XDe_faultOfFields_89 ?_
                  refine lv_iload_n hx hb d_XDe_faultOfFields_92 rfl (lv_at hl 2 rfl) ?_
                  refine z_rz (z_runV (As := [.int (xF u0 8), .int x2]) (rest := []) ⟨hx, hb, hml, hown, hts⟩ (c_XMe_isPacked l D a k u0 (xF u0 8) x2) (qX_De_62 hts (by decide)) hw 2 rfl rfl hl.1 rfl (lv_room (Nat.le_of_ble_eq_true rfl)) d_XDe_faultOfFields_93 hcs) (fun z_19 ez_19 => ?_)
                  have hf := hf.trans (nm_eq ez_19)
                  refine lv_if_eq (tgt := 103) hx hb d_XDe_faultOfFields_96 (by decide) (fun c_20 => ?_) (fun c_20 => ?_)
                  · have hf := hf.trans (if_pos c_20)
                    refine lv_iconst (v := (0 : Int32)) hx hb d_XDe_faultOfFields_103 (by decide) ?_
                    exact hK_10 false _ (lv_sub hl [0, 1, 3] rfl) hf
                  · have hf := hf.trans (if_neg c_20)
                    exact hK_17 _ (lv_sub hl [0, 1, 3] rfl) hf
          · have hf := hf.trans (if_pos c_8)
            refine lv_iconst (v := (5 : Int32)) hx hb d_XDe_faultOfFields_72 (by decide) ?_
            exact hret (5 : Int32) _ _ d_XDe_faultOfFields_73 hf
      · intro K_4 hK_4 hf
        refine lv_icmp_lt (tgt := 42) hx hb d_XDe_faultOfFields_31 (by decide) (fun c_21 => ?_) (fun c_21 => ?_)
        · have hf := hf.trans (if_pos c_21)
          exact hK_4 _ (lv_sub hl [1, 2, 3, 4] rfl) hf
        · have hf := hf.trans (if_neg c_21)
          refine lv_iload_n hx hb d_XDe_faultOfFields_34 rfl (lv_at hl 4 rfl) ?_
          refine lv_iload_n hx hb d_XDe_faultOfFields_35 rfl (lv_at hl 3 rfl) ?_
          refine lv_icmp_lt (tgt := 42) hx hb d_XDe_faultOfFields_36 (by decide) (fun c_22 => ?_) (fun c_22 => ?_)
          · have hf := hf.trans (if_pos c_22)
            exact hK_4 _ (lv_sub hl [1, 2, 3, 4] rfl) hf
          · have hf := hf.trans (if_neg c_22)
            refine lv_bipush (v := (6 : Int32)) hx hb d_XDe_faultOfFields_39 (by decide) ?_
            exact hret (6 : Int32) _ _ d_XDe_faultOfFields_41 hf
  · intro K_2 hK_2 hf
    refine jn_cut hf (fun (K_23 : Int32) => ∀ (ls : Array Slot), lv_has ls 6 [(0, .ref (a 11)), (1, .ref (a 6)), (2, .int x2), (3, .int x3)] → F = K_23 → W p l e rm_XDe_faultOfFields st m args below meth c H locs 0 0 Q (F0 m 12 ls [])) ?_ ?_
    · intro ls hl hf
      refine lv_iconst (v := (1 : Int32)) hx hb d_XDe_faultOfFields_12 (by decide) ?_
      refine lv_goto (tgt := 17) hx hb d_XDe_faultOfFields_13 (by decide) ?_
      exact hK_2 true _ (lv_sub hl [0, 1, 2, 3] rfl) hf
    · intro K_23 hK_23 hf
      refine lv_icmp_gt (tgt := 12) hx hb d_XDe_faultOfFields_3 (by decide) (fun c_24 => ?_) (fun c_24 => ?_)
      · have hf := hf.trans (if_pos c_24)
        exact hK_23 _ (lv_sub hl [0, 1, 2, 3] rfl) hf
      · have hf := hf.trans (if_neg c_24)
        refine lv_iload_n hx hb d_XDe_faultOfFields_6 rfl (lv_at hl 3 rfl) ?_
        refine lv_bipush (v := (8 : Int32)) hx hb d_XDe_faultOfFields_7 (by decide) ?_
        refine lv_icmp_le (tgt := 16) hx hb d_XDe_faultOfFields_9 (by decide) (fun c_25 => ?_) (fun c_25 => ?_)
        · have hf := hf.trans (if_pos c_25)
          refine lv_iconst (v := (0 : Int32)) hx hb d_XDe_faultOfFields_16 (by decide) ?_
          exact hK_2 false _ (lv_sub hl [0, 1, 2, 3] rfl) hf
        · have hf := hf.trans (if_neg c_25)
          exact hK_23 _ (lv_sub hl [0, 1, 2, 3] rfl) hf
def g_XDe_hasRoom_7 (x2 : Int32) (K_2 : Int64 → Bool) (L_6 : Int64 → Int32 → Bool) : Int64 → Int32 → Bool := fun y_4 x_5 => if x2 ≤ x_5 then K_2 y_4 else nm (y_4 * (100 : Int64)) (fun (y_9 : Int64) => nm (x_5 + (1 : Int32)) (fun (x_10 : Int32) => L_6 y_9 x_10))
def f_XDe_hasRoom (u0 : XS) (y0 : Int64) (x2 : Int32) : Bool := jn (fun (K_2 : Int64 → Bool) => lpN ((Int32.toInt x2 - Int32.toInt (1 : Int32)).toNat + 1) (g_XDe_hasRoom_7 x2 K_2) (fun _ _ => default) (10 : Int64) (1 : Int32)) (fun (y_1 : Int64) => if y_1 ≤ y0 then false else true)
set_option maxHeartbeats 4000000 in
set_option maxRecDepth 100000 in
theorem c_XDe_hasRoom (l : Launch) (D : va_G) (a : Nat → Nat) (k : Nat → ClassId) (u0 : XS) (y0 : Int64) (x2 : Int32) : zRz l y_XDe_hasRoom w_XDe_hasRoom rm_XDe_hasRoom D clX (tyX k) nwX (xW a k) [.long y0, .int x2] u0 (f_XDe_hasRoom u0 y0 x2) := by
  generalize hF : f_XDe_hasRoom u0 y0 x2 = F
  have hf := hF.symm
  unfold f_XDe_hasRoom at hf
  refine zRz_of (cc := b_XDe_hasRoom) (maxL := 6) (own := RX_De) (by decide) rfl rfl (Nat.le_of_ble_eq_true rfl) ?_
  intro p e R st m args below meth c H locs Q ls hR hx hb hml hown hts hw hret hl
  subst hR
  have hcs : 0 ≤ (rm_XDe_hasRoom).cells ∧ 0 ≤ (rm_XDe_hasRoom).slots := ⟨Nat.zero_le _, Nat.zero_le _⟩
  have hl : lv_has ls 6 [(0, .long y0), (2, .int x2)] := hl
  refine lv_ldc2 (v := (10 : Int64)) hx hb hown (hts _ kX_De_118) d_XDe_hasRoom_0 ?_
  refine lv_lstore_n (lv' := [(3, .long (10 : Int64)), (0, .long y0), (2, .int x2)]) hx hb d_XDe_hasRoom_3 rfl hl (by decide) rfl (fun ls hl => ?_)
  refine lv_iconst (v := (1 : Int32)) hx hb d_XDe_hasRoom_4 (by decide) ?_
  refine lv_istore (lv' := [(5, .int (1 : Int32)), (3, .long (10 : Int64)), (0, .long y0), (2, .int x2)]) hx hb d_XDe_hasRoom_5 hl (by decide) rfl (fun ls hl => ?_)
  refine jn_cut hf (fun (K_2 : Int64 → Bool) => ∀ (y_1 : Int64), ∀ (ls : Array Slot), lv_has ls 6 [(0, .long y0), (3, .long y_1)] → F = K_2 y_1 → W p l e rm_XDe_hasRoom st m args below meth c H locs 0 0 Q (F0 m 25 ls [])) ?_ ?_
  · intro y_1 ls hl hf
    refine lv_lload_n hx hb d_XDe_hasRoom_25 rfl (lv_at hl 0 rfl) ?_
    refine lv_lload_n hx hb d_XDe_hasRoom_26 rfl (lv_at hl 1 rfl) ?_
    refine z_lcmp_ge (tgt := 35) hx hb d_XDe_hasRoom_27 d_XDe_hasRoom_28 (by decide) (fun c_3 => ?_) (fun c_3 => ?_)
    · have hf := hf.trans (if_pos c_3)
      refine lv_iconst (v := (0 : Int32)) hx hb d_XDe_hasRoom_35 (by decide) ?_
      exact hret false _ _ d_XDe_hasRoom_36 hf
    · have hf := hf.trans (if_neg c_3)
      refine lv_iconst (v := (1 : Int32)) hx hb d_XDe_hasRoom_31 (by decide) ?_
      refine lv_goto (tgt := 36) hx hb d_XDe_hasRoom_32 (by decide) ?_
      exact hret true _ _ d_XDe_hasRoom_36 hf
  · intro K_2 hK_2 hf
    refine lp_cut (fun (n_7 : Nat) (L_6 : Int64 → Int32 → Bool) => ∀ (y_4 : Int64) (x_5 : Int32), (Int32.toInt x2 - Int32.toInt x_5).toNat < n_7 → ∀ (ls : Array Slot), lv_has ls 6 [(0, .long y0), (2, .int x2), (3, .long y_4), (5, .int x_5)] → F = L_6 y_4 x_5 → W p l e rm_XDe_hasRoom st m args below meth c H locs 0 0 Q (F0 m 7 ls [])) ?_ ?_ ((Int32.toInt x2 - Int32.toInt (1 : Int32)).toNat + 1) (10 : Int64) (1 : Int32) (Nat.lt_succ_self _) _ (lv_sub hl [2, 3, 1, 0] rfl) hf
    · intro y_4 x_5 hn; exact absurd hn (Nat.not_lt_zero _)
    · intro n_7 L_6 hL_6 y_4 x_5 hn ls hl hf
      unfold g_XDe_hasRoom_7 at hf
      refine lv_iload hx hb d_XDe_hasRoom_7 (lv_at hl 3 rfl) ?_
      refine lv_iload_n hx hb d_XDe_hasRoom_9 rfl (lv_at hl 1 rfl) ?_
      refine lv_icmp_ge (tgt := 25) hx hb d_XDe_hasRoom_10 (by decide) (fun c_8 => ?_) (fun c_8 => ?_)
      · have hf := hf.trans (if_pos c_8)
        exact hK_2 y_4 _ (lv_sub hl [0, 2] rfl) hf
      · have hf := hf.trans (if_neg c_8)
        refine lv_lload_n hx hb d_XDe_hasRoom_13 rfl (lv_at hl 2 rfl) ?_
        refine lv_ldc2 (v := (100 : Int64)) hx hb hown (hts _ kX_De_120) d_XDe_hasRoom_14 ?_
        refine lv_lmul hx hb d_XDe_hasRoom_17 ?_
        refine lv_topl (fun y_9 ey_9 => ?_)
        have hf := hf.trans (nm_eq ey_9)
        refine lv_lstore_n (lv' := [(3, .long y_9), (0, .long y0), (2, .int x2), (5, .int x_5)]) hx hb d_XDe_hasRoom_18 rfl hl (by decide) rfl (fun ls hl => ?_)
        obtain ⟨x_10, ex_10⟩ : ∃ y : Int32, y = x_5 + (1 : Int32) := ⟨_, rfl⟩
        have hf := hf.trans (nm_eq ex_10)
        refine lv_iinc (v := x_10) (lv' := [(5, .int x_10), (3, .long y_9), (0, .long y0), (2, .int x2)]) hx hb d_XDe_hasRoom_19 hl (k := 3) rfl (by rw [ex_10]; rfl) (by decide) rfl (fun ls hl => ?_)
        refine lv_goto (tgt := 7) hx hb d_XDe_hasRoom_22 (by decide) ?_
        exact hL_6 y_9 x_10 (mu_up c_8 ex_10 hn) _ (lv_sub hl [2, 3, 1, 0] rfl) hf
end
section
def f_XSt_decimalOverflow (u0 : XS)  : Int32 × XS := nm (xsF u0 1 (3 : Int32)) (fun (u_1 : XS) => if ((xF u_1 2) &&& (2 : Int32)) = (0 : Int32) then ((0 : Int32), u_1) else ((10 : Int32), u_1))
set_option maxHeartbeats 4000000 in
set_option maxRecDepth 100000 in
theorem c_XSt_decimalOverflow (l : Launch) (D : va_G) (a : Nat → Nat) (k : Nat → ClassId) (u0 : XS)  : zMi l y_XSt_decimalOverflow w_XSt_decimalOverflow rm_XSt_decimalOverflow D clX (tyX k) nwX (xW a k) [.ref (a 1)] u0 (f_XSt_decimalOverflow u0) := by
  generalize hF : f_XSt_decimalOverflow u0 = F
  have hf := hF.symm
  unfold f_XSt_decimalOverflow at hf
  refine zMi_of (cc := b_XSt_decimalOverflow) (maxL := 1) (own := RX_St) (by decide) rfl rfl (Nat.le_of_ble_eq_true rfl) ?_
  intro p e R st m args below meth c A H locs Q ls hR hx hb hml hown hts hw hS hret hl
  subst hR
  have hcs : 0 ≤ (rm_XSt_decimalOverflow).cells ∧ 0 ≤ (rm_XSt_decimalOverflow).slots := ⟨Nat.zero_le _, Nat.zero_le _⟩
  have hl : lv_has ls 1 [(0, .ref (a 1))] := hl
  refine lv_aload_n hx hb d_XSt_decimalOverflow_0 rfl (lv_at hl 0 rfl) ?_
  refine lv_iconst (v := (3 : Int32)) hx hb d_XSt_decimalOverflow_1 (by decide) ?_
  refine z_put (u' := xsF u0 1 (3 : Int32)) hx hb hts iX_St tX_St tX_St_ok nX_St hown hw hS 1 rfl rfl 3 (by decide) (hts _ kX_St_26) (fun _ h => h) rfl rfl (Nat.le_of_ble_eq_true rfl) rfl d_XSt_decimalOverflow_2 (fun u_1 H locs eu_1 hw hS => ?_)
  have hf := hf.trans (nm_eq eu_1)
  refine lv_aload_n hx hb d_XSt_decimalOverflow_5 rfl (lv_at hl 0 rfl) ?_
  refine va_get (v := .int (xF u_1 2)) hx hb hts iX_St hown hw.2.1 hw.1 1 rfl rfl 4 (by decide) (hts _ kX_St_29) (fun _ h => h) rfl d_XSt_decimalOverflow_6 ?_
  refine lv_iconst (v := (2 : Int32)) hx hb d_XSt_decimalOverflow_9 (by decide) ?_
  refine lv_iand hx hb d_XSt_decimalOverflow_10 ?_
  refine lv_if_eq (tgt := 19) hx hb d_XSt_decimalOverflow_11 (by decide) (fun c_2 => ?_) (fun c_2 => ?_)
  · have hf := hf.trans (if_pos c_2)
    refine lv_iconst (v := (0 : Int32)) hx hb d_XSt_decimalOverflow_19 (by decide) ?_
    exact hret (0 : Int32) _ _ _ _ _ d_XSt_decimalOverflow_20 hw hS hf
  · have hf := hf.trans (if_neg c_2)
    refine lv_bipush (v := (10 : Int32)) hx hb d_XSt_decimalOverflow_14 (by decide) ?_
    refine lv_goto (tgt := 20) hx hb d_XSt_decimalOverflow_16 (by decide) ?_
    exact hret (10 : Int32) _ _ _ _ _ d_XSt_decimalOverflow_20 hw hS hf
end
section
def f_XDe_putSum (u0 : XS) (x1 : Int32) (x2 : Int32) (y3 : Int64) : Int32 × XS := nm (if 0 < y3 then y3 else -y3) (fun (y_1 : Int64) => jn (fun (K_3 : Bool → Int32 × XS) => if (0 : Int64) ≤ y3 then K_3 false else K_3 true) (fun (z_2 : Bool) => nm (f_XMe_putDecimal u0 x1 x2 y_1 z_2) (fun (u_4 : XS) => nm (f_XSt_conditionBySign u_4 y3) (fun (u_5 : XS) => nm (f_XDe_hasRoom u_5 y_1 x2) (fun (z_6 : Bool) => if (bI z_6) = (0 : Int32) then pr (f_XSt_decimalOverflow u_5) (fun (x_9 : Int32) (u_8 : XS) => (x_9, u_8)) else ((0 : Int32), u_5))))))
set_option maxHeartbeats 4000000 in
set_option maxRecDepth 100000 in
theorem c_XDe_putSum (l : Launch) (D : va_G) (a : Nat → Nat) (k : Nat → ClassId) (u0 : XS) (x1 : Int32) (x2 : Int32) (y3 : Int64) : zMi l y_XDe_putSum w_XDe_putSum rm_XDe_putSum D clX (tyX k) nwX (xW a k) [.ref (a 11), .int x1, .int x2, .long y3] u0 (f_XDe_putSum u0 x1 x2 y3) := by
  generalize hF : f_XDe_putSum u0 x1 x2 y3 = F
  have hf := hF.symm
  unfold f_XDe_putSum at hf
  refine zMi_of (cc := b_XDe_putSum) (maxL := 7) (own := RX_De) (by decide) rfl rfl (Nat.le_of_ble_eq_true rfl) ?_
  intro p e R st m args below meth c A H locs Q ls hR hx hb hml hown hts hw hS hret hl
  subst hR
  have hcs : 0 ≤ (rm_XDe_putSum).cells ∧ 0 ≤ (rm_XDe_putSum).slots := ⟨Nat.zero_le _, Nat.zero_le _⟩
  have hl : lv_has ls 7 [(0, .ref (a 11)), (1, .int x1), (2, .int x2), (3, .long y3)] := hl
  refine lv_lload_n hx hb d_XDe_putSum_0 rfl (lv_at hl 3 rfl) ?_
  refine va_mabs_long hx hb (hml.trans hl.1.symm) hown (hts _ kX_De_48) (hts _ kX_abs_static) (hts _ kX_abs_ini) (hts _ kX_abs_code) (by decide) (Nat.le_of_ble_eq_true rfl) hcs.1 hcs.2 d_XDe_putSum_1 ?_
  refine lv_topl (fun y_1 ey_1 => ?_)
  have hf := hf.trans (nm_eq ey_1)
  refine lv_lstore (lv' := [(5, .long y_1), (0, .ref (a 11)), (1, .int x1), (2, .int x2), (3, .long y3)]) hx hb d_XDe_putSum_4 hl (by decide) rfl (fun ls hl => ?_)
  refine lv_aload_n hx hb d_XDe_putSum_6 rfl (lv_at hl 1 rfl) ?_
  refine va_get (v := .ref (a 2)) hx hb hts iX_De hown hw.2.1 hw.1 11 rfl rfl 1 (by decide) (hts _ kX_De_25) (fun _ h => h) rfl d_XDe_putSum_7 ?_
  refine lv_iload_n hx hb d_XDe_putSum_10 rfl (lv_at hl 2 rfl) ?_
  refine lv_iload_n hx hb d_XDe_putSum_11 rfl (lv_at hl 3 rfl) ?_
  refine lv_lload hx hb d_XDe_putSum_12 (lv_at hl 0 rfl) ?_
  refine lv_lload_n hx hb d_XDe_putSum_14 rfl (lv_at hl 4 rfl) ?_
  refine lv_lconst (v := 0) hx hb d_XDe_putSum_15 (by decide) ?_
  refine jn_cut hf (fun (K_3 : Bool → Int32 × XS) => ∀ (z_2 : Bool), ∀ (ls : Array Slot), lv_has ls 7 [(0, .ref (a 11)), (2, .int x2), (3, .long y3), (5, .long y_1)] → F = K_3 z_2 → W p l e rm_XDe_putSum st m args below meth c H locs 0 0 Q (F0 m 25 ls [.int (bI z_2), .long y_1, .int x2, .int x1, .ref (a 2)])) ?_ ?_
  · intro z_2 ls hl hf
    refine z_wv (z_runV (As := [.int x1, .int x2, .long y_1, .int (bI z_2)]) (rest := []) ⟨hx, hb, hml, hown, hts⟩ (c_XMe_putDecimal l D a k u0 x1 x2 y_1 z_2) (qX_De_54 hts (by decide)) hw 2 rfl rfl hl.1 rfl (lv_room (Nat.le_of_ble_eq_true rfl)) d_XDe_putSum_25 hcs) hw hS (fun u_4 H locs eu_4 hw hS => ?_)
    have hf := hf.trans (nm_eq eu_4)
    refine lv_aload_n hx hb d_XDe_putSum_28 rfl (lv_at hl 0 rfl) ?_
    refine va_get (v := .ref (a 1)) hx hb hts iX_De hown hw.2.1 hw.1 11 rfl rfl 0 (by decide) (hts _ kX_De_15) (fun _ h => h) rfl d_XDe_putSum_29 ?_
    refine lv_lload_n hx hb d_XDe_putSum_32 rfl (lv_at hl 2 rfl) ?_
    refine z_wv (z_runV (As := [.long y3]) (rest := []) ⟨hx, hb, hml, hown, hts⟩ (c_XSt_conditionBySign l D a k u_4 y3) (qX_De_105 hts (by decide)) hw 1 rfl rfl hl.1 rfl (lv_room (Nat.le_of_ble_eq_true rfl)) d_XDe_putSum_33 hcs) hw hS (fun u_5 H locs eu_5 hw hS => ?_)
    have hf := hf.trans (nm_eq eu_5)
    refine lv_lload hx hb d_XDe_putSum_36 (lv_at hl 3 rfl) ?_
    refine lv_iload_n hx hb d_XDe_putSum_38 rfl (lv_at hl 1 rfl) ?_
    refine z_rz (z_runS (As := [.long y_1, .int x2]) (rest := []) ⟨hx, hb, hml, hown, hts⟩ (c_XDe_hasRoom l D a k u_5 y_1 x2) (qX_De_122 hts (by decide)) hw  hl.1 rfl (lv_room (Nat.le_of_ble_eq_true rfl)) d_XDe_putSum_39 hcs) (fun z_6 ez_6 => ?_)
    have hf := hf.trans (nm_eq ez_6)
    refine lv_if_eq (tgt := 49) hx hb d_XDe_putSum_42 (by decide) (fun c_7 => ?_) (fun c_7 => ?_)
    · have hf := hf.trans (if_pos c_7)
      refine lv_aload_n hx hb d_XDe_putSum_49 rfl (lv_at hl 0 rfl) ?_
      refine va_get (v := .ref (a 1)) hx hb hts iX_De hown hw.2.1 hw.1 11 rfl rfl 0 (by decide) (hts _ kX_De_15) (fun _ h => h) rfl d_XDe_putSum_50 ?_
      refine z_wi (z_runV (As := []) (rest := []) ⟨hx, hb, hml, hown, hts⟩ (c_XSt_decimalOverflow l D a k u_5) (qX_De_126 hts (by decide)) hw 1 rfl rfl hl.1 rfl (lv_room (Nat.le_of_ble_eq_true rfl)) d_XDe_putSum_53 hcs) hw hS (fun x_9 u_8 H locs ex_9 hw hS => ?_)
      have hf := hf.trans (pr_eq ex_9)
      exact hret x_9 _ _ _ _ _ d_XDe_putSum_56 hw hS hf
    · have hf := hf.trans (if_neg c_7)
      refine lv_iconst (v := (0 : Int32)) hx hb d_XDe_putSum_45 (by decide) ?_
      refine lv_goto (tgt := 56) hx hb d_XDe_putSum_46 (by decide) ?_
      exact hret (0 : Int32) _ _ _ _ _ d_XDe_putSum_56 hw hS hf
  · intro K_3 hK_3 hf
    refine z_lcmp_ge (tgt := 24) hx hb d_XDe_putSum_16 d_XDe_putSum_17 (by decide) (fun c_10 => ?_) (fun c_10 => ?_)
    · have hf := hf.trans (if_pos c_10)
      refine lv_iconst (v := (0 : Int32)) hx hb d_XDe_putSum_24 (by decide) ?_
      exact hK_3 false _ (lv_sub hl [1, 3, 4, 0] rfl) hf
    · have hf := hf.trans (if_neg c_10)
      refine lv_iconst (v := (1 : Int32)) hx hb d_XDe_putSum_20 (by decide) ?_
      refine lv_goto (tgt := 25) hx hb d_XDe_putSum_21 (by decide) ?_
      exact hK_3 true _ (lv_sub hl [1, 3, 4, 0] rfl) hf
def f_XDe_multiply (u0 : XS) (x2 : Int32) (x3 : Int32) : Int32 × XS := nm (f_XMe_decimal u0 (xF u0 8) x2) (fun (y_1 : Int64) => nm (f_XMe_decimal u0 (xF u0 9) x3) (fun (y_2 : Int64) => nm (y_1 * y_2) (fun (y_3 : Int64) => nm (f_XMe_isMinus u0 (xF u0 8) x2) (fun (z_4 : Bool) => nm (f_XMe_isMinus u0 (xF u0 9) x3) (fun (z_5 : Bool) => jn (fun (K_7 : Bool → Int32 × XS) => if (bI z_4) = (bI z_5) then K_7 false else K_7 true) (fun (z_6 : Bool) => nm (f_XMe_putDecimal u0 (xF u0 8) x2 (if 0 < y_3 then y_3 else -y_3) z_6) (fun (u_8 : XS) => ((0 : Int32), u_8))))))))
set_option maxHeartbeats 4000000 in
set_option maxRecDepth 100000 in
theorem c_XDe_multiply (l : Launch) (D : va_G) (a : Nat → Nat) (k : Nat → ClassId) (u0 : XS) (x2 : Int32) (x3 : Int32) : zMi l y_XDe_multiply w_XDe_multiply rm_XDe_multiply D clX (tyX k) nwX (xW a k) [.ref (a 11), .ref (a 6), .int x2, .int x3] u0 (f_XDe_multiply u0 x2 x3) := by
  generalize hF : f_XDe_multiply u0 x2 x3 = F
  have hf := hF.symm
  unfold f_XDe_multiply at hf
  refine zMi_of (cc := b_XDe_multiply) (maxL := 7) (own := RX_De) (by decide) rfl rfl (Nat.le_of_ble_eq_true rfl) ?_
  intro p e R st m args below meth c A H locs Q ls hR hx hb hml hown hts hw hS hret hl
  subst hR
  have hcs : 0 ≤ (rm_XDe_multiply).cells ∧ 0 ≤ (rm_XDe_multiply).slots := ⟨Nat.zero_le _, Nat.zero_le _⟩
  have hl : lv_has ls 7 [(0, .ref (a 11)), (1, .ref (a 6)), (2, .int x2), (3, .int x3)] := hl
  refine lv_aload_n hx hb d_XDe_multiply_0 rfl (lv_at hl 0 rfl) ?_
  refine va_get (v := .ref (a 2)) hx hb hts iX_De hown hw.2.1 hw.1 11 rfl rfl 1 (by decide) (hts _ kX_De_25) (fun _ h => h) rfl d_XDe_multiply_1 ?_
  refine lv_aload_n hx hb d_XDe_multiply_4 rfl (lv_at hl 1 rfl) ?_
  refine va_getN (v := .int (xF u0 8)) hx hb hts iX_In hown hw.2.1 hw.1 6 rfl rfl 4 (by decide) (va_Nw.use rfl (hw.2.2.2 _ kX_De_77).2) (fun _ h => h) rfl d_XDe_multiply_5 ?_
  refine lv_iload_n hx hb d_XDe_multiply_8 rfl (lv_at hl 2 rfl) ?_
  refine z_rl (z_runV (As := [.int (xF u0 8), .int x2]) (rest := []) ⟨hx, hb, hml, hown, hts⟩ (c_XMe_decimal l D a k u0 (xF u0 8) x2) (qX_De_66 hts (by decide)) hw 2 rfl rfl hl.1 rfl (lv_room (Nat.le_of_ble_eq_true rfl)) d_XDe_multiply_9 hcs) (fun y_1 ey_1 => ?_)
  have hf := hf.trans (nm_eq ey_1)
  refine lv_aload_n hx hb d_XDe_multiply_12 rfl (lv_at hl 0 rfl) ?_
  refine va_get (v := .ref (a 2)) hx hb hts iX_De hown hw.2.1 hw.1 11 rfl rfl 1 (by decide) (hts _ kX_De_25) (fun _ h => h) rfl d_XDe_multiply_13 ?_
  refine lv_aload_n hx hb d_XDe_multiply_16 rfl (lv_at hl 1 rfl) ?_
  refine va_getN (v := .int (xF u0 9)) hx hb hts iX_In hown hw.2.1 hw.1 6 rfl rfl 5 (by decide) (va_Nw.use rfl (hw.2.2.2 _ kX_De_26).2) (fun _ h => h) rfl d_XDe_multiply_17 ?_
  refine lv_iload_n hx hb d_XDe_multiply_20 rfl (lv_at hl 3 rfl) ?_
  refine z_rl (z_runV (As := [.int (xF u0 9), .int x3]) (rest := [.long y_1]) ⟨hx, hb, hml, hown, hts⟩ (c_XMe_decimal l D a k u0 (xF u0 9) x3) (qX_De_66 hts (by decide)) hw 2 rfl rfl hl.1 rfl (lv_room (Nat.le_of_ble_eq_true rfl)) d_XDe_multiply_21 hcs) (fun y_2 ey_2 => ?_)
  have hf := hf.trans (nm_eq ey_2)
  refine lv_lmul hx hb d_XDe_multiply_24 ?_
  refine lv_topl (fun y_3 ey_3 => ?_)
  have hf := hf.trans (nm_eq ey_3)
  refine lv_lstore (lv' := [(4, .long y_3), (0, .ref (a 11)), (1, .ref (a 6)), (2, .int x2), (3, .int x3)]) hx hb d_XDe_multiply_25 hl (by decide) rfl (fun ls hl => ?_)
  refine lv_aload_n hx hb d_XDe_multiply_27 rfl (lv_at hl 1 rfl) ?_
  refine va_get (v := .ref (a 2)) hx hb hts iX_De hown hw.2.1 hw.1 11 rfl rfl 1 (by decide) (hts _ kX_De_25) (fun _ h => h) rfl d_XDe_multiply_28 ?_
  refine lv_aload_n hx hb d_XDe_multiply_31 rfl (lv_at hl 2 rfl) ?_
  refine va_getN (v := .int (xF u0 8)) hx hb hts iX_In hown hw.2.1 hw.1 6 rfl rfl 4 (by decide) (va_Nw.use rfl (hw.2.2.2 _ kX_De_77).2) (fun _ h => h) rfl d_XDe_multiply_32 ?_
  refine lv_iload_n hx hb d_XDe_multiply_35 rfl (lv_at hl 3 rfl) ?_
  refine z_rz (z_runV (As := [.int (xF u0 8), .int x2]) (rest := []) ⟨hx, hb, hml, hown, hts⟩ (c_XMe_isMinus l D a k u0 (xF u0 8) x2) (qX_De_130 hts (by decide)) hw 2 rfl rfl hl.1 rfl (lv_room (Nat.le_of_ble_eq_true rfl)) d_XDe_multiply_36 hcs) (fun z_4 ez_4 => ?_)
  have hf := hf.trans (nm_eq ez_4)
  refine lv_aload_n hx hb d_XDe_multiply_39 rfl (lv_at hl 1 rfl) ?_
  refine va_get (v := .ref (a 2)) hx hb hts iX_De hown hw.2.1 hw.1 11 rfl rfl 1 (by decide) (hts _ kX_De_25) (fun _ h => h) rfl d_XDe_multiply_40 ?_
  refine lv_aload_n hx hb d_XDe_multiply_43 rfl (lv_at hl 2 rfl) ?_
  refine va_getN (v := .int (xF u0 9)) hx hb hts iX_In hown hw.2.1 hw.1 6 rfl rfl 5 (by decide) (va_Nw.use rfl (hw.2.2.2 _ kX_De_26).2) (fun _ h => h) rfl d_XDe_multiply_44 ?_
  refine lv_iload_n hx hb d_XDe_multiply_47 rfl (lv_at hl 4 rfl) ?_
  refine z_rz (z_runV (As := [.int (xF u0 9), .int x3]) (rest := [.int (bI z_4)]) ⟨hx, hb, hml, hown, hts⟩ (c_XMe_isMinus l D a k u0 (xF u0 9) x3) (qX_De_130 hts (by decide)) hw 2 rfl rfl hl.1 rfl (lv_room (Nat.le_of_ble_eq_true rfl)) d_XDe_multiply_48 hcs) (fun z_5 ez_5 => ?_)
  have hf := hf.trans (nm_eq ez_5)
  refine jn_cut hf (fun (K_7 : Bool → Int32 × XS) => ∀ (z_6 : Bool), ∀ (ls : Array Slot), lv_has ls 7 [(0, .ref (a 11)), (1, .ref (a 6)), (2, .int x2), (4, .long y_3)] → F = K_7 z_6 → W p l e rm_XDe_multiply st m args below meth c H locs 0 0 Q (F0 m 59 ls [.int (bI z_6)])) ?_ ?_
  · intro z_6 ls hl hf
    refine lv_istore (lv' := [(6, .int (bI z_6)), (0, .ref (a 11)), (1, .ref (a 6)), (2, .int x2), (4, .long y_3)]) hx hb d_XDe_multiply_59 hl (by decide) rfl (fun ls hl => ?_)
    refine lv_aload_n hx hb d_XDe_multiply_61 rfl (lv_at hl 1 rfl) ?_
    refine va_get (v := .ref (a 2)) hx hb hts iX_De hown hw.2.1 hw.1 11 rfl rfl 1 (by decide) (hts _ kX_De_25) (fun _ h => h) rfl d_XDe_multiply_62 ?_
    refine lv_aload_n hx hb d_XDe_multiply_65 rfl (lv_at hl 2 rfl) ?_
    refine va_getN (v := .int (xF u0 8)) hx hb hts iX_In hown hw.2.1 hw.1 6 rfl rfl 4 (by decide) (va_Nw.use rfl (hw.2.2.2 _ kX_De_77).2) (fun _ h => h) rfl d_XDe_multiply_66 ?_
    refine lv_iload_n hx hb d_XDe_multiply_69 rfl (lv_at hl 3 rfl) ?_
    refine lv_lload hx hb d_XDe_multiply_70 (lv_at hl 4 rfl) ?_
    refine va_mabs_long hx hb (hml.trans hl.1.symm) hown (hts _ kX_De_48) (hts _ kX_abs_static) (hts _ kX_abs_ini) (hts _ kX_abs_code) (by decide) (Nat.le_of_ble_eq_true rfl) hcs.1 hcs.2 d_XDe_multiply_72 ?_
    refine lv_iload hx hb d_XDe_multiply_75 (lv_at hl 0 rfl) ?_
    refine z_wv (z_runV (As := [.int (xF u0 8), .int x2, .long (if 0 < y_3 then y_3 else -y_3), .int (bI z_6)]) (rest := []) ⟨hx, hb, hml, hown, hts⟩ (c_XMe_putDecimal l D a k u0 (xF u0 8) x2 (if 0 < y_3 then y_3 else -y_3) z_6) (qX_De_54 hts (by decide)) hw 2 rfl rfl hl.1 rfl (lv_room (Nat.le_of_ble_eq_true rfl)) d_XDe_multiply_77 hcs) hw hS (fun u_8 H locs eu_8 hw hS => ?_)
    have hf := hf.trans (nm_eq eu_8)
    refine lv_iconst (v := (0 : Int32)) hx hb d_XDe_multiply_80 (by decide) ?_
    exact hret (0 : Int32) _ _ _ _ _ d_XDe_multiply_81 hw hS hf
  · intro K_7 hK_7 hf
    refine lv_icmp_eq (tgt := 58) hx hb d_XDe_multiply_51 (by decide) (fun c_9 => ?_) (fun c_9 => ?_)
    · have hf := hf.trans (if_pos c_9)
      refine lv_iconst (v := (0 : Int32)) hx hb d_XDe_multiply_58 (by decide) ?_
      exact hK_7 false _ (lv_sub hl [1, 2, 3, 0] rfl) hf
    · have hf := hf.trans (if_neg c_9)
      refine lv_iconst (v := (1 : Int32)) hx hb d_XDe_multiply_54 (by decide) ?_
      refine lv_goto (tgt := 59) hx hb d_XDe_multiply_55 (by decide) ?_
      exact hK_7 true _ (lv_sub hl [1, 2, 3, 0] rfl) hf
def f_XDe_divide (u0 : XS) (x2 : Int32) (x3 : Int32) : Int32 × XS := nm (f_XMe_decimal u0 (xF u0 8) x2) (fun (y_1 : Int64) => nm (if 0 < y_1 then y_1 else -y_1) (fun (y_2 : Int64) => nm (f_XMe_decimal u0 (xF u0 9) x3) (fun (y_3 : Int64) => nm (if 0 < y_3 then y_3 else -y_3) (fun (y_4 : Int64) => nm (x2 - x3) (fun (x_5 : Int32) => if y_4 = (0 : Int64) then ((11 : Int32), u0) else nm (f_XDe_hasRoom u0 (y_2 / y_4) x_5) (fun (z_7 : Bool) => if (bI z_7) = (0 : Int32) then ((11 : Int32), u0) else nm (f_XMe_isMinus u0 (xF u0 8) x2) (fun (z_9 : Bool) => nm (f_XMe_isMinus u0 (xF u0 9) x3) (fun (z_10 : Bool) => jn (fun (K_12 : Bool → Int32 × XS) => if (bI z_9) = (bI z_10) then K_12 false else K_12 true) (fun (z_11 : Bool) => nm (f_XMe_putDecimal u0 (xF u0 8) x_5 (y_2 / y_4) z_11) (fun (u_13 : XS) => nm (f_XMe_putDecimal u_13 ((xF u_13 8) + x_5) x3 (y_2 - y_2 / y_4 * y_4) z_9) (fun (u_14 : XS) => ((0 : Int32), u_14))))))))))))
set_option maxHeartbeats 4000000 in
set_option maxRecDepth 100000 in
theorem c_XDe_divide (l : Launch) (D : va_G) (a : Nat → Nat) (k : Nat → ClassId) (u0 : XS) (x2 : Int32) (x3 : Int32) : zMi l y_XDe_divide w_XDe_divide rm_XDe_divide D clX (tyX k) nwX (xW a k) [.ref (a 11), .ref (a 6), .int x2, .int x3] u0 (f_XDe_divide u0 x2 x3) := by
  generalize hF : f_XDe_divide u0 x2 x3 = F
  have hf := hF.symm
  unfold f_XDe_divide at hf
  refine zMi_of (cc := b_XDe_divide) (maxL := 11) (own := RX_De) (by decide) rfl rfl (Nat.le_of_ble_eq_true rfl) ?_
  intro p e R st m args below meth c A H locs Q ls hR hx hb hml hown hts hw hS hret hl
  subst hR
  have hcs : 0 ≤ (rm_XDe_divide).cells ∧ 0 ≤ (rm_XDe_divide).slots := ⟨Nat.zero_le _, Nat.zero_le _⟩
  have hl : lv_has ls 11 [(0, .ref (a 11)), (1, .ref (a 6)), (2, .int x2), (3, .int x3)] := hl
  refine lv_aload_n hx hb d_XDe_divide_0 rfl (lv_at hl 0 rfl) ?_
  refine va_get (v := .ref (a 2)) hx hb hts iX_De hown hw.2.1 hw.1 11 rfl rfl 1 (by decide) (hts _ kX_De_25) (fun _ h => h) rfl d_XDe_divide_1 ?_
  refine lv_aload_n hx hb d_XDe_divide_4 rfl (lv_at hl 1 rfl) ?_
  refine va_getN (v := .int (xF u0 8)) hx hb hts iX_In hown hw.2.1 hw.1 6 rfl rfl 4 (by decide) (va_Nw.use rfl (hw.2.2.2 _ kX_De_77).2) (fun _ h => h) rfl d_XDe_divide_5 ?_
  refine lv_iload_n hx hb d_XDe_divide_8 rfl (lv_at hl 2 rfl) ?_
  refine z_rl (z_runV (As := [.int (xF u0 8), .int x2]) (rest := []) ⟨hx, hb, hml, hown, hts⟩ (c_XMe_decimal l D a k u0 (xF u0 8) x2) (qX_De_66 hts (by decide)) hw 2 rfl rfl hl.1 rfl (lv_room (Nat.le_of_ble_eq_true rfl)) d_XDe_divide_9 hcs) (fun y_1 ey_1 => ?_)
  have hf := hf.trans (nm_eq ey_1)
  refine va_mabs_long hx hb (hml.trans hl.1.symm) hown (hts _ kX_De_48) (hts _ kX_abs_static) (hts _ kX_abs_ini) (hts _ kX_abs_code) (by decide) (Nat.le_of_ble_eq_true rfl) hcs.1 hcs.2 d_XDe_divide_12 ?_
  refine lv_topl (fun y_2 ey_2 => ?_)
  have hf := hf.trans (nm_eq ey_2)
  refine lv_lstore (lv' := [(4, .long y_2), (0, .ref (a 11)), (1, .ref (a 6)), (2, .int x2), (3, .int x3)]) hx hb d_XDe_divide_15 hl (by decide) rfl (fun ls hl => ?_)
  refine lv_aload_n hx hb d_XDe_divide_17 rfl (lv_at hl 1 rfl) ?_
  refine va_get (v := .ref (a 2)) hx hb hts iX_De hown hw.2.1 hw.1 11 rfl rfl 1 (by decide) (hts _ kX_De_25) (fun _ h => h) rfl d_XDe_divide_18 ?_
  refine lv_aload_n hx hb d_XDe_divide_21 rfl (lv_at hl 2 rfl) ?_
  refine va_getN (v := .int (xF u0 9)) hx hb hts iX_In hown hw.2.1 hw.1 6 rfl rfl 5 (by decide) (va_Nw.use rfl (hw.2.2.2 _ kX_De_26).2) (fun _ h => h) rfl d_XDe_divide_22 ?_
  refine lv_iload_n hx hb d_XDe_divide_25 rfl (lv_at hl 4 rfl) ?_
  refine z_rl (z_runV (As := [.int (xF u0 9), .int x3]) (rest := []) ⟨hx, hb, hml, hown, hts⟩ (c_XMe_decimal l D a k u0 (xF u0 9) x3) (qX_De_66 hts (by decide)) hw 2 rfl rfl hl.1 rfl (lv_room (Nat.le_of_ble_eq_true rfl)) d_XDe_divide_26 hcs) (fun y_3 ey_3 => ?_)
  have hf := hf.trans (nm_eq ey_3)
  refine va_mabs_long hx hb (hml.trans hl.1.symm) hown (hts _ kX_De_48) (hts _ kX_abs_static) (hts _ kX_abs_ini) (hts _ kX_abs_code) (by decide) (Nat.le_of_ble_eq_true rfl) hcs.1 hcs.2 d_XDe_divide_29 ?_
  refine lv_topl (fun y_4 ey_4 => ?_)
  have hf := hf.trans (nm_eq ey_4)
  refine lv_lstore (lv' := [(6, .long y_4), (4, .long y_2), (0, .ref (a 11)), (1, .ref (a 6)), (2, .int x2), (3, .int x3)]) hx hb d_XDe_divide_32 hl (by decide) rfl (fun ls hl => ?_)
  refine lv_iload_n hx hb d_XDe_divide_34 rfl (lv_at hl 4 rfl) ?_
  refine lv_iload_n hx hb d_XDe_divide_35 rfl (lv_at hl 5 rfl) ?_
  refine lv_isub hx hb d_XDe_divide_36 ?_
  refine lv_topi (fun x_5 ex_5 => ?_)
  have hf := hf.trans (nm_eq ex_5)
  refine lv_istore (lv' := [(8, .int x_5), (6, .long y_4), (4, .long y_2), (0, .ref (a 11)), (1, .ref (a 6)), (2, .int x2), (3, .int x3)]) hx hb d_XDe_divide_37 hl (by decide) rfl (fun ls hl => ?_)
  refine lv_lload hx hb d_XDe_divide_39 (lv_at hl 1 rfl) ?_
  refine lv_lconst (v := 0) hx hb d_XDe_divide_41 (by decide) ?_
  refine z_lcmp_eq (tgt := 59) hx hb d_XDe_divide_42 d_XDe_divide_43 (by decide) (fun c_6 => ?_) (fun c_6 => ?_)
  · have hf := hf.trans (if_pos c_6)
    refine lv_bipush (v := (11 : Int32)) hx hb d_XDe_divide_59 (by decide) ?_
    exact hret (11 : Int32) _ _ _ _ _ d_XDe_divide_61 hw hS hf
  · have hf := hf.trans (if_neg c_6)
    refine lv_lload hx hb d_XDe_divide_46 (lv_at hl 2 rfl) ?_
    refine lv_lload hx hb d_XDe_divide_48 (lv_at hl 1 rfl) ?_
    refine lv_ldiv hx hb d_XDe_divide_50 (by assumption) ?_
    refine lv_iload hx hb d_XDe_divide_51 (lv_at hl 0 rfl) ?_
    refine z_rz (z_runS (As := [.long (y_2 / y_4), .int x_5]) (rest := []) ⟨hx, hb, hml, hown, hts⟩ (c_XDe_hasRoom l D a k u0 (y_2 / y_4) x_5) (qX_De_122 hts (by decide)) hw  hl.1 rfl (lv_room (Nat.le_of_ble_eq_true rfl)) d_XDe_divide_53 hcs) (fun z_7 ez_7 => ?_)
    have hf := hf.trans (nm_eq ez_7)
    refine lv_if_ne (tgt := 62) hx hb d_XDe_divide_56 (by decide) (fun c_8 => ?_) (fun c_8 => ?_)
    · have hf := hf.trans (if_neg c_8)
      refine lv_aload_n hx hb d_XDe_divide_62 rfl (lv_at hl 3 rfl) ?_
      refine va_get (v := .ref (a 2)) hx hb hts iX_De hown hw.2.1 hw.1 11 rfl rfl 1 (by decide) (hts _ kX_De_25) (fun _ h => h) rfl d_XDe_divide_63 ?_
      refine lv_aload_n hx hb d_XDe_divide_66 rfl (lv_at hl 4 rfl) ?_
      refine va_getN (v := .int (xF u0 8)) hx hb hts iX_In hown hw.2.1 hw.1 6 rfl rfl 4 (by decide) (va_Nw.use rfl (hw.2.2.2 _ kX_De_77).2) (fun _ h => h) rfl d_XDe_divide_67 ?_
      refine lv_iload_n hx hb d_XDe_divide_70 rfl (lv_at hl 5 rfl) ?_
      refine z_rz (z_runV (As := [.int (xF u0 8), .int x2]) (rest := []) ⟨hx, hb, hml, hown, hts⟩ (c_XMe_isMinus l D a k u0 (xF u0 8) x2) (qX_De_130 hts (by decide)) hw 2 rfl rfl hl.1 rfl (lv_room (Nat.le_of_ble_eq_true rfl)) d_XDe_divide_71 hcs) (fun z_9 ez_9 => ?_)
      have hf := hf.trans (nm_eq ez_9)
      refine lv_istore (lv' := [(9, .int (bI z_9)), (8, .int x_5), (6, .long y_4), (4, .long y_2), (0, .ref (a 11)), (1, .ref (a 6)), (2, .int x2), (3, .int x3)]) hx hb d_XDe_divide_74 hl (by decide) rfl (fun ls hl => ?_)
      refine lv_aload_n hx hb d_XDe_divide_76 rfl (lv_at hl 4 rfl) ?_
      refine va_get (v := .ref (a 2)) hx hb hts iX_De hown hw.2.1 hw.1 11 rfl rfl 1 (by decide) (hts _ kX_De_25) (fun _ h => h) rfl d_XDe_divide_77 ?_
      refine lv_aload_n hx hb d_XDe_divide_80 rfl (lv_at hl 5 rfl) ?_
      refine va_getN (v := .int (xF u0 9)) hx hb hts iX_In hown hw.2.1 hw.1 6 rfl rfl 5 (by decide) (va_Nw.use rfl (hw.2.2.2 _ kX_De_26).2) (fun _ h => h) rfl d_XDe_divide_81 ?_
      refine lv_iload_n hx hb d_XDe_divide_84 rfl (lv_at hl 7 rfl) ?_
      refine z_rz (z_runV (As := [.int (xF u0 9), .int x3]) (rest := []) ⟨hx, hb, hml, hown, hts⟩ (c_XMe_isMinus l D a k u0 (xF u0 9) x3) (qX_De_130 hts (by decide)) hw 2 rfl rfl hl.1 rfl (lv_room (Nat.le_of_ble_eq_true rfl)) d_XDe_divide_85 hcs) (fun z_10 ez_10 => ?_)
      have hf := hf.trans (nm_eq ez_10)
      refine lv_istore (lv' := [(10, .int (bI z_10)), (9, .int (bI z_9)), (8, .int x_5), (6, .long y_4), (4, .long y_2), (0, .ref (a 11)), (1, .ref (a 6)), (2, .int x2), (3, .int x3)]) hx hb d_XDe_divide_88 hl (by decide) rfl (fun ls hl => ?_)
      refine lv_aload_n hx hb d_XDe_divide_90 rfl (lv_at hl 5 rfl) ?_
      refine va_get (v := .ref (a 2)) hx hb hts iX_De hown hw.2.1 hw.1 11 rfl rfl 1 (by decide) (hts _ kX_De_25) (fun _ h => h) rfl d_XDe_divide_91 ?_
      refine lv_aload_n hx hb d_XDe_divide_94 rfl (lv_at hl 6 rfl) ?_
      refine va_getN (v := .int (xF u0 8)) hx hb hts iX_In hown hw.2.1 hw.1 6 rfl rfl 4 (by decide) (va_Nw.use rfl (hw.2.2.2 _ kX_De_77).2) (fun _ h => h) rfl d_XDe_divide_95 ?_
      refine lv_iload hx hb d_XDe_divide_98 (lv_at hl 2 rfl) ?_
      refine lv_lload hx hb d_XDe_divide_100 (lv_at hl 4 rfl) ?_
      refine lv_lload hx hb d_XDe_divide_102 (lv_at hl 3 rfl) ?_
      refine lv_ldiv hx hb d_XDe_divide_104 (by assumption) ?_
      refine lv_iload hx hb d_XDe_divide_105 (lv_at hl 1 rfl) ?_
      refine lv_iload hx hb d_XDe_divide_107 (lv_at hl 0 rfl) ?_
      refine jn_cut hf (fun (K_12 : Bool → Int32 × XS) => ∀ (z_11 : Bool), ∀ (ls : Array Slot), lv_has ls 11 [(0, .ref (a 11)), (1, .ref (a 6)), (3, .int x3), (4, .long y_2), (6, .long y_4), (8, .int x_5), (9, .int (bI z_9))] → F = K_12 z_11 → W p l e rm_XDe_divide st m args below meth c H locs 0 0 Q (F0 m 117 ls [.int (bI z_11), .long (y_2 / y_4), .int x_5, .int (xF u0 8), .ref (a 2)])) ?_ ?_
      · intro z_11 ls hl hf
        refine z_wv (z_runV (As := [.int (xF u0 8), .int x_5, .long (y_2 / y_4), .int (bI z_11)]) (rest := []) ⟨hx, hb, hml, hown, hts⟩ (c_XMe_putDecimal l D a k u0 (xF u0 8) x_5 (y_2 / y_4) z_11) (qX_De_54 hts (by decide)) hw 2 rfl rfl hl.1 rfl (lv_room (Nat.le_of_ble_eq_true rfl)) d_XDe_divide_117 hcs) hw hS (fun u_13 H locs eu_13 hw hS => ?_)
        have hf := hf.trans (nm_eq eu_13)
        refine lv_aload_n hx hb d_XDe_divide_120 rfl (lv_at hl 0 rfl) ?_
        refine va_get (v := .ref (a 2)) hx hb hts iX_De hown hw.2.1 hw.1 11 rfl rfl 1 (by decide) (hts _ kX_De_25) (fun _ h => h) rfl d_XDe_divide_121 ?_
        refine lv_aload_n hx hb d_XDe_divide_124 rfl (lv_at hl 1 rfl) ?_
        refine va_getN (v := .int (xF u_13 8)) hx hb hts iX_In hown hw.2.1 hw.1 6 rfl rfl 4 (by decide) (va_Nw.use rfl (hw.2.2.2 _ kX_De_77).2) (fun _ h => h) rfl d_XDe_divide_125 ?_
        refine lv_iload hx hb d_XDe_divide_128 (lv_at hl 5 rfl) ?_
        refine lv_iadd hx hb d_XDe_divide_130 ?_
        refine lv_iload_n hx hb d_XDe_divide_131 rfl (lv_at hl 2 rfl) ?_
        refine lv_lload hx hb d_XDe_divide_132 (lv_at hl 3 rfl) ?_
        refine lv_lload hx hb d_XDe_divide_134 (lv_at hl 4 rfl) ?_
        refine lv_lrem hx hb d_XDe_divide_136 (by assumption) ?_
        refine lv_iload hx hb d_XDe_divide_137 (lv_at hl 6 rfl) ?_
        refine z_wv (z_runV (As := [.int ((xF u_13 8) + x_5), .int x3, .long (y_2 - y_2 / y_4 * y_4), .int (bI z_9)]) (rest := []) ⟨hx, hb, hml, hown, hts⟩ (c_XMe_putDecimal l D a k u_13 ((xF u_13 8) + x_5) x3 (y_2 - y_2 / y_4 * y_4) z_9) (qX_De_54 hts (by decide)) hw 2 rfl rfl hl.1 rfl (lv_room (Nat.le_of_ble_eq_true rfl)) d_XDe_divide_139 hcs) hw hS (fun u_14 H locs eu_14 hw hS => ?_)
        have hf := hf.trans (nm_eq eu_14)
        refine lv_iconst (v := (0 : Int32)) hx hb d_XDe_divide_142 (by decide) ?_
        exact hret (0 : Int32) _ _ _ _ _ d_XDe_divide_143 hw hS hf
      · intro K_12 hK_12 hf
        refine lv_icmp_eq (tgt := 116) hx hb d_XDe_divide_109 (by decide) (fun c_15 => ?_) (fun c_15 => ?_)
        · have hf := hf.trans (if_pos c_15)
          refine lv_iconst (v := (0 : Int32)) hx hb d_XDe_divide_116 (by decide) ?_
          exact hK_12 false _ (lv_sub hl [5, 6, 8, 4, 3, 2, 1] rfl) hf
        · have hf := hf.trans (if_neg c_15)
          refine lv_iconst (v := (1 : Int32)) hx hb d_XDe_divide_112 (by decide) ?_
          refine lv_goto (tgt := 117) hx hb d_XDe_divide_113 (by decide) ?_
          exact hK_12 true _ (lv_sub hl [5, 6, 8, 4, 3, 2, 1] rfl) hf
    · have hf := hf.trans (if_pos c_8)
      refine lv_bipush (v := (11 : Int32)) hx hb d_XDe_divide_59 (by decide) ?_
      exact hret (11 : Int32) _ _ _ _ _ d_XDe_divide_61 hw hS hf
def f_XDe_calculate (u0 : XS)  : Int32 × XS := nm ((xF u0 6) + (1 : Int32)) (fun (x_1 : Int32) => nm ((xF u0 7) + (1 : Int32)) (fun (x_2 : Int32) => nm (f_XDe_faultOfFields u0 x_1 x_2) (fun (x_3 : Int32) => if x_3 = (0 : Int32) then nm (f_XMe_decimal u0 (xF u0 8) x_1) (fun (y_5 : Int64) => nm (f_XMe_decimal u0 (xF u0 9) x_2) (fun (y_6 : Int64) => nm (xF u0 4) (fun (x_7 : Int32) => if x_7 = (248 : Int32) then pr (f_XDe_putSum u0 (xF u0 8) x_1 y_6) (fun (x_10 : Int32) (u_9 : XS) => (x_10, u_9)) else if x_7 = (249 : Int32) then nm (f_XSt_conditionBySign u0 (y_5 - y_6)) (fun (u_12 : XS) => ((0 : Int32), u_12)) else if x_7 = (250 : Int32) then pr (f_XDe_putSum u0 (xF u0 8) x_1 (y_5 + y_6)) (fun (x_15 : Int32) (u_14 : XS) => (x_15, u_14)) else if x_7 = (251 : Int32) then pr (f_XDe_putSum u0 (xF u0 8) x_1 (y_5 - y_6)) (fun (x_18 : Int32) (u_17 : XS) => (x_18, u_17)) else if x_7 = (252 : Int32) then pr (f_XDe_multiply u0 x_1 x_2) (fun (x_21 : Int32) (u_20 : XS) => (x_21, u_20)) else pr (f_XDe_divide u0 x_1 x_2) (fun (x_23 : Int32) (u_22 : XS) => (x_23, u_22))))) else (x_3, u0))))
set_option maxHeartbeats 4000000 in
set_option maxRecDepth 100000 in
theorem c_XDe_calculate (l : Launch) (D : va_G) (a : Nat → Nat) (k : Nat → ClassId) (u0 : XS)  : zMi l y_XDe_calculate w_XDe_calculate rm_XDe_calculate D clX (tyX k) nwX (xW a k) [.ref (a 11), .ref (a 6)] u0 (f_XDe_calculate u0) := by
  generalize hF : f_XDe_calculate u0 = F
  have hf := hF.symm
  unfold f_XDe_calculate at hf
  refine zMi_of (cc := b_XDe_calculate) (maxL := 9) (own := RX_De) (by decide) rfl rfl (Nat.le_of_ble_eq_true rfl) ?_
  intro p e R st m args below meth c A H locs Q ls hR hx hb hml hown hts hw hS hret hl
  subst hR
  have hcs : 0 ≤ (rm_XDe_calculate).cells ∧ 0 ≤ (rm_XDe_calculate).slots := ⟨Nat.zero_le _, Nat.zero_le _⟩
  have hl : lv_has ls 9 [(0, .ref (a 11)), (1, .ref (a 6))] := hl
  refine lv_aload_n hx hb d_XDe_calculate_0 rfl (lv_at hl 1 rfl) ?_
  refine va_getN (v := .int (xF u0 6)) hx hb hts iX_In hown hw.2.1 hw.1 6 rfl rfl 2 (by decide) (va_Nw.use rfl (hw.2.2.2 _ kX_De_41).2) (fun _ h => h) rfl d_XDe_calculate_1 ?_
  refine lv_iconst (v := (1 : Int32)) hx hb d_XDe_calculate_4 (by decide) ?_
  refine lv_iadd hx hb d_XDe_calculate_5 ?_
  refine lv_topi (fun x_1 ex_1 => ?_)
  have hf := hf.trans (nm_eq ex_1)
  refine lv_istore_n (lv' := [(2, .int x_1), (0, .ref (a 11)), (1, .ref (a 6))]) hx hb d_XDe_calculate_6 rfl hl (by decide) rfl (fun ls hl => ?_)
  refine lv_aload_n hx hb d_XDe_calculate_7 rfl (lv_at hl 2 rfl) ?_
  refine va_getN (v := .int (xF u0 7)) hx hb hts iX_In hown hw.2.1 hw.1 6 rfl rfl 3 (by decide) (va_Nw.use rfl (hw.2.2.2 _ kX_De_74).2) (fun _ h => h) rfl d_XDe_calculate_8 ?_
  refine lv_iconst (v := (1 : Int32)) hx hb d_XDe_calculate_11 (by decide) ?_
  refine lv_iadd hx hb d_XDe_calculate_12 ?_
  refine lv_topi (fun x_2 ex_2 => ?_)
  have hf := hf.trans (nm_eq ex_2)
  refine lv_istore_n (lv' := [(3, .int x_2), (2, .int x_1), (0, .ref (a 11)), (1, .ref (a 6))]) hx hb d_XDe_calculate_13 rfl hl (by decide) rfl (fun ls hl => ?_)
  refine lv_aload_n hx hb d_XDe_calculate_14 rfl (lv_at hl 2 rfl) ?_
  refine lv_aload_n hx hb d_XDe_calculate_15 rfl (lv_at hl 3 rfl) ?_
  refine lv_iload_n hx hb d_XDe_calculate_16 rfl (lv_at hl 1 rfl) ?_
  refine lv_iload_n hx hb d_XDe_calculate_17 rfl (lv_at hl 0 rfl) ?_
  refine z_ri (z_runV (As := [.ref (a 6), .int x_1, .int x_2]) (rest := []) ⟨hx, hb, hml, hown, hts⟩ (c_XDe_faultOfFields l D a k u0 x_1 x_2) (qX_De_97 hts (by decide)) hw 11 rfl rfl hl.1 rfl (lv_room (Nat.le_of_ble_eq_true rfl)) d_XDe_calculate_18 hcs) (fun x_3 ex_3 => ?_)
  have hf := hf.trans (nm_eq ex_3)
  refine lv_istore (lv' := [(4, .int x_3), (3, .int x_2), (2, .int x_1), (0, .ref (a 11)), (1, .ref (a 6))]) hx hb d_XDe_calculate_21 hl (by decide) rfl (fun ls hl => ?_)
  refine lv_iload hx hb d_XDe_calculate_23 (lv_at hl 0 rfl) ?_
  refine lv_if_eq (tgt := 31) hx hb d_XDe_calculate_25 (by decide) (fun c_4 => ?_) (fun c_4 => ?_)
  · have hf := hf.trans (if_pos c_4)
    refine lv_aload_n hx hb d_XDe_calculate_31 rfl (lv_at hl 3 rfl) ?_
    refine va_get (v := .ref (a 2)) hx hb hts iX_De hown hw.2.1 hw.1 11 rfl rfl 1 (by decide) (hts _ kX_De_25) (fun _ h => h) rfl d_XDe_calculate_32 ?_
    refine lv_aload_n hx hb d_XDe_calculate_35 rfl (lv_at hl 4 rfl) ?_
    refine va_getN (v := .int (xF u0 8)) hx hb hts iX_In hown hw.2.1 hw.1 6 rfl rfl 4 (by decide) (va_Nw.use rfl (hw.2.2.2 _ kX_De_77).2) (fun _ h => h) rfl d_XDe_calculate_36 ?_
    refine lv_iload_n hx hb d_XDe_calculate_39 rfl (lv_at hl 2 rfl) ?_
    refine z_rl (z_runV (As := [.int (xF u0 8), .int x_1]) (rest := []) ⟨hx, hb, hml, hown, hts⟩ (c_XMe_decimal l D a k u0 (xF u0 8) x_1) (qX_De_66 hts (by decide)) hw 2 rfl rfl hl.1 rfl (lv_room (Nat.le_of_ble_eq_true rfl)) d_XDe_calculate_40 hcs) (fun y_5 ey_5 => ?_)
    have hf := hf.trans (nm_eq ey_5)
    refine lv_lstore (lv' := [(5, .long y_5), (4, .int x_3), (3, .int x_2), (2, .int x_1), (0, .ref (a 11)), (1, .ref (a 6))]) hx hb d_XDe_calculate_43 hl (by decide) rfl (fun ls hl => ?_)
    refine lv_aload_n hx hb d_XDe_calculate_45 rfl (lv_at hl 4 rfl) ?_
    refine va_get (v := .ref (a 2)) hx hb hts iX_De hown hw.2.1 hw.1 11 rfl rfl 1 (by decide) (hts _ kX_De_25) (fun _ h => h) rfl d_XDe_calculate_46 ?_
    refine lv_aload_n hx hb d_XDe_calculate_49 rfl (lv_at hl 5 rfl) ?_
    refine va_getN (v := .int (xF u0 9)) hx hb hts iX_In hown hw.2.1 hw.1 6 rfl rfl 5 (by decide) (va_Nw.use rfl (hw.2.2.2 _ kX_De_26).2) (fun _ h => h) rfl d_XDe_calculate_50 ?_
    refine lv_iload_n hx hb d_XDe_calculate_53 rfl (lv_at hl 2 rfl) ?_
    refine z_rl (z_runV (As := [.int (xF u0 9), .int x_2]) (rest := []) ⟨hx, hb, hml, hown, hts⟩ (c_XMe_decimal l D a k u0 (xF u0 9) x_2) (qX_De_66 hts (by decide)) hw 2 rfl rfl hl.1 rfl (lv_room (Nat.le_of_ble_eq_true rfl)) d_XDe_calculate_54 hcs) (fun y_6 ey_6 => ?_)
    have hf := hf.trans (nm_eq ey_6)
    refine lv_lstore (lv' := [(7, .long y_6), (5, .long y_5), (4, .int x_3), (3, .int x_2), (2, .int x_1), (0, .ref (a 11)), (1, .ref (a 6))]) hx hb d_XDe_calculate_57 hl (by decide) rfl (fun ls hl => ?_)
    refine lv_aload_n hx hb d_XDe_calculate_59 rfl (lv_at hl 6 rfl) ?_
    refine va_getN (v := .int (xF u0 4)) hx hb hts iX_In hown hw.2.1 hw.1 6 rfl rfl 0 (by decide) (va_Nw.use rfl (hw.2.2.2 _ kX_De_38).2) (fun _ h => h) rfl d_XDe_calculate_60 ?_
    refine lv_topi (fun x_7 ex_7 => ?_)
    have hf := hf.trans (nm_eq ex_7)
    by_cases c_8 : x_7 = (248 : Int32)
    · have hf := hf.trans (if_pos c_8)
      refine lv_tableIn (off := 33) (tgt := 96) hx hb d_XDe_calculate_63 (by rw [c_8]; decide +kernel) (by rw [c_8]; decide +kernel) (by rw [c_8]; decide +kernel) (by decide) ?_
      refine lv_aload_n hx hb d_XDe_calculate_96 rfl (lv_at hl 5 rfl) ?_
      refine lv_aload_n hx hb d_XDe_calculate_97 rfl (lv_at hl 6 rfl) ?_
      refine va_getN (v := .int (xF u0 8)) hx hb hts iX_In hown hw.2.1 hw.1 6 rfl rfl 4 (by decide) (va_Nw.use rfl (hw.2.2.2 _ kX_De_77).2) (fun _ h => h) rfl d_XDe_calculate_98 ?_
      refine lv_iload_n hx hb d_XDe_calculate_101 rfl (lv_at hl 4 rfl) ?_
      refine lv_lload hx hb d_XDe_calculate_102 (lv_at hl 0 rfl) ?_
      refine z_wi (z_runV (As := [.int (xF u0 8), .int x_1, .long y_6]) (rest := []) ⟨hx, hb, hml, hown, hts⟩ (c_XDe_putSum l D a k u0 (xF u0 8) x_1 y_6) (qX_De_101 hts (by decide)) hw 11 rfl rfl hl.1 rfl (lv_room (Nat.le_of_ble_eq_true rfl)) d_XDe_calculate_104 hcs) hw hS (fun x_10 u_9 H locs ex_10 hw hS => ?_)
      have hf := hf.trans (pr_eq ex_10)
      exact hret x_10 _ _ _ _ _ d_XDe_calculate_107 hw hS hf
    have hf := hf.trans (if_neg c_8)
    by_cases c_11 : x_7 = (249 : Int32)
    · have hf := hf.trans (if_pos c_11)
      refine lv_tableIn (off := 45) (tgt := 108) hx hb d_XDe_calculate_63 (by rw [c_11]; decide +kernel) (by rw [c_11]; decide +kernel) (by rw [c_11]; decide +kernel) (by decide) ?_
      refine lv_aload_n hx hb d_XDe_calculate_108 rfl (lv_at hl 5 rfl) ?_
      refine va_get (v := .ref (a 1)) hx hb hts iX_De hown hw.2.1 hw.1 11 rfl rfl 0 (by decide) (hts _ kX_De_15) (fun _ h => h) rfl d_XDe_calculate_109 ?_
      refine lv_lload hx hb d_XDe_calculate_112 (lv_at hl 1 rfl) ?_
      refine lv_lload hx hb d_XDe_calculate_114 (lv_at hl 0 rfl) ?_
      refine lv_lsub hx hb d_XDe_calculate_116 ?_
      refine z_wv (z_runV (As := [.long (y_5 - y_6)]) (rest := []) ⟨hx, hb, hml, hown, hts⟩ (c_XSt_conditionBySign l D a k u0 (y_5 - y_6)) (qX_De_105 hts (by decide)) hw 1 rfl rfl hl.1 rfl (lv_room (Nat.le_of_ble_eq_true rfl)) d_XDe_calculate_117 hcs) hw hS (fun u_12 H locs eu_12 hw hS => ?_)
      have hf := hf.trans (nm_eq eu_12)
      refine lv_iconst (v := (0 : Int32)) hx hb d_XDe_calculate_120 (by decide) ?_
      exact hret (0 : Int32) _ _ _ _ _ d_XDe_calculate_121 hw hS hf
    have hf := hf.trans (if_neg c_11)
    by_cases c_13 : x_7 = (250 : Int32)
    · have hf := hf.trans (if_pos c_13)
      refine lv_tableIn (off := 59) (tgt := 122) hx hb d_XDe_calculate_63 (by rw [c_13]; decide +kernel) (by rw [c_13]; decide +kernel) (by rw [c_13]; decide +kernel) (by decide) ?_
      refine lv_aload_n hx hb d_XDe_calculate_122 rfl (lv_at hl 5 rfl) ?_
      refine lv_aload_n hx hb d_XDe_calculate_123 rfl (lv_at hl 6 rfl) ?_
      refine va_getN (v := .int (xF u0 8)) hx hb hts iX_In hown hw.2.1 hw.1 6 rfl rfl 4 (by decide) (va_Nw.use rfl (hw.2.2.2 _ kX_De_77).2) (fun _ h => h) rfl d_XDe_calculate_124 ?_
      refine lv_iload_n hx hb d_XDe_calculate_127 rfl (lv_at hl 4 rfl) ?_
      refine lv_lload hx hb d_XDe_calculate_128 (lv_at hl 1 rfl) ?_
      refine lv_lload hx hb d_XDe_calculate_130 (lv_at hl 0 rfl) ?_
      refine lv_ladd hx hb d_XDe_calculate_132 ?_
      refine z_wi (z_runV (As := [.int (xF u0 8), .int x_1, .long (y_5 + y_6)]) (rest := []) ⟨hx, hb, hml, hown, hts⟩ (c_XDe_putSum l D a k u0 (xF u0 8) x_1 (y_5 + y_6)) (qX_De_101 hts (by decide)) hw 11 rfl rfl hl.1 rfl (lv_room (Nat.le_of_ble_eq_true rfl)) d_XDe_calculate_133 hcs) hw hS (fun x_15 u_14 H locs ex_15 hw hS => ?_)
      have hf := hf.trans (pr_eq ex_15)
      exact hret x_15 _ _ _ _ _ d_XDe_calculate_136 hw hS hf
    have hf := hf.trans (if_neg c_13)
    by_cases c_16 : x_7 = (251 : Int32)
    · have hf := hf.trans (if_pos c_16)
      refine lv_tableIn (off := 74) (tgt := 137) hx hb d_XDe_calculate_63 (by rw [c_16]; decide +kernel) (by rw [c_16]; decide +kernel) (by rw [c_16]; decide +kernel) (by decide) ?_
      refine lv_aload_n hx hb d_XDe_calculate_137 rfl (lv_at hl 5 rfl) ?_
      refine lv_aload_n hx hb d_XDe_calculate_138 rfl (lv_at hl 6 rfl) ?_
      refine va_getN (v := .int (xF u0 8)) hx hb hts iX_In hown hw.2.1 hw.1 6 rfl rfl 4 (by decide) (va_Nw.use rfl (hw.2.2.2 _ kX_De_77).2) (fun _ h => h) rfl d_XDe_calculate_139 ?_
      refine lv_iload_n hx hb d_XDe_calculate_142 rfl (lv_at hl 4 rfl) ?_
      refine lv_lload hx hb d_XDe_calculate_143 (lv_at hl 1 rfl) ?_
      refine lv_lload hx hb d_XDe_calculate_145 (lv_at hl 0 rfl) ?_
      refine lv_lsub hx hb d_XDe_calculate_147 ?_
      refine z_wi (z_runV (As := [.int (xF u0 8), .int x_1, .long (y_5 - y_6)]) (rest := []) ⟨hx, hb, hml, hown, hts⟩ (c_XDe_putSum l D a k u0 (xF u0 8) x_1 (y_5 - y_6)) (qX_De_101 hts (by decide)) hw 11 rfl rfl hl.1 rfl (lv_room (Nat.le_of_ble_eq_true rfl)) d_XDe_calculate_148 hcs) hw hS (fun x_18 u_17 H locs ex_18 hw hS => ?_)
      have hf := hf.trans (pr_eq ex_18)
      exact hret x_18 _ _ _ _ _ d_XDe_calculate_151 hw hS hf
    have hf := hf.trans (if_neg c_16)
    by_cases c_19 : x_7 = (252 : Int32)
    · have hf := hf.trans (if_pos c_19)
      refine lv_tableIn (off := 89) (tgt := 152) hx hb d_XDe_calculate_63 (by rw [c_19]; decide +kernel) (by rw [c_19]; decide +kernel) (by rw [c_19]; decide +kernel) (by decide) ?_
      refine lv_aload_n hx hb d_XDe_calculate_152 rfl (lv_at hl 5 rfl) ?_
      refine lv_aload_n hx hb d_XDe_calculate_153 rfl (lv_at hl 6 rfl) ?_
      refine lv_iload_n hx hb d_XDe_calculate_154 rfl (lv_at hl 4 rfl) ?_
      refine lv_iload_n hx hb d_XDe_calculate_155 rfl (lv_at hl 3 rfl) ?_
      refine z_wi (z_runV (As := [.ref (a 6), .int x_1, .int x_2]) (rest := []) ⟨hx, hb, hml, hown, hts⟩ (c_XDe_multiply l D a k u0 x_1 x_2) (qX_De_109 hts (by decide)) hw 11 rfl rfl hl.1 rfl (lv_room (Nat.le_of_ble_eq_true rfl)) d_XDe_calculate_156 hcs) hw hS (fun x_21 u_20 H locs ex_21 hw hS => ?_)
      have hf := hf.trans (pr_eq ex_21)
      exact hret x_21 _ _ _ _ _ d_XDe_calculate_159 hw hS hf
    have hf := hf.trans (if_neg c_19)
    refine lv_tableOut (tgt := 160) hx hb d_XDe_calculate_63 (by have := lv_neT c_8 (a := 248) (by decide +kernel); have := lv_neT c_11 (a := 249) (by decide +kernel); have := lv_neT c_13 (a := 250) (by decide +kernel); have := lv_neT c_16 (a := 251) (by decide +kernel); have := lv_neT c_19 (a := 252) (by decide +kernel); omega) (by decide) ?_
    refine lv_aload_n hx hb d_XDe_calculate_160 rfl (lv_at hl 5 rfl) ?_
    refine lv_aload_n hx hb d_XDe_calculate_161 rfl (lv_at hl 6 rfl) ?_
    refine lv_iload_n hx hb d_XDe_calculate_162 rfl (lv_at hl 4 rfl) ?_
    refine lv_iload_n hx hb d_XDe_calculate_163 rfl (lv_at hl 3 rfl) ?_
    refine z_wi (z_runV (As := [.ref (a 6), .int x_1, .int x_2]) (rest := []) ⟨hx, hb, hml, hown, hts⟩ (c_XDe_divide l D a k u0 x_1 x_2) (qX_De_112 hts (by decide)) hw 11 rfl rfl hl.1 rfl (lv_room (Nat.le_of_ble_eq_true rfl)) d_XDe_calculate_164 hcs) hw hS (fun x_23 u_22 H locs ex_23 hw hS => ?_)
    have hf := hf.trans (pr_eq ex_23)
    exact hret x_23 _ _ _ _ _ d_XDe_calculate_167 hw hS hf
  · have hf := hf.trans (if_neg c_4)
    refine lv_iload hx hb d_XDe_calculate_28 (lv_at hl 0 rfl) ?_
    exact hret x_3 _ _ _ _ _ d_XDe_calculate_30 hw hS hf
end
section
def f_XIn_place (u0 : XS) (x1 : Int32) : Int32 := nm (f_XMe_get u0 x1) (fun (x_1 : Int32) => nm (x_1 >>> ((4 : Int32) &&& 31)) (fun (x_2 : Int32) => nm (f_XMe_get u0 x1) (fun (x_3 : Int32) => nm (f_XMe_get u0 (x1 + (1 : Int32))) (fun (x_4 : Int32) => nm (((x_3 &&& (15 : Int32)) * (256 : Int32)) + x_4) (fun (x_5 : Int32) => if x_2 = (0 : Int32) then x_5 else nm (f_XSt_value u0 x_2) (fun (x_7 : Int32) => (x_5 + x_7)))))))
set_option maxHeartbeats 4000000 in
set_option maxRecDepth 100000 in
theorem c_XIn_place (l : Launch) (D : va_G) (a : Nat → Nat) (k : Nat → ClassId) (u0 : XS) (x1 : Int32) : zRi l y_XIn_place w_XIn_place rm_XIn_place D clX (tyX k) nwX (xW a k) [.ref (a 1), .int x1] u0 (f_XIn_place u0 x1) := by
  generalize hF : f_XIn_place u0 x1 = F
  have hf := hF.symm
  unfold f_XIn_place at hf
  refine zRi_of (cc := b_XIn_place) (maxL := 4) (own := RX_In) (by decide) rfl rfl (Nat.le_of_ble_eq_true rfl) ?_
  intro p e R st m args below meth c H locs Q ls hR hx hb hml hown hts hw hret hl
  subst hR
  have hcs : 0 ≤ (rm_XIn_place).cells ∧ 0 ≤ (rm_XIn_place).slots := ⟨Nat.zero_le _, Nat.zero_le _⟩
  have hl : lv_has ls 4 [(0, .ref (a 1)), (1, .int x1)] := hl
  refine lv_aload_n hx hb d_XIn_place_0 rfl (lv_at hl 0 rfl) ?_
  refine va_getN (v := .ref (a 2)) hx hb hts iX_St hown hw.2.1 hw.1 1 rfl rfl 0 (by decide) (va_Nw.use rfl (hw.2.2.2 _ kX_In_15).2) (fun _ h => h) rfl d_XIn_place_1 ?_
  refine lv_iload_n hx hb d_XIn_place_4 rfl (lv_at hl 1 rfl) ?_
  refine z_ri (z_runV (As := [.int x1]) (rest := []) ⟨hx, hb, hml, hown, hts⟩ (c_XMe_get l D a k u0 x1) (qX_In_25 hts (by decide)) hw 2 rfl rfl hl.1 rfl (lv_room (Nat.le_of_ble_eq_true rfl)) d_XIn_place_5 hcs) (fun x_1 ex_1 => ?_)
  have hf := hf.trans (nm_eq ex_1)
  refine lv_iconst (v := (4 : Int32)) hx hb d_XIn_place_8 (by decide) ?_
  refine lv_ishr hx hb d_XIn_place_9 ?_
  refine lv_topi (fun x_2 ex_2 => ?_)
  have hf := hf.trans (nm_eq ex_2)
  refine lv_istore_n (lv' := [(2, .int x_2), (0, .ref (a 1)), (1, .int x1)]) hx hb d_XIn_place_10 rfl hl (by decide) rfl (fun ls hl => ?_)
  refine lv_aload_n hx hb d_XIn_place_11 rfl (lv_at hl 1 rfl) ?_
  refine va_getN (v := .ref (a 2)) hx hb hts iX_St hown hw.2.1 hw.1 1 rfl rfl 0 (by decide) (va_Nw.use rfl (hw.2.2.2 _ kX_In_15).2) (fun _ h => h) rfl d_XIn_place_12 ?_
  refine lv_iload_n hx hb d_XIn_place_15 rfl (lv_at hl 2 rfl) ?_
  refine z_ri (z_runV (As := [.int x1]) (rest := []) ⟨hx, hb, hml, hown, hts⟩ (c_XMe_get l D a k u0 x1) (qX_In_25 hts (by decide)) hw 2 rfl rfl hl.1 rfl (lv_room (Nat.le_of_ble_eq_true rfl)) d_XIn_place_16 hcs) (fun x_3 ex_3 => ?_)
  have hf := hf.trans (nm_eq ex_3)
  refine lv_bipush (v := (15 : Int32)) hx hb d_XIn_place_19 (by decide) ?_
  refine lv_iand hx hb d_XIn_place_21 ?_
  refine lv_sipush (v := (256 : Int32)) hx hb d_XIn_place_22 (by decide) ?_
  refine lv_imul hx hb d_XIn_place_25 ?_
  refine lv_aload_n hx hb d_XIn_place_26 rfl (lv_at hl 1 rfl) ?_
  refine va_getN (v := .ref (a 2)) hx hb hts iX_St hown hw.2.1 hw.1 1 rfl rfl 0 (by decide) (va_Nw.use rfl (hw.2.2.2 _ kX_In_15).2) (fun _ h => h) rfl d_XIn_place_27 ?_
  refine lv_iload_n hx hb d_XIn_place_30 rfl (lv_at hl 2 rfl) ?_
  refine lv_iconst (v := (1 : Int32)) hx hb d_XIn_place_31 (by decide) ?_
  refine lv_iadd hx hb d_XIn_place_32 ?_
  refine z_ri (z_runV (As := [.int (x1 + (1 : Int32))]) (rest := [.int ((x_3 &&& (15 : Int32)) * (256 : Int32))]) ⟨hx, hb, hml, hown, hts⟩ (c_XMe_get l D a k u0 (x1 + (1 : Int32))) (qX_In_25 hts (by decide)) hw 2 rfl rfl hl.1 rfl (lv_room (Nat.le_of_ble_eq_true rfl)) d_XIn_place_33 hcs) (fun x_4 ex_4 => ?_)
  have hf := hf.trans (nm_eq ex_4)
  refine lv_iadd hx hb d_XIn_place_36 ?_
  refine lv_topi (fun x_5 ex_5 => ?_)
  have hf := hf.trans (nm_eq ex_5)
  refine lv_istore_n (lv' := [(3, .int x_5), (2, .int x_2), (0, .ref (a 1)), (1, .int x1)]) hx hb d_XIn_place_37 rfl hl (by decide) rfl (fun ls hl => ?_)
  refine lv_iload_n hx hb d_XIn_place_38 rfl (lv_at hl 1 rfl) ?_
  refine lv_if_ne (tgt := 46) hx hb d_XIn_place_39 (by decide) (fun c_6 => ?_) (fun c_6 => ?_)
  · have hf := hf.trans (if_neg c_6)
    refine lv_iload_n hx hb d_XIn_place_46 rfl (lv_at hl 0 rfl) ?_
    refine lv_aload_n hx hb d_XIn_place_47 rfl (lv_at hl 2 rfl) ?_
    refine lv_iload_n hx hb d_XIn_place_48 rfl (lv_at hl 1 rfl) ?_
    refine z_ri (z_runV (As := [.int x_2]) (rest := [.int x_5]) ⟨hx, hb, hml, hown, hts⟩ (c_XSt_value l D a k u0 x_2) (qX_In_50 hts (by decide)) hw 1 rfl rfl hl.1 rfl (lv_room (Nat.le_of_ble_eq_true rfl)) d_XIn_place_49 hcs) (fun x_7 ex_7 => ?_)
    have hf := hf.trans (nm_eq ex_7)
    refine lv_iadd hx hb d_XIn_place_52 ?_
    exact hret (x_5 + x_7) _ _ d_XIn_place_53 hf
  · have hf := hf.trans (if_pos c_6)
    refine lv_iload_n hx hb d_XIn_place_42 rfl (lv_at hl 0 rfl) ?_
    refine lv_goto (tgt := 53) hx hb d_XIn_place_43 (by decide) ?_
    exact hret x_5 _ _ d_XIn_place_53 hf
def f_XIn_findAddresses (u0 : XS) (x2 : Int32) : XS := jn (fun (K_2 : Int32 → XS) => jn (fun (K_9 : XS) => if (128 : Int32) ≤ (xF u0 4) then K_9 else if (xF u0 7) = (0 : Int32) then K_9 else nm (f_XSt_value u0 (xF u0 7)) (fun (x_12 : Int32) => K_2 x_12)) (K_2 (0 : Int32))) (fun (x_1 : Int32) => nm (f_XIn_place u0 (x2 + (2 : Int32))) (fun (x_3 : Int32) => nm (xsF u0 8 ((x_3 + x_1) &&& (16777215 : Int32))) (fun (u_4 : XS) => if (192 : Int32) ≤ (xF u_4 4) then nm (f_XIn_place u_4 (x2 + (4 : Int32))) (fun (x_6 : Int32) => nm (xsF u_4 9 (x_6 &&& (16777215 : Int32))) (fun (u_7 : XS) => u_7)) else nm (xsF u_4 9 (xF u_4 8)) (fun (u_8 : XS) => u_8))))
set_option maxHeartbeats 4000000 in
set_option maxRecDepth 100000 in
theorem c_XIn_findAddresses (l : Launch) (D : va_G) (a : Nat → Nat) (k : Nat → ClassId) (u0 : XS) (x2 : Int32) : zMv l y_XIn_findAddresses w_XIn_findAddresses rm_XIn_findAddresses D clX (tyX k) nwX (xW a k) [.ref (a 6), .ref (a 1), .int x2] u0 (f_XIn_findAddresses u0 x2) := by
  generalize hF : f_XIn_findAddresses u0 x2 = F
  have hf := hF.symm
  unfold f_XIn_findAddresses at hf
  refine zMv_of (cc := b_XIn_findAddresses) (maxL := 4) (own := RX_In) (by decide) rfl rfl (Nat.le_of_ble_eq_true rfl) ?_
  intro p e R st m args below meth c A H locs Q ls hR hx hb hml hown hts hw hS hret hl
  subst hR
  have hcs : 0 ≤ (rm_XIn_findAddresses).cells ∧ 0 ≤ (rm_XIn_findAddresses).slots := ⟨Nat.zero_le _, Nat.zero_le _⟩
  have hl : lv_has ls 4 [(0, .ref (a 6)), (1, .ref (a 1)), (2, .int x2)] := hl
  refine lv_aload_n hx hb d_XIn_findAddresses_0 rfl (lv_at hl 0 rfl) ?_
  refine va_get (v := .int (xF u0 4)) hx hb hts iX_In hown hw.2.1 hw.1 6 rfl rfl 0 (by decide) (hts _ kX_In_29) (fun _ h => h) rfl d_XIn_findAddresses_1 ?_
  refine lv_sipush (v := (128 : Int32)) hx hb d_XIn_findAddresses_4 (by decide) ?_
  refine jn_cut hf (fun (K_2 : Int32 → XS) => ∀ (x_1 : Int32), ∀ (ls : Array Slot), lv_has ls 4 [(0, .ref (a 6)), (1, .ref (a 1)), (2, .int x2)] → F = K_2 x_1 → W p l e rm_XIn_findAddresses st m args below meth c H locs 0 0 Q (F0 m 29 ls [.int x_1])) ?_ ?_
  · intro x_1 ls hl hf
    refine lv_istore_n (lv' := [(3, .int x_1), (0, .ref (a 6)), (1, .ref (a 1)), (2, .int x2)]) hx hb d_XIn_findAddresses_29 rfl hl (by decide) rfl (fun ls hl => ?_)
    refine lv_aload_n hx hb d_XIn_findAddresses_30 rfl (lv_at hl 1 rfl) ?_
    refine lv_aload_n hx hb d_XIn_findAddresses_31 rfl (lv_at hl 2 rfl) ?_
    refine lv_iload_n hx hb d_XIn_findAddresses_32 rfl (lv_at hl 3 rfl) ?_
    refine lv_iconst (v := (2 : Int32)) hx hb d_XIn_findAddresses_33 (by decide) ?_
    refine lv_iadd hx hb d_XIn_findAddresses_34 ?_
    refine z_ri (z_runS (As := [.ref (a 1), .int (x2 + (2 : Int32))]) (rest := [.ref (a 6)]) ⟨hx, hb, hml, hown, hts⟩ (c_XIn_place l D a k u0 (x2 + (2 : Int32))) (qX_In_53 hts (by decide)) hw  hl.1 rfl (lv_room (Nat.le_of_ble_eq_true rfl)) d_XIn_findAddresses_35 hcs) (fun x_3 ex_3 => ?_)
    have hf := hf.trans (nm_eq ex_3)
    refine lv_iload_n hx hb d_XIn_findAddresses_38 rfl (lv_at hl 0 rfl) ?_
    refine lv_iadd hx hb d_XIn_findAddresses_39 ?_
    refine lv_ldc (v := (16777215 : Int32)) hx hb hown (hts _ kX_In_57) d_XIn_findAddresses_40 ?_
    refine lv_iand hx hb d_XIn_findAddresses_42 ?_
    refine z_put (u' := xsF u0 8 ((x_3 + x_1) &&& (16777215 : Int32))) hx hb hts iX_In tX_In tX_In_ok nX_In hown hw hS 6 rfl rfl 4 (by decide) (hts _ kX_In_58) (fun _ h => h) rfl rfl (Nat.le_of_ble_eq_true rfl) rfl d_XIn_findAddresses_43 (fun u_4 H locs eu_4 hw hS => ?_)
    have hf := hf.trans (nm_eq eu_4)
    refine lv_aload_n hx hb d_XIn_findAddresses_46 rfl (lv_at hl 1 rfl) ?_
    refine lv_aload_n hx hb d_XIn_findAddresses_47 rfl (lv_at hl 1 rfl) ?_
    refine va_get (v := .int (xF u_4 4)) hx hb hts iX_In hown hw.2.1 hw.1 6 rfl rfl 0 (by decide) (hts _ kX_In_29) (fun _ h => h) rfl d_XIn_findAddresses_48 ?_
    refine lv_sipush (v := (192 : Int32)) hx hb d_XIn_findAddresses_51 (by decide) ?_
    refine lv_icmp_ge (tgt := 64) hx hb d_XIn_findAddresses_54 (by decide) (fun c_5 => ?_) (fun c_5 => ?_)
    · have hf := hf.trans (if_pos c_5)
      refine lv_aload_n hx hb d_XIn_findAddresses_64 rfl (lv_at hl 2 rfl) ?_
      refine lv_iload_n hx hb d_XIn_findAddresses_65 rfl (lv_at hl 3 rfl) ?_
      refine lv_iconst (v := (4 : Int32)) hx hb d_XIn_findAddresses_66 (by decide) ?_
      refine lv_iadd hx hb d_XIn_findAddresses_67 ?_
      refine z_ri (z_runS (As := [.ref (a 1), .int (x2 + (4 : Int32))]) (rest := [.ref (a 6)]) ⟨hx, hb, hml, hown, hts⟩ (c_XIn_place l D a k u_4 (x2 + (4 : Int32))) (qX_In_53 hts (by decide)) hw  hl.1 rfl (lv_room (Nat.le_of_ble_eq_true rfl)) d_XIn_findAddresses_68 hcs) (fun x_6 ex_6 => ?_)
      have hf := hf.trans (nm_eq ex_6)
      refine lv_ldc (v := (16777215 : Int32)) hx hb hown (hts _ kX_In_57) d_XIn_findAddresses_71 ?_
      refine lv_iand hx hb d_XIn_findAddresses_73 ?_
      refine z_put (u' := xsF u_4 9 (x_6 &&& (16777215 : Int32))) hx hb hts iX_In tX_In tX_In_ok nX_In hown hw hS 6 rfl rfl 5 (by decide) (hts _ kX_In_61) (fun _ h => h) rfl rfl (Nat.le_of_ble_eq_true rfl) rfl d_XIn_findAddresses_74 (fun u_7 H locs eu_7 hw hS => ?_)
      have hf := hf.trans (nm_eq eu_7)
      exact hret _ _ _ _ _ d_XIn_findAddresses_77 hw hS hf
    · have hf := hf.trans (if_neg c_5)
      refine lv_aload_n hx hb d_XIn_findAddresses_57 rfl (lv_at hl 1 rfl) ?_
      refine va_get (v := .int (xF u_4 8)) hx hb hts iX_In hown hw.2.1 hw.1 6 rfl rfl 4 (by decide) (hts _ kX_In_58) (fun _ h => h) rfl d_XIn_findAddresses_58 ?_
      refine lv_goto (tgt := 74) hx hb d_XIn_findAddresses_61 (by decide) ?_
      refine z_put (u' := xsF u_4 9 (xF u_4 8)) hx hb hts iX_In tX_In tX_In_ok nX_In hown hw hS 6 rfl rfl 5 (by decide) (hts _ kX_In_61) (fun _ h => h) rfl rfl (Nat.le_of_ble_eq_true rfl) rfl d_XIn_findAddresses_74 (fun u_8 H locs eu_8 hw hS => ?_)
      have hf := hf.trans (nm_eq eu_8)
      exact hret _ _ _ _ _ d_XIn_findAddresses_77 hw hS hf
  · intro K_2 hK_2 hf
    refine jn_cut hf (fun (K_9 : XS) => ∀ (ls : Array Slot), lv_has ls 4 [(0, .ref (a 6)), (1, .ref (a 1)), (2, .int x2)] → F = K_9 → W p l e rm_XIn_findAddresses st m args below meth c H locs 0 0 Q (F0 m 28 ls [])) ?_ ?_
    · intro ls hl hf
      refine lv_iconst (v := (0 : Int32)) hx hb d_XIn_findAddresses_28 (by decide) ?_
      exact hK_2 (0 : Int32) _ (lv_sub hl [0, 1, 2] rfl) hf
    · intro K_9 hK_9 hf
      refine lv_icmp_ge (tgt := 28) hx hb d_XIn_findAddresses_7 (by decide) (fun c_10 => ?_) (fun c_10 => ?_)
      · have hf := hf.trans (if_pos c_10)
        exact hK_9 _ (lv_sub hl [0, 1, 2] rfl) hf
      · have hf := hf.trans (if_neg c_10)
        refine lv_aload_n hx hb d_XIn_findAddresses_10 rfl (lv_at hl 0 rfl) ?_
        refine va_get (v := .int (xF u0 7)) hx hb hts iX_In hown hw.2.1 hw.1 6 rfl rfl 3 (by decide) (hts _ kX_In_40) (fun _ h => h) rfl d_XIn_findAddresses_11 ?_
        refine lv_if_eq (tgt := 28) hx hb d_XIn_findAddresses_14 (by decide) (fun c_11 => ?_) (fun c_11 => ?_)
        · have hf := hf.trans (if_pos c_11)
          exact hK_9 _ (lv_sub hl [0, 1, 2] rfl) hf
        · have hf := hf.trans (if_neg c_11)
          refine lv_aload_n hx hb d_XIn_findAddresses_17 rfl (lv_at hl 1 rfl) ?_
          refine lv_aload_n hx hb d_XIn_findAddresses_18 rfl (lv_at hl 0 rfl) ?_
          refine va_get (v := .int (xF u0 7)) hx hb hts iX_In hown hw.2.1 hw.1 6 rfl rfl 3 (by decide) (hts _ kX_In_40) (fun _ h => h) rfl d_XIn_findAddresses_19 ?_
          refine z_ri (z_runV (As := [.int (xF u0 7)]) (rest := []) ⟨hx, hb, hml, hown, hts⟩ (c_XSt_value l D a k u0 (xF u0 7)) (qX_In_50 hts (by decide)) hw 1 rfl rfl hl.1 rfl (lv_room (Nat.le_of_ble_eq_true rfl)) d_XIn_findAddresses_22 hcs) (fun x_12 ex_12 => ?_)
          have hf := hf.trans (nm_eq ex_12)
          refine lv_goto (tgt := 29) hx hb d_XIn_findAddresses_25 (by decide) ?_
          exact hK_2 x_12 _ (lv_sub hl [0, 1, 2] rfl) hf
def f_XIn_fetch (u0 : XS)  : Int32 × XS := nm (xF u0 0) (fun (x_1 : Int32) => if (x_1 &&& (1 : Int32)) = (0 : Int32) then nm (f_XMe_holds u0 x_1 (2 : Int32)) (fun (z_3 : Bool) => if (bI z_3) = (0 : Int32) then ((5 : Int32), u0) else nm (f_XMe_get u0 x_1) (fun (x_5 : Int32) => nm (xsF u0 4 x_5) (fun (u_6 : XS) => jn (fun (K_8 : Int32 → Int32 × XS) => if (64 : Int32) ≤ (xF u_6 4) then if (192 : Int32) ≤ (xF u_6 4) then K_8 (6 : Int32) else K_8 (4 : Int32) else K_8 (2 : Int32)) (fun (x_7 : Int32) => nm (f_XMe_holds u_6 x_1 x_7) (fun (z_9 : Bool) => if (bI z_9) = (0 : Int32) then ((5 : Int32), u_6) else nm (f_XMe_get u_6 (x_1 + (1 : Int32))) (fun (x_11 : Int32) => nm (xsF u_6 5 x_11) (fun (u_12 : XS) => nm (xsF u_12 6 ((xF u_12 5) >>> ((4 : Int32) &&& 31))) (fun (u_13 : XS) => nm (xsF u_13 7 ((xF u_13 5) &&& (15 : Int32))) (fun (u_14 : XS) => nm (xsF u_14 10 (x_1 + x_7)) (fun (u_15 : XS) => if x_7 ≤ (2 : Int32) then ((0 : Int32), u_15) else nm (f_XIn_findAddresses u_15 x_1) (fun (u_17 : XS) => ((0 : Int32), u_17)))))))))))) else ((6 : Int32), u0))
set_option maxHeartbeats 4000000 in
set_option maxRecDepth 100000 in
theorem c_XIn_fetch (l : Launch) (D : va_G) (a : Nat → Nat) (k : Nat → ClassId) (u0 : XS)  : zMi l y_XIn_fetch w_XIn_fetch rm_XIn_fetch D clX (tyX k) nwX (xW a k) [.ref (a 6), .ref (a 1)] u0 (f_XIn_fetch u0) := by
  generalize hF : f_XIn_fetch u0 = F
  have hf := hF.symm
  unfold f_XIn_fetch at hf
  refine zMi_of (cc := b_XIn_fetch) (maxL := 4) (own := RX_In) (by decide) rfl rfl (Nat.le_of_ble_eq_true rfl) ?_
  intro p e R st m args below meth c A H locs Q ls hR hx hb hml hown hts hw hS hret hl
  subst hR
  have hcs : 0 ≤ (rm_XIn_fetch).cells ∧ 0 ≤ (rm_XIn_fetch).slots := ⟨Nat.zero_le _, Nat.zero_le _⟩
  have hl : lv_has ls 4 [(0, .ref (a 6)), (1, .ref (a 1))] := hl
  refine lv_aload_n hx hb d_XIn_fetch_0 rfl (lv_at hl 1 rfl) ?_
  refine va_getN (v := .int (xF u0 0)) hx hb hts iX_St hown hw.2.1 hw.1 1 rfl rfl 2 (by decide) (va_Nw.use rfl (hw.2.2.2 _ kX_In_9).2) (fun _ h => h) rfl d_XIn_fetch_1 ?_
  refine lv_topi (fun x_1 ex_1 => ?_)
  have hf := hf.trans (nm_eq ex_1)
  refine lv_istore_n (lv' := [(2, .int x_1), (0, .ref (a 6)), (1, .ref (a 1))]) hx hb d_XIn_fetch_4 rfl hl (by decide) rfl (fun ls hl => ?_)
  refine lv_iload_n hx hb d_XIn_fetch_5 rfl (lv_at hl 0 rfl) ?_
  refine lv_iconst (v := (1 : Int32)) hx hb d_XIn_fetch_6 (by decide) ?_
  refine lv_iand hx hb d_XIn_fetch_7 ?_
  refine lv_if_eq (tgt := 14) hx hb d_XIn_fetch_8 (by decide) (fun c_2 => ?_) (fun c_2 => ?_)
  · have hf := hf.trans (if_pos c_2)
    refine lv_aload_n hx hb d_XIn_fetch_14 rfl (lv_at hl 2 rfl) ?_
    refine va_getN (v := .ref (a 2)) hx hb hts iX_St hown hw.2.1 hw.1 1 rfl rfl 0 (by decide) (va_Nw.use rfl (hw.2.2.2 _ kX_In_15).2) (fun _ h => h) rfl d_XIn_fetch_15 ?_
    refine lv_iload_n hx hb d_XIn_fetch_18 rfl (lv_at hl 0 rfl) ?_
    refine lv_iconst (v := (2 : Int32)) hx hb d_XIn_fetch_19 (by decide) ?_
    refine z_rz (z_runV (As := [.int x_1, .int (2 : Int32)]) (rest := []) ⟨hx, hb, hml, hown, hts⟩ (c_XMe_holds l D a k u0 x_1 (2 : Int32)) (qX_In_19 hts (by decide)) hw 2 rfl rfl hl.1 rfl (lv_room (Nat.le_of_ble_eq_true rfl)) d_XIn_fetch_20 hcs) (fun z_3 ez_3 => ?_)
    have hf := hf.trans (nm_eq ez_3)
    refine lv_if_ne (tgt := 28) hx hb d_XIn_fetch_23 (by decide) (fun c_4 => ?_) (fun c_4 => ?_)
    · have hf := hf.trans (if_neg c_4)
      refine lv_aload_n hx hb d_XIn_fetch_28 rfl (lv_at hl 1 rfl) ?_
      refine lv_aload_n hx hb d_XIn_fetch_29 rfl (lv_at hl 2 rfl) ?_
      refine va_getN (v := .ref (a 2)) hx hb hts iX_St hown hw.2.1 hw.1 1 rfl rfl 0 (by decide) (va_Nw.use rfl (hw.2.2.2 _ kX_In_15).2) (fun _ h => h) rfl d_XIn_fetch_30 ?_
      refine lv_iload_n hx hb d_XIn_fetch_33 rfl (lv_at hl 0 rfl) ?_
      refine z_ri (z_runV (As := [.int x_1]) (rest := [.ref (a 6)]) ⟨hx, hb, hml, hown, hts⟩ (c_XMe_get l D a k u0 x_1) (qX_In_25 hts (by decide)) hw 2 rfl rfl hl.1 rfl (lv_room (Nat.le_of_ble_eq_true rfl)) d_XIn_fetch_34 hcs) (fun x_5 ex_5 => ?_)
      have hf := hf.trans (nm_eq ex_5)
      refine z_put (u' := xsF u0 4 x_5) hx hb hts iX_In tX_In tX_In_ok nX_In hown hw hS 6 rfl rfl 0 (by decide) (hts _ kX_In_29) (fun _ h => h) rfl rfl (Nat.le_of_ble_eq_true rfl) rfl d_XIn_fetch_37 (fun u_6 H locs eu_6 hw hS => ?_)
      have hf := hf.trans (nm_eq eu_6)
      refine lv_aload_n hx hb d_XIn_fetch_40 rfl (lv_at hl 1 rfl) ?_
      refine va_get (v := .int (xF u_6 4)) hx hb hts iX_In hown hw.2.1 hw.1 6 rfl rfl 0 (by decide) (hts _ kX_In_29) (fun _ h => h) rfl d_XIn_fetch_41 ?_
      refine lv_bipush (v := (64 : Int32)) hx hb d_XIn_fetch_44 (by decide) ?_
      refine jn_cut hf (fun (K_8 : Int32 → Int32 × XS) => ∀ (x_7 : Int32), ∀ (ls : Array Slot), lv_has ls 4 [(0, .ref (a 6)), (1, .ref (a 1)), (2, .int x_1)] → F = K_8 x_7 → W p l e rm_XIn_fetch st m args below meth c H locs 0 0 Q (F0 m 69 ls [.int x_7])) ?_ ?_
      · intro x_7 ls hl hf
        refine lv_istore_n (lv' := [(3, .int x_7), (0, .ref (a 6)), (1, .ref (a 1)), (2, .int x_1)]) hx hb d_XIn_fetch_69 rfl hl (by decide) rfl (fun ls hl => ?_)
        refine lv_aload_n hx hb d_XIn_fetch_70 rfl (lv_at hl 2 rfl) ?_
        refine va_getN (v := .ref (a 2)) hx hb hts iX_St hown hw.2.1 hw.1 1 rfl rfl 0 (by decide) (va_Nw.use rfl (hw.2.2.2 _ kX_In_15).2) (fun _ h => h) rfl d_XIn_fetch_71 ?_
        refine lv_iload_n hx hb d_XIn_fetch_74 rfl (lv_at hl 3 rfl) ?_
        refine lv_iload_n hx hb d_XIn_fetch_75 rfl (lv_at hl 0 rfl) ?_
        refine z_rz (z_runV (As := [.int x_1, .int x_7]) (rest := []) ⟨hx, hb, hml, hown, hts⟩ (c_XMe_holds l D a k u_6 x_1 x_7) (qX_In_19 hts (by decide)) hw 2 rfl rfl hl.1 rfl (lv_room (Nat.le_of_ble_eq_true rfl)) d_XIn_fetch_76 hcs) (fun z_9 ez_9 => ?_)
        have hf := hf.trans (nm_eq ez_9)
        refine lv_if_ne (tgt := 84) hx hb d_XIn_fetch_79 (by decide) (fun c_10 => ?_) (fun c_10 => ?_)
        · have hf := hf.trans (if_neg c_10)
          refine lv_aload_n hx hb d_XIn_fetch_84 rfl (lv_at hl 1 rfl) ?_
          refine lv_aload_n hx hb d_XIn_fetch_85 rfl (lv_at hl 2 rfl) ?_
          refine va_getN (v := .ref (a 2)) hx hb hts iX_St hown hw.2.1 hw.1 1 rfl rfl 0 (by decide) (va_Nw.use rfl (hw.2.2.2 _ kX_In_15).2) (fun _ h => h) rfl d_XIn_fetch_86 ?_
          refine lv_iload_n hx hb d_XIn_fetch_89 rfl (lv_at hl 3 rfl) ?_
          refine lv_iconst (v := (1 : Int32)) hx hb d_XIn_fetch_90 (by decide) ?_
          refine lv_iadd hx hb d_XIn_fetch_91 ?_
          refine z_ri (z_runV (As := [.int (x_1 + (1 : Int32))]) (rest := [.ref (a 6)]) ⟨hx, hb, hml, hown, hts⟩ (c_XMe_get l D a k u_6 (x_1 + (1 : Int32))) (qX_In_25 hts (by decide)) hw 2 rfl rfl hl.1 rfl (lv_room (Nat.le_of_ble_eq_true rfl)) d_XIn_fetch_92 hcs) (fun x_11 ex_11 => ?_)
          have hf := hf.trans (nm_eq ex_11)
          refine z_put (u' := xsF u_6 5 x_11) hx hb hts iX_In tX_In tX_In_ok nX_In hown hw hS 6 rfl rfl 1 (by decide) (hts _ kX_In_34) (fun _ h => h) rfl rfl (Nat.le_of_ble_eq_true rfl) rfl d_XIn_fetch_95 (fun u_12 H locs eu_12 hw hS => ?_)
          have hf := hf.trans (nm_eq eu_12)
          refine lv_aload_n hx hb d_XIn_fetch_98 rfl (lv_at hl 1 rfl) ?_
          refine lv_aload_n hx hb d_XIn_fetch_99 rfl (lv_at hl 1 rfl) ?_
          refine va_get (v := .int (xF u_12 5)) hx hb hts iX_In hown hw.2.1 hw.1 6 rfl rfl 1 (by decide) (hts _ kX_In_34) (fun _ h => h) rfl d_XIn_fetch_100 ?_
          refine lv_iconst (v := (4 : Int32)) hx hb d_XIn_fetch_103 (by decide) ?_
          refine lv_ishr hx hb d_XIn_fetch_104 ?_
          refine z_put (u' := xsF u_12 6 ((xF u_12 5) >>> ((4 : Int32) &&& 31))) hx hb hts iX_In tX_In tX_In_ok nX_In hown hw hS 6 rfl rfl 2 (by decide) (hts _ kX_In_37) (fun _ h => h) rfl rfl (Nat.le_of_ble_eq_true rfl) rfl d_XIn_fetch_105 (fun u_13 H locs eu_13 hw hS => ?_)
          have hf := hf.trans (nm_eq eu_13)
          refine lv_aload_n hx hb d_XIn_fetch_108 rfl (lv_at hl 1 rfl) ?_
          refine lv_aload_n hx hb d_XIn_fetch_109 rfl (lv_at hl 1 rfl) ?_
          refine va_get (v := .int (xF u_13 5)) hx hb hts iX_In hown hw.2.1 hw.1 6 rfl rfl 1 (by decide) (hts _ kX_In_34) (fun _ h => h) rfl d_XIn_fetch_110 ?_
          refine lv_bipush (v := (15 : Int32)) hx hb d_XIn_fetch_113 (by decide) ?_
          refine lv_iand hx hb d_XIn_fetch_115 ?_
          refine z_put (u' := xsF u_13 7 ((xF u_13 5) &&& (15 : Int32))) hx hb hts iX_In tX_In tX_In_ok nX_In hown hw hS 6 rfl rfl 3 (by decide) (hts _ kX_In_40) (fun _ h => h) rfl rfl (Nat.le_of_ble_eq_true rfl) rfl d_XIn_fetch_116 (fun u_14 H locs eu_14 hw hS => ?_)
          have hf := hf.trans (nm_eq eu_14)
          refine lv_aload_n hx hb d_XIn_fetch_119 rfl (lv_at hl 1 rfl) ?_
          refine lv_iload_n hx hb d_XIn_fetch_120 rfl (lv_at hl 3 rfl) ?_
          refine lv_iload_n hx hb d_XIn_fetch_121 rfl (lv_at hl 0 rfl) ?_
          refine lv_iadd hx hb d_XIn_fetch_122 ?_
          refine z_put (u' := xsF u_14 10 (x_1 + x_7)) hx hb hts iX_In tX_In tX_In_ok nX_In hown hw hS 6 rfl rfl 6 (by decide) (hts _ kX_In_43) (fun _ h => h) rfl rfl (Nat.le_of_ble_eq_true rfl) rfl d_XIn_fetch_123 (fun u_15 H locs eu_15 hw hS => ?_)
          have hf := hf.trans (nm_eq eu_15)
          refine lv_iload_n hx hb d_XIn_fetch_126 rfl (lv_at hl 0 rfl) ?_
          refine lv_iconst (v := (2 : Int32)) hx hb d_XIn_fetch_127 (by decide) ?_
          refine lv_icmp_le (tgt := 137) hx hb d_XIn_fetch_128 (by decide) (fun c_16 => ?_) (fun c_16 => ?_)
          · have hf := hf.trans (if_pos c_16)
            refine lv_iconst (v := (0 : Int32)) hx hb d_XIn_fetch_137 (by decide) ?_
            exact hret (0 : Int32) _ _ _ _ _ d_XIn_fetch_138 hw hS hf
          · have hf := hf.trans (if_neg c_16)
            refine lv_aload_n hx hb d_XIn_fetch_131 rfl (lv_at hl 1 rfl) ?_
            refine lv_aload_n hx hb d_XIn_fetch_132 rfl (lv_at hl 2 rfl) ?_
            refine lv_iload_n hx hb d_XIn_fetch_133 rfl (lv_at hl 3 rfl) ?_
            refine z_wv (z_runV (As := [.ref (a 1), .int x_1]) (rest := []) ⟨hx, hb, hml, hown, hts⟩ (c_XIn_findAddresses l D a k u_15 x_1) (qX_In_46 hts (by decide)) hw 6 rfl rfl hl.1 rfl (lv_room (Nat.le_of_ble_eq_true rfl)) d_XIn_fetch_134 hcs) hw hS (fun u_17 H locs eu_17 hw hS => ?_)
            have hf := hf.trans (nm_eq eu_17)
            refine lv_iconst (v := (0 : Int32)) hx hb d_XIn_fetch_137 (by decide) ?_
            exact hret (0 : Int32) _ _ _ _ _ d_XIn_fetch_138 hw hS hf
        · have hf := hf.trans (if_pos c_10)
          refine lv_iconst (v := (5 : Int32)) hx hb d_XIn_fetch_82 (by decide) ?_
          exact hret (5 : Int32) _ _ _ _ _ d_XIn_fetch_83 hw hS hf
      · intro K_8 hK_8 hf
        refine lv_icmp_ge (tgt := 53) hx hb d_XIn_fetch_46 (by decide) (fun c_18 => ?_) (fun c_18 => ?_)
        · have hf := hf.trans (if_pos c_18)
          refine lv_aload_n hx hb d_XIn_fetch_53 rfl (lv_at hl 1 rfl) ?_
          refine va_get (v := .int (xF u_6 4)) hx hb hts iX_In hown hw.2.1 hw.1 6 rfl rfl 0 (by decide) (hts _ kX_In_29) (fun _ h => h) rfl d_XIn_fetch_54 ?_
          refine lv_sipush (v := (192 : Int32)) hx hb d_XIn_fetch_57 (by decide) ?_
          refine lv_icmp_ge (tgt := 67) hx hb d_XIn_fetch_60 (by decide) (fun c_19 => ?_) (fun c_19 => ?_)
          · have hf := hf.trans (if_pos c_19)
            refine lv_bipush (v := (6 : Int32)) hx hb d_XIn_fetch_67 (by decide) ?_
            exact hK_8 (6 : Int32) _ (lv_sub hl [1, 2, 0] rfl) hf
          · have hf := hf.trans (if_neg c_19)
            refine lv_iconst (v := (4 : Int32)) hx hb d_XIn_fetch_63 (by decide) ?_
            refine lv_goto (tgt := 69) hx hb d_XIn_fetch_64 (by decide) ?_
            exact hK_8 (4 : Int32) _ (lv_sub hl [1, 2, 0] rfl) hf
        · have hf := hf.trans (if_neg c_18)
          refine lv_iconst (v := (2 : Int32)) hx hb d_XIn_fetch_49 (by decide) ?_
          refine lv_goto (tgt := 69) hx hb d_XIn_fetch_50 (by decide) ?_
          exact hK_8 (2 : Int32) _ (lv_sub hl [1, 2, 0] rfl) hf
    · have hf := hf.trans (if_pos c_4)
      refine lv_iconst (v := (5 : Int32)) hx hb d_XIn_fetch_26 (by decide) ?_
      exact hret (5 : Int32) _ _ _ _ _ d_XIn_fetch_27 hw hS hf
  · have hf := hf.trans (if_neg c_2)
    refine lv_bipush (v := (6 : Int32)) hx hb d_XIn_fetch_11 (by decide) ?_
    exact hret (6 : Int32) _ _ _ _ _ d_XIn_fetch_13 hw hS hf
end
section
def g_XMe_store_8 (x1 : Int32) (L_5 : Int64 → Int32 → XS → XS) : Int64 → Int32 → XS → XS := fun y_2 x_3 u_4 => if x_3 < (0 : Int32) then u_4 else nm (f_XMe_put u_4 (x1 + x_3) (Int64.toInt32 (y_2 &&& (255 : Int64)))) (fun (u_8 : XS) => nm (y_2 >>> (Int32.toInt64 (8 : Int32) &&& 63)) (fun (y_9 : Int64) => nm (x_3 + (-1 : Int32)) (fun (x_10 : Int32) => L_5 y_9 x_10 u_8)))
def f_XMe_store (u0 : XS) (x1 : Int32) (x2 : Int32) (y3 : Int64) : XS := nm (x2 - (1 : Int32)) (fun (x_1 : Int32) => lpN ((Int32.toInt x_1 + 1).toNat + 1) (g_XMe_store_8 x1) (fun _ _ _ => default) y3 x_1 u0)
set_option maxHeartbeats 4000000 in
set_option maxRecDepth 100000 in
theorem c_XMe_store (l : Launch) (D : va_G) (a : Nat → Nat) (k : Nat → ClassId) (u0 : XS) (x1 : Int32) (x2 : Int32) (y3 : Int64) : zMv l y_XMe_store w_XMe_store rm_XMe_store D clX (tyX k) nwX (xW a k) [.ref (a 2), .int x1, .int x2, .long y3] u0 (f_XMe_store u0 x1 x2 y3) := by
  generalize hF : f_XMe_store u0 x1 x2 y3 = F
  have hf := hF.symm
  unfold f_XMe_store at hf
  refine zMv_of (cc := b_XMe_store) (maxL := 8) (own := RX_Me) (by decide) rfl rfl (Nat.le_of_ble_eq_true rfl) ?_
  intro p e R st m args below meth c A H locs Q ls hR hx hb hml hown hts hw hS hret hl
  subst hR
  have hcs : 0 ≤ (rm_XMe_store).cells ∧ 0 ≤ (rm_XMe_store).slots := ⟨Nat.zero_le _, Nat.zero_le _⟩
  have hl : lv_has ls 8 [(0, .ref (a 2)), (1, .int x1), (2, .int x2), (3, .long y3)] := hl
  refine lv_lload_n hx hb d_XMe_store_0 rfl (lv_at hl 3 rfl) ?_
  refine lv_lstore (lv' := [(5, .long y3), (0, .ref (a 2)), (1, .int x1), (2, .int x2), (3, .long y3)]) hx hb d_XMe_store_1 hl (by decide) rfl (fun ls hl => ?_)
  refine lv_iload_n hx hb d_XMe_store_3 rfl (lv_at hl 3 rfl) ?_
  refine lv_iconst (v := (1 : Int32)) hx hb d_XMe_store_4 (by decide) ?_
  refine lv_isub hx hb d_XMe_store_5 ?_
  refine lv_topi (fun x_1 ex_1 => ?_)
  have hf := hf.trans (nm_eq ex_1)
  refine lv_istore (lv' := [(7, .int x_1), (5, .long y3), (0, .ref (a 2)), (1, .int x1), (2, .int x2), (3, .long y3)]) hx hb d_XMe_store_6 hl (by decide) rfl (fun ls hl => ?_)
  refine lp_cut (fun (n_6 : Nat) (L_5 : Int64 → Int32 → XS → XS) => ∀ (y_2 : Int64) (x_3 : Int32) (u_4 : XS), (Int32.toInt x_3 + 1).toNat < n_6 → ∀ (H : Heap) (locs : List Loc), zW D clX (tyX k) nwX (xW a k) A st u_4 H → va_S A st.heap H locs → ∀ (ls : Array Slot), lv_has ls 8 [(0, .ref (a 2)), (1, .int x1), (5, .long y_2), (7, .int x_3)] → F = L_5 y_2 x_3 u_4 → W p l e rm_XMe_store st m args below meth c H locs 0 0 Q (F0 m 8 ls [])) ?_ ?_ ((Int32.toInt x_1 + 1).toNat + 1) y3 x_1 u0 (Nat.lt_succ_self _) _ _ hw hS _ (lv_sub hl [2, 3, 1, 0] rfl) hf
  · intro y_2 x_3 u_4 hn; exact absurd hn (Nat.not_lt_zero _)
  · intro n_6 L_5 hL_5 y_2 x_3 u_4 hn H locs hw hS ls hl hf
    unfold g_XMe_store_8 at hf
    refine lv_iload hx hb d_XMe_store_8 (lv_at hl 3 rfl) ?_
    refine lv_if_lt (tgt := 41) hx hb d_XMe_store_10 (by decide) (fun c_7 => ?_) (fun c_7 => ?_)
    · have hf := hf.trans (if_pos c_7)
      exact hret _ _ _ _ _ d_XMe_store_41 hw hS hf
    · have hf := hf.trans (if_neg c_7)
      refine lv_aload_n hx hb d_XMe_store_13 rfl (lv_at hl 0 rfl) ?_
      refine lv_iload_n hx hb d_XMe_store_14 rfl (lv_at hl 1 rfl) ?_
      refine lv_iload hx hb d_XMe_store_15 (lv_at hl 3 rfl) ?_
      refine lv_iadd hx hb d_XMe_store_17 ?_
      refine lv_lload hx hb d_XMe_store_18 (lv_at hl 2 rfl) ?_
      refine lv_ldc2 (v := (255 : Int64)) hx hb hown (hts _ kX_Me_23) d_XMe_store_20 ?_
      refine lv_land hx hb d_XMe_store_23 ?_
      refine lv_l2i (v := Int64.toInt32 (y_2 &&& (255 : Int64))) hx hb d_XMe_store_24 rfl ?_
      refine z_wv (z_runV (As := [.int (x1 + x_3), .int (Int64.toInt32 (y_2 &&& (255 : Int64)))]) (rest := []) ⟨hx, hb, hml, hown, hts⟩ (c_XMe_put l D a k u_4 (x1 + x_3) (Int64.toInt32 (y_2 &&& (255 : Int64)))) (qX_Me_25 hts (by decide)) hw 2 rfl rfl hl.1 rfl (lv_room (Nat.le_of_ble_eq_true rfl)) d_XMe_store_25 hcs) hw hS (fun u_8 H locs eu_8 hw hS => ?_)
      have hf := hf.trans (nm_eq eu_8)
      refine lv_lload hx hb d_XMe_store_28 (lv_at hl 2 rfl) ?_
      refine lv_bipush (v := (8 : Int32)) hx hb d_XMe_store_30 (by decide) ?_
      refine lv_lshr (v := y_2 >>> (Int32.toInt64 (8 : Int32) &&& 63)) hx hb d_XMe_store_32 rfl ?_
      refine lv_topl (fun y_9 ey_9 => ?_)
      have hf := hf.trans (nm_eq ey_9)
      refine lv_lstore (lv' := [(5, .long y_9), (0, .ref (a 2)), (1, .int x1), (7, .int x_3)]) hx hb d_XMe_store_33 hl (by decide) rfl (fun ls hl => ?_)
      obtain ⟨x_10, ex_10⟩ : ∃ y : Int32, y = x_3 + (-1 : Int32) := ⟨_, rfl⟩
      have hf := hf.trans (nm_eq ex_10)
      refine lv_iinc (v := x_10) (lv' := [(7, .int x_10), (5, .long y_9), (0, .ref (a 2)), (1, .int x1)]) hx hb d_XMe_store_35 hl (k := 3) rfl (by rw [ex_10]; rfl) (by decide) rfl (fun ls hl => ?_)
      refine lv_goto (tgt := 8) hx hb d_XMe_store_38 (by decide) ?_
      exact hL_5 y_9 x_10 u_8 (mu_dn c_7 ex_10 hn) _ _ hw hS _ (lv_sub hl [2, 3, 1, 0] rfl) hf
end
section
def f_XOc_testBits (u0 : XS) (x1 : Int32) (x2 : Int32) : XS := nm (x1 &&& x2) (fun (x_1 : Int32) => if x_1 = (0 : Int32) then nm (xsF u0 1 (0 : Int32)) (fun (u_6 : XS) => u_6) else if x_1 = x2 then nm (xsF u0 1 (3 : Int32)) (fun (u_5 : XS) => u_5) else nm (xsF u0 1 (1 : Int32)) (fun (u_4 : XS) => u_4))
set_option maxHeartbeats 4000000 in
set_option maxRecDepth 100000 in
theorem c_XOc_testBits (l : Launch) (D : va_G) (a : Nat → Nat) (k : Nat → ClassId) (u0 : XS) (x1 : Int32) (x2 : Int32) : zMv l y_XOc_testBits w_XOc_testBits rm_XOc_testBits D clX (tyX k) nwX (xW a k) [.ref (a 10), .int x1, .int x2] u0 (f_XOc_testBits u0 x1 x2) := by
  generalize hF : f_XOc_testBits u0 x1 x2 = F
  have hf := hF.symm
  unfold f_XOc_testBits at hf
  refine zMv_of (cc := b_XOc_testBits) (maxL := 4) (own := RX_Oc) (by decide) rfl rfl (Nat.le_of_ble_eq_true rfl) ?_
  intro p e R st m args below meth c A H locs Q ls hR hx hb hml hown hts hw hS hret hl
  subst hR
  have hcs : 0 ≤ (rm_XOc_testBits).cells ∧ 0 ≤ (rm_XOc_testBits).slots := ⟨Nat.zero_le _, Nat.zero_le _⟩
  have hl : lv_has ls 4 [(0, .ref (a 10)), (1, .int x1), (2, .int x2)] := hl
  refine lv_iload_n hx hb d_XOc_testBits_0 rfl (lv_at hl 1 rfl) ?_
  refine lv_iload_n hx hb d_XOc_testBits_1 rfl (lv_at hl 2 rfl) ?_
  refine lv_iand hx hb d_XOc_testBits_2 ?_
  refine lv_topi (fun x_1 ex_1 => ?_)
  have hf := hf.trans (nm_eq ex_1)
  refine lv_istore_n (lv' := [(3, .int x_1), (0, .ref (a 10)), (1, .int x1), (2, .int x2)]) hx hb d_XOc_testBits_3 rfl hl (by decide) rfl (fun ls hl => ?_)
  refine lv_aload_n hx hb d_XOc_testBits_4 rfl (lv_at hl 1 rfl) ?_
  refine va_get (v := .ref (a 1)) hx hb hts iX_Oc hown hw.2.1 hw.1 10 rfl rfl 0 (by decide) (hts _ kX_Oc_9) (fun _ h => h) rfl d_XOc_testBits_5 ?_
  refine lv_iload_n hx hb d_XOc_testBits_8 rfl (lv_at hl 0 rfl) ?_
  refine lv_if_ne (tgt := 16) hx hb d_XOc_testBits_9 (by decide) (fun c_2 => ?_) (fun c_2 => ?_)
  · have hf := hf.trans (if_neg c_2)
    refine lv_iload_n hx hb d_XOc_testBits_16 rfl (lv_at hl 0 rfl) ?_
    refine lv_iload_n hx hb d_XOc_testBits_17 rfl (lv_at hl 3 rfl) ?_
    refine lv_icmp_ne (tgt := 25) hx hb d_XOc_testBits_18 (by decide) (fun c_3 => ?_) (fun c_3 => ?_)
    · have hf := hf.trans (if_neg c_3)
      refine lv_iconst (v := (1 : Int32)) hx hb d_XOc_testBits_25 (by decide) ?_
      refine z_putN (u' := xsF u0 1 (1 : Int32)) hx hb hts iX_St tX_St tX_St_ok nX_St hown hw hS 1 rfl rfl 3 (by decide) (va_Nw.use rfl (hw.2.2.2 _ kX_Oc_72).2) (fun _ h => h) rfl rfl (Nat.le_of_ble_eq_true rfl) rfl d_XOc_testBits_26 (fun u_4 H locs eu_4 hw hS => ?_)
      have hf := hf.trans (nm_eq eu_4)
      exact hret _ _ _ _ _ d_XOc_testBits_29 hw hS hf
    · have hf := hf.trans (if_pos c_3)
      refine lv_iconst (v := (3 : Int32)) hx hb d_XOc_testBits_21 (by decide) ?_
      refine lv_goto (tgt := 26) hx hb d_XOc_testBits_22 (by decide) ?_
      refine z_putN (u' := xsF u0 1 (3 : Int32)) hx hb hts iX_St tX_St tX_St_ok nX_St hown hw hS 1 rfl rfl 3 (by decide) (va_Nw.use rfl (hw.2.2.2 _ kX_Oc_72).2) (fun _ h => h) rfl rfl (Nat.le_of_ble_eq_true rfl) rfl d_XOc_testBits_26 (fun u_5 H locs eu_5 hw hS => ?_)
      have hf := hf.trans (nm_eq eu_5)
      exact hret _ _ _ _ _ d_XOc_testBits_29 hw hS hf
  · have hf := hf.trans (if_pos c_2)
    refine lv_iconst (v := (0 : Int32)) hx hb d_XOc_testBits_12 (by decide) ?_
    refine lv_goto (tgt := 26) hx hb d_XOc_testBits_13 (by decide) ?_
    refine z_putN (u' := xsF u0 1 (0 : Int32)) hx hb hts iX_St tX_St tX_St_ok nX_St hown hw hS 1 rfl rfl 3 (by decide) (va_Nw.use rfl (hw.2.2.2 _ kX_Oc_72).2) (fun _ h => h) rfl rfl (Nat.le_of_ble_eq_true rfl) rfl d_XOc_testBits_26 (fun u_6 H locs eu_6 hw hS => ?_)
    have hf := hf.trans (nm_eq eu_6)
    exact hret _ _ _ _ _ d_XOc_testBits_29 hw hS hf
def f_XOc_putBits (u0 : XS) (x1 : Int32) (x2 : Int32) : Int32 × XS := nm (f_XMe_put u0 x1 x2) (fun (u_1 : XS) => nm (f_XSt_conditionByBits u_1 x2) (fun (u_2 : XS) => ((0 : Int32), u_2)))
set_option maxHeartbeats 4000000 in
set_option maxRecDepth 100000 in
theorem c_XOc_putBits (l : Launch) (D : va_G) (a : Nat → Nat) (k : Nat → ClassId) (u0 : XS) (x1 : Int32) (x2 : Int32) : zMi l y_XOc_putBits w_XOc_putBits rm_XOc_putBits D clX (tyX k) nwX (xW a k) [.ref (a 10), .int x1, .int x2] u0 (f_XOc_putBits u0 x1 x2) := by
  generalize hF : f_XOc_putBits u0 x1 x2 = F
  have hf := hF.symm
  unfold f_XOc_putBits at hf
  refine zMi_of (cc := b_XOc_putBits) (maxL := 3) (own := RX_Oc) (by decide) rfl rfl (Nat.le_of_ble_eq_true rfl) ?_
  intro p e R st m args below meth c A H locs Q ls hR hx hb hml hown hts hw hS hret hl
  subst hR
  have hcs : 0 ≤ (rm_XOc_putBits).cells ∧ 0 ≤ (rm_XOc_putBits).slots := ⟨Nat.zero_le _, Nat.zero_le _⟩
  have hl : lv_has ls 3 [(0, .ref (a 10)), (1, .int x1), (2, .int x2)] := hl
  refine lv_aload_n hx hb d_XOc_putBits_0 rfl (lv_at hl 0 rfl) ?_
  refine va_get (v := .ref (a 2)) hx hb hts iX_Oc hown hw.2.1 hw.1 10 rfl rfl 1 (by decide) (hts _ kX_Oc_21) (fun _ h => h) rfl d_XOc_putBits_1 ?_
  refine lv_iload_n hx hb d_XOc_putBits_4 rfl (lv_at hl 1 rfl) ?_
  refine lv_iload_n hx hb d_XOc_putBits_5 rfl (lv_at hl 2 rfl) ?_
  refine z_wv (z_runV (As := [.int x1, .int x2]) (rest := []) ⟨hx, hb, hml, hown, hts⟩ (c_XMe_put l D a k u0 x1 x2) (qX_Oc_48 hts (by decide)) hw 2 rfl rfl hl.1 rfl (lv_room (Nat.le_of_ble_eq_true rfl)) d_XOc_putBits_6 hcs) hw hS (fun u_1 H locs eu_1 hw hS => ?_)
  have hf := hf.trans (nm_eq eu_1)
  refine lv_aload_n hx hb d_XOc_putBits_9 rfl (lv_at hl 0 rfl) ?_
  refine va_get (v := .ref (a 1)) hx hb hts iX_Oc hown hw.2.1 hw.1 10 rfl rfl 0 (by decide) (hts _ kX_Oc_9) (fun _ h => h) rfl d_XOc_putBits_10 ?_
  refine lv_iload_n hx hb d_XOc_putBits_13 rfl (lv_at hl 2 rfl) ?_
  refine z_wv (z_runV (As := [.int x2]) (rest := []) ⟨hx, hb, hml, hown, hts⟩ (c_XSt_conditionByBits l D a k u_1 x2) (qX_Oc_75 hts (by decide)) hw 1 rfl rfl hl.1 rfl (lv_room (Nat.le_of_ble_eq_true rfl)) d_XOc_putBits_14 hcs) hw hS (fun u_2 H locs eu_2 hw hS => ?_)
  have hf := hf.trans (nm_eq eu_2)
  refine lv_iconst (v := (0 : Int32)) hx hb d_XOc_putBits_17 (by decide) ?_
  exact hret (0 : Int32) _ _ _ _ _ d_XOc_putBits_18 hw hS hf
def f_XOc_withImmediate (u0 : XS)  : Int32 × XS := nm (f_XMe_holds u0 (xF u0 8) (1 : Int32)) (fun (z_1 : Bool) => if (bI z_1) = (0 : Int32) then ((5 : Int32), u0) else nm (f_XMe_get u0 (xF u0 8)) (fun (x_3 : Int32) => nm (xF u0 4) (fun (x_4 : Int32) => jn (fun (K_5 : Int32 × XS) => if x_4 = (145 : Int32) then nm (f_XOc_testBits u0 x_3 (xF u0 5)) (fun (u_9 : XS) => ((0 : Int32), u_9)) else if x_4 = (146 : Int32) then nm (f_XMe_put u0 (xF u0 8) (xF u0 5)) (fun (u_11 : XS) => ((0 : Int32), u_11)) else if x_4 = (148 : Int32) then pr (f_XOc_putBits u0 (xF u0 8) (x_3 &&& (xF u0 5))) (fun (x_15 : Int32) (u_14 : XS) => (x_15, u_14)) else if x_4 = (149 : Int32) then nm (f_XSt_conditionBySign u0 (Int32.toInt64 (x_3 - (xF u0 5)))) (fun (u_17 : XS) => ((0 : Int32), u_17)) else if x_4 = (150 : Int32) then pr (f_XOc_putBits u0 (xF u0 8) (x_3 ||| (xF u0 5))) (fun (x_20 : Int32) (u_19 : XS) => (x_20, u_19)) else K_5) (pr (f_XOc_putBits u0 (xF u0 8) (x_3 ^^^ (xF u0 5))) (fun (x_7 : Int32) (u_6 : XS) => (x_7, u_6))))))
set_option maxHeartbeats 4000000 in
set_option maxRecDepth 100000 in
theorem c_XOc_withImmediate (l : Launch) (D : va_G) (a : Nat → Nat) (k : Nat → ClassId) (u0 : XS)  : zMi l y_XOc_withImmediate w_XOc_withImmediate rm_XOc_withImmediate D clX (tyX k) nwX (xW a k) [.ref (a 10), .ref (a 6)] u0 (f_XOc_withImmediate u0) := by
  generalize hF : f_XOc_withImmediate u0 = F
  have hf := hF.symm
  unfold f_XOc_withImmediate at hf
  refine zMi_of (cc := b_XOc_withImmediate) (maxL := 3) (own := RX_Oc) (by decide) rfl rfl (Nat.le_of_ble_eq_true rfl) ?_
  intro p e R st m args below meth c A H locs Q ls hR hx hb hml hown hts hw hS hret hl
  subst hR
  have hcs : 0 ≤ (rm_XOc_withImmediate).cells ∧ 0 ≤ (rm_XOc_withImmediate).slots := ⟨Nat.zero_le _, Nat.zero_le _⟩
  have hl : lv_has ls 3 [(0, .ref (a 10)), (1, .ref (a 6))] := hl
  refine lv_aload_n hx hb d_XOc_withImmediate_0 rfl (lv_at hl 0 rfl) ?_
  refine va_get (v := .ref (a 2)) hx hb hts iX_Oc hown hw.2.1 hw.1 10 rfl rfl 1 (by decide) (hts _ kX_Oc_21) (fun _ h => h) rfl d_XOc_withImmediate_1 ?_
  refine lv_aload_n hx hb d_XOc_withImmediate_4 rfl (lv_at hl 1 rfl) ?_
  refine va_getN (v := .int (xF u0 8)) hx hb hts iX_In hown hw.2.1 hw.1 6 rfl rfl 4 (by decide) (va_Nw.use rfl (hw.2.2.2 _ kX_Oc_22).2) (fun _ h => h) rfl d_XOc_withImmediate_5 ?_
  refine lv_iconst (v := (1 : Int32)) hx hb d_XOc_withImmediate_8 (by decide) ?_
  refine z_rz (z_runV (As := [.int (xF u0 8), .int (1 : Int32)]) (rest := []) ⟨hx, hb, hml, hown, hts⟩ (c_XMe_holds l D a k u0 (xF u0 8) (1 : Int32)) (qX_Oc_28 hts (by decide)) hw 2 rfl rfl hl.1 rfl (lv_room (Nat.le_of_ble_eq_true rfl)) d_XOc_withImmediate_9 hcs) (fun z_1 ez_1 => ?_)
  have hf := hf.trans (nm_eq ez_1)
  refine lv_if_ne (tgt := 17) hx hb d_XOc_withImmediate_12 (by decide) (fun c_2 => ?_) (fun c_2 => ?_)
  · have hf := hf.trans (if_neg c_2)
    refine lv_aload_n hx hb d_XOc_withImmediate_17 rfl (lv_at hl 0 rfl) ?_
    refine va_get (v := .ref (a 2)) hx hb hts iX_Oc hown hw.2.1 hw.1 10 rfl rfl 1 (by decide) (hts _ kX_Oc_21) (fun _ h => h) rfl d_XOc_withImmediate_18 ?_
    refine lv_aload_n hx hb d_XOc_withImmediate_21 rfl (lv_at hl 1 rfl) ?_
    refine va_getN (v := .int (xF u0 8)) hx hb hts iX_In hown hw.2.1 hw.1 6 rfl rfl 4 (by decide) (va_Nw.use rfl (hw.2.2.2 _ kX_Oc_22).2) (fun _ h => h) rfl d_XOc_withImmediate_22 ?_
    refine z_ri (z_runV (As := [.int (xF u0 8)]) (rest := []) ⟨hx, hb, hml, hown, hts⟩ (c_XMe_get l D a k u0 (xF u0 8)) (qX_Oc_34 hts (by decide)) hw 2 rfl rfl hl.1 rfl (lv_room (Nat.le_of_ble_eq_true rfl)) d_XOc_withImmediate_25 hcs) (fun x_3 ex_3 => ?_)
    have hf := hf.trans (nm_eq ex_3)
    refine lv_istore_n (lv' := [(2, .int x_3), (0, .ref (a 10)), (1, .ref (a 6))]) hx hb d_XOc_withImmediate_28 rfl hl (by decide) rfl (fun ls hl => ?_)
    refine lv_aload_n hx hb d_XOc_withImmediate_29 rfl (lv_at hl 2 rfl) ?_
    refine va_getN (v := .int (xF u0 4)) hx hb hts iX_In hown hw.2.1 hw.1 6 rfl rfl 0 (by decide) (va_Nw.use rfl (hw.2.2.2 _ kX_Oc_38).2) (fun _ h => h) rfl d_XOc_withImmediate_30 ?_
    refine lv_topi (fun x_4 ex_4 => ?_)
    have hf := hf.trans (nm_eq ex_4)
    refine jn_cut hf (fun (K_5 : Int32 × XS) => ∀ (ls : Array Slot), lv_has ls 3 [(0, .ref (a 10)), (1, .ref (a 6)), (2, .int x_3)] → F = K_5 → W p l e rm_XOc_withImmediate st m args below meth c H locs 0 0 Q (F0 m 146 ls [])) ?_ ?_
    · intro ls hl hf
      refine lv_aload_n hx hb d_XOc_withImmediate_146 rfl (lv_at hl 0 rfl) ?_
      refine lv_aload_n hx hb d_XOc_withImmediate_147 rfl (lv_at hl 1 rfl) ?_
      refine va_getN (v := .int (xF u0 8)) hx hb hts iX_In hown hw.2.1 hw.1 6 rfl rfl 4 (by decide) (va_Nw.use rfl (hw.2.2.2 _ kX_Oc_22).2) (fun _ h => h) rfl d_XOc_withImmediate_148 ?_
      refine lv_iload_n hx hb d_XOc_withImmediate_151 rfl (lv_at hl 2 rfl) ?_
      refine lv_aload_n hx hb d_XOc_withImmediate_152 rfl (lv_at hl 1 rfl) ?_
      refine va_getN (v := .int (xF u0 5)) hx hb hts iX_In hown hw.2.1 hw.1 6 rfl rfl 1 (by decide) (va_Nw.use rfl (hw.2.2.2 _ kX_Oc_41).2) (fun _ h => h) rfl d_XOc_withImmediate_153 ?_
      refine lv_ixor hx hb d_XOc_withImmediate_156 ?_
      refine z_wi (z_runV (As := [.int (xF u0 8), .int (x_3 ^^^ (xF u0 5))]) (rest := []) ⟨hx, hb, hml, hown, hts⟩ (c_XOc_putBits l D a k u0 (xF u0 8) (x_3 ^^^ (xF u0 5))) (qX_Oc_51 hts (by decide)) hw 10 rfl rfl hl.1 rfl (lv_room (Nat.le_of_ble_eq_true rfl)) d_XOc_withImmediate_157 hcs) hw hS (fun x_7 u_6 H locs ex_7 hw hS => ?_)
      have hf := hf.trans (pr_eq ex_7)
      exact hret x_7 _ _ _ _ _ d_XOc_withImmediate_160 hw hS hf
    · intro K_5 hK_5 hf
      by_cases c_8 : x_4 = (145 : Int32)
      · have hf := hf.trans (if_pos c_8)
        refine lv_tableIn (off := 39) (tgt := 72) hx hb d_XOc_withImmediate_33 (by rw [c_8]; decide +kernel) (by rw [c_8]; decide +kernel) (by rw [c_8]; decide +kernel) (by decide) ?_
        refine lv_aload_n hx hb d_XOc_withImmediate_72 rfl (lv_at hl 1 rfl) ?_
        refine lv_iload_n hx hb d_XOc_withImmediate_73 rfl (lv_at hl 0 rfl) ?_
        refine lv_aload_n hx hb d_XOc_withImmediate_74 rfl (lv_at hl 2 rfl) ?_
        refine va_getN (v := .int (xF u0 5)) hx hb hts iX_In hown hw.2.1 hw.1 6 rfl rfl 1 (by decide) (va_Nw.use rfl (hw.2.2.2 _ kX_Oc_41).2) (fun _ h => h) rfl d_XOc_withImmediate_75 ?_
        refine z_wv (z_runV (As := [.int x_3, .int (xF u0 5)]) (rest := []) ⟨hx, hb, hml, hown, hts⟩ (c_XOc_testBits l D a k u0 x_3 (xF u0 5)) (qX_Oc_44 hts (by decide)) hw 10 rfl rfl hl.1 rfl (lv_room (Nat.le_of_ble_eq_true rfl)) d_XOc_withImmediate_78 hcs) hw hS (fun u_9 H locs eu_9 hw hS => ?_)
        have hf := hf.trans (nm_eq eu_9)
        refine lv_iconst (v := (0 : Int32)) hx hb d_XOc_withImmediate_81 (by decide) ?_
        exact hret (0 : Int32) _ _ _ _ _ d_XOc_withImmediate_82 hw hS hf
      have hf := hf.trans (if_neg c_8)
      by_cases c_10 : x_4 = (146 : Int32)
      · have hf := hf.trans (if_pos c_10)
        refine lv_tableIn (off := 50) (tgt := 83) hx hb d_XOc_withImmediate_33 (by rw [c_10]; decide +kernel) (by rw [c_10]; decide +kernel) (by rw [c_10]; decide +kernel) (by decide) ?_
        refine lv_aload_n hx hb d_XOc_withImmediate_83 rfl (lv_at hl 1 rfl) ?_
        refine va_get (v := .ref (a 2)) hx hb hts iX_Oc hown hw.2.1 hw.1 10 rfl rfl 1 (by decide) (hts _ kX_Oc_21) (fun _ h => h) rfl d_XOc_withImmediate_84 ?_
        refine lv_aload_n hx hb d_XOc_withImmediate_87 rfl (lv_at hl 2 rfl) ?_
        refine va_getN (v := .int (xF u0 8)) hx hb hts iX_In hown hw.2.1 hw.1 6 rfl rfl 4 (by decide) (va_Nw.use rfl (hw.2.2.2 _ kX_Oc_22).2) (fun _ h => h) rfl d_XOc_withImmediate_88 ?_
        refine lv_aload_n hx hb d_XOc_withImmediate_91 rfl (lv_at hl 2 rfl) ?_
        refine va_getN (v := .int (xF u0 5)) hx hb hts iX_In hown hw.2.1 hw.1 6 rfl rfl 1 (by decide) (va_Nw.use rfl (hw.2.2.2 _ kX_Oc_41).2) (fun _ h => h) rfl d_XOc_withImmediate_92 ?_
        refine z_wv (z_runV (As := [.int (xF u0 8), .int (xF u0 5)]) (rest := []) ⟨hx, hb, hml, hown, hts⟩ (c_XMe_put l D a k u0 (xF u0 8) (xF u0 5)) (qX_Oc_48 hts (by decide)) hw 2 rfl rfl hl.1 rfl (lv_room (Nat.le_of_ble_eq_true rfl)) d_XOc_withImmediate_95 hcs) hw hS (fun u_11 H locs eu_11 hw hS => ?_)
        have hf := hf.trans (nm_eq eu_11)
        refine lv_iconst (v := (0 : Int32)) hx hb d_XOc_withImmediate_98 (by decide) ?_
        exact hret (0 : Int32) _ _ _ _ _ d_XOc_withImmediate_99 hw hS hf
      have hf := hf.trans (if_neg c_10)
      by_cases c_12 : x_4 = (147 : Int32)
      · have hf := hf.trans (if_neg (by rw [c_12]; decide))
        have hf := hf.trans (if_neg (by rw [c_12]; decide))
        have hf := hf.trans (if_neg (by rw [c_12]; decide))
        refine lv_tableIn (off := 113) (tgt := 146) hx hb d_XOc_withImmediate_33 (by rw [c_12]; decide +kernel) (by rw [c_12]; decide +kernel) (by rw [c_12]; decide +kernel) (by decide) ?_
        exact hK_5 _ (lv_sub hl [1, 2, 0] rfl) hf
      by_cases c_13 : x_4 = (148 : Int32)
      · have hf := hf.trans (if_pos c_13)
        refine lv_tableIn (off := 67) (tgt := 100) hx hb d_XOc_withImmediate_33 (by rw [c_13]; decide +kernel) (by rw [c_13]; decide +kernel) (by rw [c_13]; decide +kernel) (by decide) ?_
        refine lv_aload_n hx hb d_XOc_withImmediate_100 rfl (lv_at hl 1 rfl) ?_
        refine lv_aload_n hx hb d_XOc_withImmediate_101 rfl (lv_at hl 2 rfl) ?_
        refine va_getN (v := .int (xF u0 8)) hx hb hts iX_In hown hw.2.1 hw.1 6 rfl rfl 4 (by decide) (va_Nw.use rfl (hw.2.2.2 _ kX_Oc_22).2) (fun _ h => h) rfl d_XOc_withImmediate_102 ?_
        refine lv_iload_n hx hb d_XOc_withImmediate_105 rfl (lv_at hl 0 rfl) ?_
        refine lv_aload_n hx hb d_XOc_withImmediate_106 rfl (lv_at hl 2 rfl) ?_
        refine va_getN (v := .int (xF u0 5)) hx hb hts iX_In hown hw.2.1 hw.1 6 rfl rfl 1 (by decide) (va_Nw.use rfl (hw.2.2.2 _ kX_Oc_41).2) (fun _ h => h) rfl d_XOc_withImmediate_107 ?_
        refine lv_iand hx hb d_XOc_withImmediate_110 ?_
        refine z_wi (z_runV (As := [.int (xF u0 8), .int (x_3 &&& (xF u0 5))]) (rest := []) ⟨hx, hb, hml, hown, hts⟩ (c_XOc_putBits l D a k u0 (xF u0 8) (x_3 &&& (xF u0 5))) (qX_Oc_51 hts (by decide)) hw 10 rfl rfl hl.1 rfl (lv_room (Nat.le_of_ble_eq_true rfl)) d_XOc_withImmediate_111 hcs) hw hS (fun x_15 u_14 H locs ex_15 hw hS => ?_)
        have hf := hf.trans (pr_eq ex_15)
        exact hret x_15 _ _ _ _ _ d_XOc_withImmediate_114 hw hS hf
      have hf := hf.trans (if_neg c_13)
      by_cases c_16 : x_4 = (149 : Int32)
      · have hf := hf.trans (if_pos c_16)
        refine lv_tableIn (off := 82) (tgt := 115) hx hb d_XOc_withImmediate_33 (by rw [c_16]; decide +kernel) (by rw [c_16]; decide +kernel) (by rw [c_16]; decide +kernel) (by decide) ?_
        refine lv_aload_n hx hb d_XOc_withImmediate_115 rfl (lv_at hl 1 rfl) ?_
        refine va_get (v := .ref (a 1)) hx hb hts iX_Oc hown hw.2.1 hw.1 10 rfl rfl 0 (by decide) (hts _ kX_Oc_9) (fun _ h => h) rfl d_XOc_withImmediate_116 ?_
        refine lv_iload_n hx hb d_XOc_withImmediate_119 rfl (lv_at hl 0 rfl) ?_
        refine lv_aload_n hx hb d_XOc_withImmediate_120 rfl (lv_at hl 2 rfl) ?_
        refine va_getN (v := .int (xF u0 5)) hx hb hts iX_In hown hw.2.1 hw.1 6 rfl rfl 1 (by decide) (va_Nw.use rfl (hw.2.2.2 _ kX_Oc_41).2) (fun _ h => h) rfl d_XOc_withImmediate_121 ?_
        refine lv_isub hx hb d_XOc_withImmediate_124 ?_
        refine lv_i2l (v := Int32.toInt64 (x_3 - (xF u0 5))) hx hb d_XOc_withImmediate_125 rfl ?_
        refine z_wv (z_runV (As := [.long (Int32.toInt64 (x_3 - (xF u0 5)))]) (rest := []) ⟨hx, hb, hml, hown, hts⟩ (c_XSt_conditionBySign l D a k u0 (Int32.toInt64 (x_3 - (xF u0 5)))) (qX_Oc_55 hts (by decide)) hw 1 rfl rfl hl.1 rfl (lv_room (Nat.le_of_ble_eq_true rfl)) d_XOc_withImmediate_126 hcs) hw hS (fun u_17 H locs eu_17 hw hS => ?_)
        have hf := hf.trans (nm_eq eu_17)
        refine lv_iconst (v := (0 : Int32)) hx hb d_XOc_withImmediate_129 (by decide) ?_
        exact hret (0 : Int32) _ _ _ _ _ d_XOc_withImmediate_130 hw hS hf
      have hf := hf.trans (if_neg c_16)
      by_cases c_18 : x_4 = (150 : Int32)
      · have hf := hf.trans (if_pos c_18)
        refine lv_tableIn (off := 98) (tgt := 131) hx hb d_XOc_withImmediate_33 (by rw [c_18]; decide +kernel) (by rw [c_18]; decide +kernel) (by rw [c_18]; decide +kernel) (by decide) ?_
        refine lv_aload_n hx hb d_XOc_withImmediate_131 rfl (lv_at hl 1 rfl) ?_
        refine lv_aload_n hx hb d_XOc_withImmediate_132 rfl (lv_at hl 2 rfl) ?_
        refine va_getN (v := .int (xF u0 8)) hx hb hts iX_In hown hw.2.1 hw.1 6 rfl rfl 4 (by decide) (va_Nw.use rfl (hw.2.2.2 _ kX_Oc_22).2) (fun _ h => h) rfl d_XOc_withImmediate_133 ?_
        refine lv_iload_n hx hb d_XOc_withImmediate_136 rfl (lv_at hl 0 rfl) ?_
        refine lv_aload_n hx hb d_XOc_withImmediate_137 rfl (lv_at hl 2 rfl) ?_
        refine va_getN (v := .int (xF u0 5)) hx hb hts iX_In hown hw.2.1 hw.1 6 rfl rfl 1 (by decide) (va_Nw.use rfl (hw.2.2.2 _ kX_Oc_41).2) (fun _ h => h) rfl d_XOc_withImmediate_138 ?_
        refine lv_ior hx hb d_XOc_withImmediate_141 ?_
        refine z_wi (z_runV (As := [.int (xF u0 8), .int (x_3 ||| (xF u0 5))]) (rest := []) ⟨hx, hb, hml, hown, hts⟩ (c_XOc_putBits l D a k u0 (xF u0 8) (x_3 ||| (xF u0 5))) (qX_Oc_51 hts (by decide)) hw 10 rfl rfl hl.1 rfl (lv_room (Nat.le_of_ble_eq_true rfl)) d_XOc_withImmediate_142 hcs) hw hS (fun x_20 u_19 H locs ex_20 hw hS => ?_)
        have hf := hf.trans (pr_eq ex_20)
        exact hret x_20 _ _ _ _ _ d_XOc_withImmediate_145 hw hS hf
      have hf := hf.trans (if_neg c_18)
      refine lv_tableOut (tgt := 146) hx hb d_XOc_withImmediate_33 (by have := lv_neT c_8 (a := 145) (by decide +kernel); have := lv_neT c_10 (a := 146) (by decide +kernel); have := lv_neT c_12 (a := 147) (by decide +kernel); have := lv_neT c_13 (a := 148) (by decide +kernel); have := lv_neT c_16 (a := 149) (by decide +kernel); have := lv_neT c_18 (a := 150) (by decide +kernel); omega) (by decide) ?_
      exact hK_5 _ (lv_sub hl [1, 2, 0] rfl) hf
  · have hf := hf.trans (if_pos c_2)
    refine lv_iconst (v := (5 : Int32)) hx hb d_XOc_withImmediate_15 (by decide) ?_
    exact hret (5 : Int32) _ _ _ _ _ d_XOc_withImmediate_16 hw hS hf
def f_XOc_entry (u0 : XS) (x2 : Int32) : Int32 := nm (f_XMe_get u0 ((xF u0 8) + x2)) (fun (x_1 : Int32) => (((xF u0 9) + x_1) &&& (16777215 : Int32)))
set_option maxHeartbeats 4000000 in
set_option maxRecDepth 100000 in
theorem c_XOc_entry (l : Launch) (D : va_G) (a : Nat → Nat) (k : Nat → ClassId) (u0 : XS) (x2 : Int32) : zRi l y_XOc_entry w_XOc_entry rm_XOc_entry D clX (tyX k) nwX (xW a k) [.ref (a 10), .ref (a 6), .int x2] u0 (f_XOc_entry u0 x2) := by
  generalize hF : f_XOc_entry u0 x2 = F
  have hf := hF.symm
  unfold f_XOc_entry at hf
  refine zRi_of (cc := b_XOc_entry) (maxL := 3) (own := RX_Oc) (by decide) rfl rfl (Nat.le_of_ble_eq_true rfl) ?_
  intro p e R st m args below meth c H locs Q ls hR hx hb hml hown hts hw hret hl
  subst hR
  have hcs : 0 ≤ (rm_XOc_entry).cells ∧ 0 ≤ (rm_XOc_entry).slots := ⟨Nat.zero_le _, Nat.zero_le _⟩
  have hl : lv_has ls 3 [(0, .ref (a 10)), (1, .ref (a 6)), (2, .int x2)] := hl
  refine lv_aload_n hx hb d_XOc_entry_0 rfl (lv_at hl 1 rfl) ?_
  refine va_getN (v := .int (xF u0 9)) hx hb hts iX_In hown hw.2.1 hw.1 6 rfl rfl 5 (by decide) (va_Nw.use rfl (hw.2.2.2 _ kX_Oc_63).2) (fun _ h => h) rfl d_XOc_entry_1 ?_
  refine lv_aload_n hx hb d_XOc_entry_4 rfl (lv_at hl 0 rfl) ?_
  refine va_get (v := .ref (a 2)) hx hb hts iX_Oc hown hw.2.1 hw.1 10 rfl rfl 1 (by decide) (hts _ kX_Oc_21) (fun _ h => h) rfl d_XOc_entry_5 ?_
  refine lv_aload_n hx hb d_XOc_entry_8 rfl (lv_at hl 1 rfl) ?_
  refine va_getN (v := .int (xF u0 8)) hx hb hts iX_In hown hw.2.1 hw.1 6 rfl rfl 4 (by decide) (va_Nw.use rfl (hw.2.2.2 _ kX_Oc_22).2) (fun _ h => h) rfl d_XOc_entry_9 ?_
  refine lv_iload_n hx hb d_XOc_entry_12 rfl (lv_at hl 2 rfl) ?_
  refine lv_iadd hx hb d_XOc_entry_13 ?_
  refine z_ri (z_runV (As := [.int ((xF u0 8) + x2)]) (rest := [.int (xF u0 9)]) ⟨hx, hb, hml, hown, hts⟩ (c_XMe_get l D a k u0 ((xF u0 8) + x2)) (qX_Oc_34 hts (by decide)) hw 2 rfl rfl hl.1 rfl (lv_room (Nat.le_of_ble_eq_true rfl)) d_XOc_entry_14 hcs) (fun x_1 ex_1 => ?_)
  have hf := hf.trans (nm_eq ex_1)
  refine lv_iadd hx hb d_XOc_entry_17 ?_
  refine lv_ldc (v := (16777215 : Int32)) hx hb hown (hts _ kX_Oc_86) d_XOc_entry_18 ?_
  refine lv_iand hx hb d_XOc_entry_20 ?_
  exact hret (((xF u0 9) + x_1) &&& (16777215 : Int32)) _ _ d_XOc_entry_21 hf
def g_XOc_translate_34 (x2 : Int32) (L_4 : Int32 → XS → Int32 × XS) : Int32 → XS → Int32 × XS := fun x_2 u_3 => if x2 ≤ x_2 then ((0 : Int32), u_3) else nm (f_XOc_entry u_3 x_2) (fun (x_7 : Int32) => nm (f_XMe_get u_3 x_7) (fun (x_8 : Int32) => nm (f_XMe_put u_3 ((xF u_3 8) + x_2) x_8) (fun (u_9 : XS) => nm (x_2 + (1 : Int32)) (fun (x_10 : Int32) => L_4 x_10 u_9))))
def g_XOc_translate_2 (x2 : Int32) (K_1 : Int32 × XS) (u0 : XS) (L_12 : Int32 → Int32 × XS) : Int32 → Int32 × XS := fun x_11 => if x2 ≤ x_11 then K_1 else nm (f_XOc_entry u0 x_11) (fun (x_15 : Int32) => nm (f_XMe_holds u0 x_15 (1 : Int32)) (fun (z_16 : Bool) => if (bI z_16) = (0 : Int32) then ((5 : Int32), u0) else nm (x_11 + (1 : Int32)) (fun (x_18 : Int32) => L_12 x_18)))
def f_XOc_translate (u0 : XS) (x2 : Int32) : Int32 × XS := jn (fun (K_1 : Int32 × XS) => lpN ((Int32.toInt x2 - Int32.toInt (0 : Int32)).toNat + 1) (g_XOc_translate_2 x2 K_1 u0) (fun _ => default) (0 : Int32)) (lpN ((Int32.toInt x2 - Int32.toInt (0 : Int32)).toNat + 1) (g_XOc_translate_34 x2) (fun _ _ => default) (0 : Int32) u0)
set_option maxHeartbeats 4000000 in
set_option maxRecDepth 100000 in
theorem c_XOc_translate (l : Launch) (D : va_G) (a : Nat → Nat) (k : Nat → ClassId) (u0 : XS) (x2 : Int32) : zMi l y_XOc_translate w_XOc_translate rm_XOc_translate D clX (tyX k) nwX (xW a k) [.ref (a 10), .ref (a 6), .int x2] u0 (f_XOc_translate u0 x2) := by
  generalize hF : f_XOc_translate u0 x2 = F
  have hf := hF.symm
  unfold f_XOc_translate at hf
  refine zMi_of (cc := b_XOc_translate) (maxL := 4) (own := RX_Oc) (by decide) rfl rfl (Nat.le_of_ble_eq_true rfl) ?_
  intro p e R st m args below meth c A H locs Q ls hR hx hb hml hown hts hw hS hret hl
  subst hR
  have hcs : 0 ≤ (rm_XOc_translate).cells ∧ 0 ≤ (rm_XOc_translate).slots := ⟨Nat.zero_le _, Nat.zero_le _⟩
  have hl : lv_has ls 4 [(0, .ref (a 10)), (1, .ref (a 6)), (2, .int x2)] := hl
  refine lv_iconst (v := (0 : Int32)) hx hb d_XOc_translate_0 (by decide) ?_
  refine lv_istore_n (lv' := [(3, .int (0 : Int32)), (0, .ref (a 10)), (1, .ref (a 6)), (2, .int x2)]) hx hb d_XOc_translate_1 rfl hl (by decide) rfl (fun ls hl => ?_)
  refine jn_cut hf (fun (K_1 : Int32 × XS) => ∀ (ls : Array Slot), lv_has ls 4 [(0, .ref (a 10)), (1, .ref (a 6)), (2, .int x2)] → F = K_1 → W p l e rm_XOc_translate st m args below meth c H locs 0 0 Q (F0 m 32 ls [])) ?_ ?_
  · intro ls hl hf
    refine lv_iconst (v := (0 : Int32)) hx hb d_XOc_translate_32 (by decide) ?_
    refine lv_istore_n (lv' := [(3, .int (0 : Int32)), (0, .ref (a 10)), (1, .ref (a 6)), (2, .int x2)]) hx hb d_XOc_translate_33 rfl hl (by decide) rfl (fun ls hl => ?_)
    refine lp_cut (fun (n_5 : Nat) (L_4 : Int32 → XS → Int32 × XS) => ∀ (x_2 : Int32) (u_3 : XS), (Int32.toInt x2 - Int32.toInt x_2).toNat < n_5 → ∀ (H : Heap) (locs : List Loc), zW D clX (tyX k) nwX (xW a k) A st u_3 H → va_S A st.heap H locs → ∀ (ls : Array Slot), lv_has ls 4 [(0, .ref (a 10)), (1, .ref (a 6)), (2, .int x2), (3, .int x_2)] → F = L_4 x_2 u_3 → W p l e rm_XOc_translate st m args below meth c H locs 0 0 Q (F0 m 34 ls [])) ?_ ?_ ((Int32.toInt x2 - Int32.toInt (0 : Int32)).toNat + 1) (0 : Int32) u0 (Nat.lt_succ_self _) _ _ hw hS _ (lv_sub hl [1, 2, 3, 0] rfl) hf
    · intro x_2 u_3 hn; exact absurd hn (Nat.not_lt_zero _)
    · intro n_5 L_4 hL_4 x_2 u_3 hn H locs hw hS ls hl hf
      unfold g_XOc_translate_34 at hf
      refine lv_iload_n hx hb d_XOc_translate_34 rfl (lv_at hl 3 rfl) ?_
      refine lv_iload_n hx hb d_XOc_translate_35 rfl (lv_at hl 2 rfl) ?_
      refine lv_icmp_ge (tgt := 71) hx hb d_XOc_translate_36 (by decide) (fun c_6 => ?_) (fun c_6 => ?_)
      · have hf := hf.trans (if_pos c_6)
        refine lv_iconst (v := (0 : Int32)) hx hb d_XOc_translate_71 (by decide) ?_
        exact hret (0 : Int32) _ _ _ _ _ d_XOc_translate_72 hw hS hf
      · have hf := hf.trans (if_neg c_6)
        refine lv_aload_n hx hb d_XOc_translate_39 rfl (lv_at hl 0 rfl) ?_
        refine va_get (v := .ref (a 2)) hx hb hts iX_Oc hown hw.2.1 hw.1 10 rfl rfl 1 (by decide) (hts _ kX_Oc_21) (fun _ h => h) rfl d_XOc_translate_40 ?_
        refine lv_aload_n hx hb d_XOc_translate_43 rfl (lv_at hl 1 rfl) ?_
        refine va_getN (v := .int (xF u_3 8)) hx hb hts iX_In hown hw.2.1 hw.1 6 rfl rfl 4 (by decide) (va_Nw.use rfl (hw.2.2.2 _ kX_Oc_22).2) (fun _ h => h) rfl d_XOc_translate_44 ?_
        refine lv_iload_n hx hb d_XOc_translate_47 rfl (lv_at hl 3 rfl) ?_
        refine lv_iadd hx hb d_XOc_translate_48 ?_
        refine lv_aload_n hx hb d_XOc_translate_49 rfl (lv_at hl 0 rfl) ?_
        refine va_get (v := .ref (a 2)) hx hb hts iX_Oc hown hw.2.1 hw.1 10 rfl rfl 1 (by decide) (hts _ kX_Oc_21) (fun _ h => h) rfl d_XOc_translate_50 ?_
        refine lv_aload_n hx hb d_XOc_translate_53 rfl (lv_at hl 0 rfl) ?_
        refine lv_aload_n hx hb d_XOc_translate_54 rfl (lv_at hl 1 rfl) ?_
        refine lv_iload_n hx hb d_XOc_translate_55 rfl (lv_at hl 3 rfl) ?_
        refine z_ri (z_runV (As := [.ref (a 6), .int x_2]) (rest := [.ref (a 2), .int ((xF u_3 8) + x_2), .ref (a 2)]) ⟨hx, hb, hml, hown, hts⟩ (c_XOc_entry l D a k u_3 x_2) (qX_Oc_83 hts (by decide)) hw 10 rfl rfl hl.1 rfl (lv_room (Nat.le_of_ble_eq_true rfl)) d_XOc_translate_56 hcs) (fun x_7 ex_7 => ?_)
        have hf := hf.trans (nm_eq ex_7)
        refine z_ri (z_runV (As := [.int x_7]) (rest := [.int ((xF u_3 8) + x_2), .ref (a 2)]) ⟨hx, hb, hml, hown, hts⟩ (c_XMe_get l D a k u_3 x_7) (qX_Oc_34 hts (by decide)) hw 2 rfl rfl hl.1 rfl (lv_room (Nat.le_of_ble_eq_true rfl)) d_XOc_translate_59 hcs) (fun x_8 ex_8 => ?_)
        have hf := hf.trans (nm_eq ex_8)
        refine z_wv (z_runV (As := [.int ((xF u_3 8) + x_2), .int x_8]) (rest := []) ⟨hx, hb, hml, hown, hts⟩ (c_XMe_put l D a k u_3 ((xF u_3 8) + x_2) x_8) (qX_Oc_48 hts (by decide)) hw 2 rfl rfl hl.1 rfl (lv_room (Nat.le_of_ble_eq_true rfl)) d_XOc_translate_62 hcs) hw hS (fun u_9 H locs eu_9 hw hS => ?_)
        have hf := hf.trans (nm_eq eu_9)
        obtain ⟨x_10, ex_10⟩ : ∃ y : Int32, y = x_2 + (1 : Int32) := ⟨_, rfl⟩
        have hf := hf.trans (nm_eq ex_10)
        refine lv_iinc (v := x_10) (lv' := [(3, .int x_10), (0, .ref (a 10)), (1, .ref (a 6)), (2, .int x2)]) hx hb d_XOc_translate_65 hl (k := 3) rfl (by rw [ex_10]; rfl) (by decide) rfl (fun ls hl => ?_)
        refine lv_goto (tgt := 34) hx hb d_XOc_translate_68 (by decide) ?_
        exact hL_4 x_10 u_9 (mu_up c_6 ex_10 hn) _ _ hw hS _ (lv_sub hl [1, 2, 3, 0] rfl) hf
  · intro K_1 hK_1 hf
    refine lp_cut (fun (n_13 : Nat) (L_12 : Int32 → Int32 × XS) => ∀ (x_11 : Int32), (Int32.toInt x2 - Int32.toInt x_11).toNat < n_13 → ∀ (ls : Array Slot), lv_has ls 4 [(0, .ref (a 10)), (1, .ref (a 6)), (2, .int x2), (3, .int x_11)] → F = L_12 x_11 → W p l e rm_XOc_translate st m args below meth c H locs 0 0 Q (F0 m 2 ls [])) ?_ ?_ ((Int32.toInt x2 - Int32.toInt (0 : Int32)).toNat + 1) (0 : Int32) (Nat.lt_succ_self _) _ (lv_sub hl [1, 2, 3, 0] rfl) hf
    · intro x_11 hn; exact absurd hn (Nat.not_lt_zero _)
    · intro n_13 L_12 hL_12 x_11 hn ls hl hf
      unfold g_XOc_translate_2 at hf
      refine lv_iload_n hx hb d_XOc_translate_2 rfl (lv_at hl 3 rfl) ?_
      refine lv_iload_n hx hb d_XOc_translate_3 rfl (lv_at hl 2 rfl) ?_
      refine lv_icmp_ge (tgt := 32) hx hb d_XOc_translate_4 (by decide) (fun c_14 => ?_) (fun c_14 => ?_)
      · have hf := hf.trans (if_pos c_14)
        exact hK_1 _ (lv_sub hl [0, 1, 2] rfl) hf
      · have hf := hf.trans (if_neg c_14)
        refine lv_aload_n hx hb d_XOc_translate_7 rfl (lv_at hl 0 rfl) ?_
        refine va_get (v := .ref (a 2)) hx hb hts iX_Oc hown hw.2.1 hw.1 10 rfl rfl 1 (by decide) (hts _ kX_Oc_21) (fun _ h => h) rfl d_XOc_translate_8 ?_
        refine lv_aload_n hx hb d_XOc_translate_11 rfl (lv_at hl 0 rfl) ?_
        refine lv_aload_n hx hb d_XOc_translate_12 rfl (lv_at hl 1 rfl) ?_
        refine lv_iload_n hx hb d_XOc_translate_13 rfl (lv_at hl 3 rfl) ?_
        refine z_ri (z_runV (As := [.ref (a 6), .int x_11]) (rest := [.ref (a 2)]) ⟨hx, hb, hml, hown, hts⟩ (c_XOc_entry l D a k u0 x_11) (qX_Oc_83 hts (by decide)) hw 10 rfl rfl hl.1 rfl (lv_room (Nat.le_of_ble_eq_true rfl)) d_XOc_translate_14 hcs) (fun x_15 ex_15 => ?_)
        have hf := hf.trans (nm_eq ex_15)
        refine lv_iconst (v := (1 : Int32)) hx hb d_XOc_translate_17 (by decide) ?_
        refine z_rz (z_runV (As := [.int x_15, .int (1 : Int32)]) (rest := []) ⟨hx, hb, hml, hown, hts⟩ (c_XMe_holds l D a k u0 x_15 (1 : Int32)) (qX_Oc_28 hts (by decide)) hw 2 rfl rfl hl.1 rfl (lv_room (Nat.le_of_ble_eq_true rfl)) d_XOc_translate_18 hcs) (fun z_16 ez_16 => ?_)
        have hf := hf.trans (nm_eq ez_16)
        refine lv_if_ne (tgt := 26) hx hb d_XOc_translate_21 (by decide) (fun c_17 => ?_) (fun c_17 => ?_)
        · have hf := hf.trans (if_neg c_17)
          obtain ⟨x_18, ex_18⟩ : ∃ y : Int32, y = x_11 + (1 : Int32) := ⟨_, rfl⟩
          have hf := hf.trans (nm_eq ex_18)
          refine lv_iinc (v := x_18) (lv' := [(3, .int x_18), (0, .ref (a 10)), (1, .ref (a 6)), (2, .int x2)]) hx hb d_XOc_translate_26 hl (k := 3) rfl (by rw [ex_18]; rfl) (by decide) rfl (fun ls hl => ?_)
          refine lv_goto (tgt := 2) hx hb d_XOc_translate_29 (by decide) ?_
          exact hL_12 x_18 (mu_up c_14 ex_18 hn) _ (lv_sub hl [1, 2, 3, 0] rfl) hf
        · have hf := hf.trans (if_pos c_17)
          refine lv_iconst (v := (5 : Int32)) hx hb d_XOc_translate_24 (by decide) ?_
          exact hret (5 : Int32) _ _ _ _ _ d_XOc_translate_25 hw hS hf
def g_XOc_compare_5 (x2 : Int32) (K_2 : Int32 → Int32 × XS) (u0 : XS) (L_6 : Int32 → Int32 → Int32 × XS) : Int32 → Int32 → Int32 × XS := fun x_4 x_5 => if x2 ≤ x_5 then K_2 x_4 else if x_4 = (0 : Int32) then nm (f_XMe_get u0 ((xF u0 8) + x_5)) (fun (x_10 : Int32) => nm (f_XMe_get u0 ((xF u0 9) + x_5)) (fun (x_11 : Int32) => nm (x_10 - x_11) (fun (x_12 : Int32) => nm (x_5 + (1 : Int32)) (fun (x_13 : Int32) => L_6 x_12 x_13)))) else K_2 x_4
def f_XOc_compare (u0 : XS) (x2 : Int32) : Int32 × XS := jn (fun (K_2 : Int32 → Int32 × XS) => lpN ((Int32.toInt x2 - Int32.toInt (0 : Int32)).toNat + 1) (g_XOc_compare_5 x2 K_2 u0) (fun _ _ => default) (0 : Int32) (0 : Int32)) (fun (x_1 : Int32) => nm (f_XSt_conditionBySign u0 (Int32.toInt64 x_1)) (fun (u_3 : XS) => ((0 : Int32), u_3)))
set_option maxHeartbeats 4000000 in
set_option maxRecDepth 100000 in
theorem c_XOc_compare (l : Launch) (D : va_G) (a : Nat → Nat) (k : Nat → ClassId) (u0 : XS) (x2 : Int32) : zMi l y_XOc_compare w_XOc_compare rm_XOc_compare D clX (tyX k) nwX (xW a k) [.ref (a 10), .ref (a 6), .int x2] u0 (f_XOc_compare u0 x2) := by
  generalize hF : f_XOc_compare u0 x2 = F
  have hf := hF.symm
  unfold f_XOc_compare at hf
  refine zMi_of (cc := b_XOc_compare) (maxL := 5) (own := RX_Oc) (by decide) rfl rfl (Nat.le_of_ble_eq_true rfl) ?_
  intro p e R st m args below meth c A H locs Q ls hR hx hb hml hown hts hw hS hret hl
  subst hR
  have hcs : 0 ≤ (rm_XOc_compare).cells ∧ 0 ≤ (rm_XOc_compare).slots := ⟨Nat.zero_le _, Nat.zero_le _⟩
  have hl : lv_has ls 5 [(0, .ref (a 10)), (1, .ref (a 6)), (2, .int x2)] := hl
  refine lv_iconst (v := (0 : Int32)) hx hb d_XOc_compare_0 (by decide) ?_
  refine lv_istore_n (lv' := [(3, .int (0 : Int32)), (0, .ref (a 10)), (1, .ref (a 6)), (2, .int x2)]) hx hb d_XOc_compare_1 rfl hl (by decide) rfl (fun ls hl => ?_)
  refine lv_iconst (v := (0 : Int32)) hx hb d_XOc_compare_2 (by decide) ?_
  refine lv_istore (lv' := [(4, .int (0 : Int32)), (3, .int (0 : Int32)), (0, .ref (a 10)), (1, .ref (a 6)), (2, .int x2)]) hx hb d_XOc_compare_3 hl (by decide) rfl (fun ls hl => ?_)
  refine jn_cut hf (fun (K_2 : Int32 → Int32 × XS) => ∀ (x_1 : Int32), ∀ (ls : Array Slot), lv_has ls 5 [(0, .ref (a 10)), (3, .int x_1)] → F = K_2 x_1 → W p l e rm_XOc_compare st m args below meth c H locs 0 0 Q (F0 m 51 ls [])) ?_ ?_
  · intro x_1 ls hl hf
    refine lv_aload_n hx hb d_XOc_compare_51 rfl (lv_at hl 0 rfl) ?_
    refine va_get (v := .ref (a 1)) hx hb hts iX_Oc hown hw.2.1 hw.1 10 rfl rfl 0 (by decide) (hts _ kX_Oc_9) (fun _ h => h) rfl d_XOc_compare_52 ?_
    refine lv_iload_n hx hb d_XOc_compare_55 rfl (lv_at hl 1 rfl) ?_
    refine lv_i2l (v := Int32.toInt64 x_1) hx hb d_XOc_compare_56 rfl ?_
    refine z_wv (z_runV (As := [.long (Int32.toInt64 x_1)]) (rest := []) ⟨hx, hb, hml, hown, hts⟩ (c_XSt_conditionBySign l D a k u0 (Int32.toInt64 x_1)) (qX_Oc_55 hts (by decide)) hw 1 rfl rfl hl.1 rfl (lv_room (Nat.le_of_ble_eq_true rfl)) d_XOc_compare_57 hcs) hw hS (fun u_3 H locs eu_3 hw hS => ?_)
    have hf := hf.trans (nm_eq eu_3)
    refine lv_iconst (v := (0 : Int32)) hx hb d_XOc_compare_60 (by decide) ?_
    exact hret (0 : Int32) _ _ _ _ _ d_XOc_compare_61 hw hS hf
  · intro K_2 hK_2 hf
    refine lp_cut (fun (n_7 : Nat) (L_6 : Int32 → Int32 → Int32 × XS) => ∀ (x_4 : Int32) (x_5 : Int32), (Int32.toInt x2 - Int32.toInt x_5).toNat < n_7 → ∀ (ls : Array Slot), lv_has ls 5 [(0, .ref (a 10)), (1, .ref (a 6)), (2, .int x2), (3, .int x_4), (4, .int x_5)] → F = L_6 x_4 x_5 → W p l e rm_XOc_compare st m args below meth c H locs 0 0 Q (F0 m 5 ls [])) ?_ ?_ ((Int32.toInt x2 - Int32.toInt (0 : Int32)).toNat + 1) (0 : Int32) (0 : Int32) (Nat.lt_succ_self _) _ (lv_sub hl [2, 3, 4, 1, 0] rfl) hf
    · intro x_4 x_5 hn; exact absurd hn (Nat.not_lt_zero _)
    · intro n_7 L_6 hL_6 x_4 x_5 hn ls hl hf
      unfold g_XOc_compare_5 at hf
      refine lv_iload hx hb d_XOc_compare_5 (lv_at hl 4 rfl) ?_
      refine lv_iload_n hx hb d_XOc_compare_7 rfl (lv_at hl 2 rfl) ?_
      refine lv_icmp_ge (tgt := 51) hx hb d_XOc_compare_8 (by decide) (fun c_8 => ?_) (fun c_8 => ?_)
      · have hf := hf.trans (if_pos c_8)
        exact hK_2 x_4 _ (lv_sub hl [0, 3] rfl) hf
      · have hf := hf.trans (if_neg c_8)
        refine lv_iload_n hx hb d_XOc_compare_11 rfl (lv_at hl 3 rfl) ?_
        refine lv_if_ne (tgt := 51) hx hb d_XOc_compare_12 (by decide) (fun c_9 => ?_) (fun c_9 => ?_)
        · have hf := hf.trans (if_neg c_9)
          exact hK_2 x_4 _ (lv_sub hl [0, 3] rfl) hf
        · have hf := hf.trans (if_pos c_9)
          refine lv_aload_n hx hb d_XOc_compare_15 rfl (lv_at hl 0 rfl) ?_
          refine va_get (v := .ref (a 2)) hx hb hts iX_Oc hown hw.2.1 hw.1 10 rfl rfl 1 (by decide) (hts _ kX_Oc_21) (fun _ h => h) rfl d_XOc_compare_16 ?_
          refine lv_aload_n hx hb d_XOc_compare_19 rfl (lv_at hl 1 rfl) ?_
          refine va_getN (v := .int (xF u0 8)) hx hb hts iX_In hown hw.2.1 hw.1 6 rfl rfl 4 (by decide) (va_Nw.use rfl (hw.2.2.2 _ kX_Oc_22).2) (fun _ h => h) rfl d_XOc_compare_20 ?_
          refine lv_iload hx hb d_XOc_compare_23 (lv_at hl 4 rfl) ?_
          refine lv_iadd hx hb d_XOc_compare_25 ?_
          refine z_ri (z_runV (As := [.int ((xF u0 8) + x_5)]) (rest := []) ⟨hx, hb, hml, hown, hts⟩ (c_XMe_get l D a k u0 ((xF u0 8) + x_5)) (qX_Oc_34 hts (by decide)) hw 2 rfl rfl hl.1 rfl (lv_room (Nat.le_of_ble_eq_true rfl)) d_XOc_compare_26 hcs) (fun x_10 ex_10 => ?_)
          have hf := hf.trans (nm_eq ex_10)
          refine lv_aload_n hx hb d_XOc_compare_29 rfl (lv_at hl 0 rfl) ?_
          refine va_get (v := .ref (a 2)) hx hb hts iX_Oc hown hw.2.1 hw.1 10 rfl rfl 1 (by decide) (hts _ kX_Oc_21) (fun _ h => h) rfl d_XOc_compare_30 ?_
          refine lv_aload_n hx hb d_XOc_compare_33 rfl (lv_at hl 1 rfl) ?_
          refine va_getN (v := .int (xF u0 9)) hx hb hts iX_In hown hw.2.1 hw.1 6 rfl rfl 5 (by decide) (va_Nw.use rfl (hw.2.2.2 _ kX_Oc_63).2) (fun _ h => h) rfl d_XOc_compare_34 ?_
          refine lv_iload hx hb d_XOc_compare_37 (lv_at hl 4 rfl) ?_
          refine lv_iadd hx hb d_XOc_compare_39 ?_
          refine z_ri (z_runV (As := [.int ((xF u0 9) + x_5)]) (rest := [.int x_10]) ⟨hx, hb, hml, hown, hts⟩ (c_XMe_get l D a k u0 ((xF u0 9) + x_5)) (qX_Oc_34 hts (by decide)) hw 2 rfl rfl hl.1 rfl (lv_room (Nat.le_of_ble_eq_true rfl)) d_XOc_compare_40 hcs) (fun x_11 ex_11 => ?_)
          have hf := hf.trans (nm_eq ex_11)
          refine lv_isub hx hb d_XOc_compare_43 ?_
          refine lv_topi (fun x_12 ex_12 => ?_)
          have hf := hf.trans (nm_eq ex_12)
          refine lv_istore_n (lv' := [(3, .int x_12), (0, .ref (a 10)), (1, .ref (a 6)), (2, .int x2), (4, .int x_5)]) hx hb d_XOc_compare_44 rfl hl (by decide) rfl (fun ls hl => ?_)
          obtain ⟨x_13, ex_13⟩ : ∃ y : Int32, y = x_5 + (1 : Int32) := ⟨_, rfl⟩
          have hf := hf.trans (nm_eq ex_13)
          refine lv_iinc (v := x_13) (lv' := [(4, .int x_13), (3, .int x_12), (0, .ref (a 10)), (1, .ref (a 6)), (2, .int x2)]) hx hb d_XOc_compare_45 hl (k := 4) rfl (by rw [ex_13]; rfl) (by decide) rfl (fun ls hl => ?_)
          refine lv_goto (tgt := 5) hx hb d_XOc_compare_48 (by decide) ?_
          exact hL_6 x_12 x_13 (mu_up c_8 ex_13 hn) _ (lv_sub hl [2, 3, 4, 1, 0] rfl) hf
def f_XOc_join (u0 : XS) (x0 : Int32) (x1 : Int32) (x2 : Int32) : Int32 := if x0 = (209 : Int32) then ((x1 &&& (240 : Int32)) ||| (x2 &&& (15 : Int32))) else if x0 = (211 : Int32) then ((x1 &&& (15 : Int32)) ||| (x2 &&& (240 : Int32))) else if x0 = (212 : Int32) then (x1 &&& x2) else if x0 = (214 : Int32) then (x1 ||| x2) else if x0 = (215 : Int32) then (x1 ^^^ x2) else x2
set_option maxHeartbeats 4000000 in
set_option maxRecDepth 100000 in
theorem c_XOc_join (l : Launch) (D : va_G) (a : Nat → Nat) (k : Nat → ClassId) (u0 : XS) (x0 : Int32) (x1 : Int32) (x2 : Int32) : zRi l y_XOc_join w_XOc_join rm_XOc_join D clX (tyX k) nwX (xW a k) [.int x0, .int x1, .int x2] u0 (f_XOc_join u0 x0 x1 x2) := by
  generalize hF : f_XOc_join u0 x0 x1 x2 = F
  have hf := hF.symm
  unfold f_XOc_join at hf
  refine zRi_of (cc := b_XOc_join) (maxL := 3) (own := RX_Oc) (by decide) rfl rfl (Nat.le_of_ble_eq_true rfl) ?_
  intro p e R st m args below meth c H locs Q ls hR hx hb hml hown hts hw hret hl
  subst hR
  have hcs : 0 ≤ (rm_XOc_join).cells ∧ 0 ≤ (rm_XOc_join).slots := ⟨Nat.zero_le _, Nat.zero_le _⟩
  have hl : lv_has ls 3 [(0, .int x0), (1, .int x1), (2, .int x2)] := hl
  refine lv_iload_n hx hb d_XOc_join_0 rfl (lv_at hl 0 rfl) ?_
  by_cases c_1 : x0 = (209 : Int32)
  · have hf := hf.trans (if_pos c_1)
    refine lv_tableIn (off := 43) (tgt := 44) hx hb d_XOc_join_1 (by rw [c_1]; decide +kernel) (by rw [c_1]; decide +kernel) (by rw [c_1]; decide +kernel) (by decide) ?_
    refine lv_iload_n hx hb d_XOc_join_44 rfl (lv_at hl 1 rfl) ?_
    refine lv_sipush (v := (240 : Int32)) hx hb d_XOc_join_45 (by decide) ?_
    refine lv_iand hx hb d_XOc_join_48 ?_
    refine lv_iload_n hx hb d_XOc_join_49 rfl (lv_at hl 2 rfl) ?_
    refine lv_bipush (v := (15 : Int32)) hx hb d_XOc_join_50 (by decide) ?_
    refine lv_iand hx hb d_XOc_join_52 ?_
    refine lv_ior hx hb d_XOc_join_53 ?_
    exact hret ((x1 &&& (240 : Int32)) ||| (x2 &&& (15 : Int32))) _ _ d_XOc_join_54 hf
  have hf := hf.trans (if_neg c_1)
  by_cases c_2 : x0 = (210 : Int32)
  · have hf := hf.trans (if_neg (by rw [c_2]; decide))
    have hf := hf.trans (if_neg (by rw [c_2]; decide))
    have hf := hf.trans (if_neg (by rw [c_2]; decide))
    have hf := hf.trans (if_neg (by rw [c_2]; decide))
    refine lv_tableIn (off := 77) (tgt := 78) hx hb d_XOc_join_1 (by rw [c_2]; decide +kernel) (by rw [c_2]; decide +kernel) (by rw [c_2]; decide +kernel) (by decide) ?_
    refine lv_iload_n hx hb d_XOc_join_78 rfl (lv_at hl 2 rfl) ?_
    exact hret x2 _ _ d_XOc_join_79 hf
  by_cases c_3 : x0 = (211 : Int32)
  · have hf := hf.trans (if_pos c_3)
    refine lv_tableIn (off := 54) (tgt := 55) hx hb d_XOc_join_1 (by rw [c_3]; decide +kernel) (by rw [c_3]; decide +kernel) (by rw [c_3]; decide +kernel) (by decide) ?_
    refine lv_iload_n hx hb d_XOc_join_55 rfl (lv_at hl 1 rfl) ?_
    refine lv_bipush (v := (15 : Int32)) hx hb d_XOc_join_56 (by decide) ?_
    refine lv_iand hx hb d_XOc_join_58 ?_
    refine lv_iload_n hx hb d_XOc_join_59 rfl (lv_at hl 2 rfl) ?_
    refine lv_sipush (v := (240 : Int32)) hx hb d_XOc_join_60 (by decide) ?_
    refine lv_iand hx hb d_XOc_join_63 ?_
    refine lv_ior hx hb d_XOc_join_64 ?_
    exact hret ((x1 &&& (15 : Int32)) ||| (x2 &&& (240 : Int32))) _ _ d_XOc_join_65 hf
  have hf := hf.trans (if_neg c_3)
  by_cases c_4 : x0 = (212 : Int32)
  · have hf := hf.trans (if_pos c_4)
    refine lv_tableIn (off := 65) (tgt := 66) hx hb d_XOc_join_1 (by rw [c_4]; decide +kernel) (by rw [c_4]; decide +kernel) (by rw [c_4]; decide +kernel) (by decide) ?_
    refine lv_iload_n hx hb d_XOc_join_66 rfl (lv_at hl 1 rfl) ?_
    refine lv_iload_n hx hb d_XOc_join_67 rfl (lv_at hl 2 rfl) ?_
    refine lv_iand hx hb d_XOc_join_68 ?_
    exact hret (x1 &&& x2) _ _ d_XOc_join_69 hf
  have hf := hf.trans (if_neg c_4)
  by_cases c_5 : x0 = (213 : Int32)
  · have hf := hf.trans (if_neg (by rw [c_5]; decide))
    have hf := hf.trans (if_neg (by rw [c_5]; decide))
    refine lv_tableIn (off := 77) (tgt := 78) hx hb d_XOc_join_1 (by rw [c_5]; decide +kernel) (by rw [c_5]; decide +kernel) (by rw [c_5]; decide +kernel) (by decide) ?_
    refine lv_iload_n hx hb d_XOc_join_78 rfl (lv_at hl 2 rfl) ?_
    exact hret x2 _ _ d_XOc_join_79 hf
  by_cases c_6 : x0 = (214 : Int32)
  · have hf := hf.trans (if_pos c_6)
    refine lv_tableIn (off := 69) (tgt := 70) hx hb d_XOc_join_1 (by rw [c_6]; decide +kernel) (by rw [c_6]; decide +kernel) (by rw [c_6]; decide +kernel) (by decide) ?_
    refine lv_iload_n hx hb d_XOc_join_70 rfl (lv_at hl 1 rfl) ?_
    refine lv_iload_n hx hb d_XOc_join_71 rfl (lv_at hl 2 rfl) ?_
    refine lv_ior hx hb d_XOc_join_72 ?_
    exact hret (x1 ||| x2) _ _ d_XOc_join_73 hf
  have hf := hf.trans (if_neg c_6)
  by_cases c_7 : x0 = (215 : Int32)
  · have hf := hf.trans (if_pos c_7)
    refine lv_tableIn (off := 73) (tgt := 74) hx hb d_XOc_join_1 (by rw [c_7]; decide +kernel) (by rw [c_7]; decide +kernel) (by rw [c_7]; decide +kernel) (by decide) ?_
    refine lv_iload_n hx hb d_XOc_join_74 rfl (lv_at hl 1 rfl) ?_
    refine lv_iload_n hx hb d_XOc_join_75 rfl (lv_at hl 2 rfl) ?_
    refine lv_ixor hx hb d_XOc_join_76 ?_
    exact hret (x1 ^^^ x2) _ _ d_XOc_join_77 hf
  have hf := hf.trans (if_neg c_7)
  refine lv_tableOut (tgt := 78) hx hb d_XOc_join_1 (by have := lv_neT c_1 (a := 209) (by decide +kernel); have := lv_neT c_2 (a := 210) (by decide +kernel); have := lv_neT c_3 (a := 211) (by decide +kernel); have := lv_neT c_4 (a := 212) (by decide +kernel); have := lv_neT c_5 (a := 213) (by decide +kernel); have := lv_neT c_6 (a := 214) (by decide +kernel); have := lv_neT c_7 (a := 215) (by decide +kernel); omega) (by decide) ?_
  refine lv_iload_n hx hb d_XOc_join_78 rfl (lv_at hl 2 rfl) ?_
  exact hret x2 _ _ d_XOc_join_79 hf
def g_XOc_rewrite_5 (x2 : Int32) (K_3 : Int32 → XS → Int32 × XS) (L_9 : Int32 → Int32 → XS → Int32 × XS) : Int32 → Int32 → XS → Int32 × XS := fun x_6 x_7 u_8 => if x2 ≤ x_7 then K_3 x_6 u_8 else nm (f_XMe_get u_8 ((xF u_8 8) + x_7)) (fun (x_12 : Int32) => nm (f_XMe_get u_8 ((xF u_8 9) + x_7)) (fun (x_13 : Int32) => nm (f_XOc_join u_8 (xF u_8 4) x_12 x_13) (fun (x_14 : Int32) => nm (f_XMe_put u_8 ((xF u_8 8) + x_7) x_14) (fun (u_15 : XS) => nm (x_6 ||| x_14) (fun (x_16 : Int32) => nm (x_7 + (1 : Int32)) (fun (x_17 : Int32) => L_9 x_16 x_17 u_15))))))
def f_XOc_rewrite (u0 : XS) (x2 : Int32) : Int32 × XS := jn (fun (K_3 : Int32 → XS → Int32 × XS) => lpN ((Int32.toInt x2 - Int32.toInt (0 : Int32)).toNat + 1) (g_XOc_rewrite_5 x2 K_3) (fun _ _ _ => default) (0 : Int32) (0 : Int32) u0) (fun (x_1 : Int32) (u_2 : XS) => if (xF u_2 4) < (212 : Int32) then ((0 : Int32), u_2) else nm (f_XSt_conditionByBits u_2 x_1) (fun (u_5 : XS) => ((0 : Int32), u_5)))
set_option maxHeartbeats 4000000 in
set_option maxRecDepth 100000 in
theorem c_XOc_rewrite (l : Launch) (D : va_G) (a : Nat → Nat) (k : Nat → ClassId) (u0 : XS) (x2 : Int32) : zMi l y_XOc_rewrite w_XOc_rewrite rm_XOc_rewrite D clX (tyX k) nwX (xW a k) [.ref (a 10), .ref (a 6), .int x2] u0 (f_XOc_rewrite u0 x2) := by
  generalize hF : f_XOc_rewrite u0 x2 = F
  have hf := hF.symm
  unfold f_XOc_rewrite at hf
  refine zMi_of (cc := b_XOc_rewrite) (maxL := 6) (own := RX_Oc) (by decide) rfl rfl (Nat.le_of_ble_eq_true rfl) ?_
  intro p e R st m args below meth c A H locs Q ls hR hx hb hml hown hts hw hS hret hl
  subst hR
  have hcs : 0 ≤ (rm_XOc_rewrite).cells ∧ 0 ≤ (rm_XOc_rewrite).slots := ⟨Nat.zero_le _, Nat.zero_le _⟩
  have hl : lv_has ls 6 [(0, .ref (a 10)), (1, .ref (a 6)), (2, .int x2)] := hl
  refine lv_iconst (v := (0 : Int32)) hx hb d_XOc_rewrite_0 (by decide) ?_
  refine lv_istore_n (lv' := [(3, .int (0 : Int32)), (0, .ref (a 10)), (1, .ref (a 6)), (2, .int x2)]) hx hb d_XOc_rewrite_1 rfl hl (by decide) rfl (fun ls hl => ?_)
  refine lv_iconst (v := (0 : Int32)) hx hb d_XOc_rewrite_2 (by decide) ?_
  refine lv_istore (lv' := [(4, .int (0 : Int32)), (3, .int (0 : Int32)), (0, .ref (a 10)), (1, .ref (a 6)), (2, .int x2)]) hx hb d_XOc_rewrite_3 hl (by decide) rfl (fun ls hl => ?_)
  refine jn_cut hf (fun (K_3 : Int32 → XS → Int32 × XS) => ∀ (x_1 : Int32) (u_2 : XS), ∀ (H : Heap) (locs : List Loc), zW D clX (tyX k) nwX (xW a k) A st u_2 H → va_S A st.heap H locs → ∀ (ls : Array Slot), lv_has ls 6 [(0, .ref (a 10)), (1, .ref (a 6)), (3, .int x_1)] → F = K_3 x_1 u_2 → W p l e rm_XOc_rewrite st m args below meth c H locs 0 0 Q (F0 m 75 ls [])) ?_ ?_
  · intro x_1 u_2 H locs hw hS ls hl hf
    refine lv_aload_n hx hb d_XOc_rewrite_75 rfl (lv_at hl 1 rfl) ?_
    refine va_getN (v := .int (xF u_2 4)) hx hb hts iX_In hown hw.2.1 hw.1 6 rfl rfl 0 (by decide) (va_Nw.use rfl (hw.2.2.2 _ kX_Oc_38).2) (fun _ h => h) rfl d_XOc_rewrite_76 ?_
    refine lv_sipush (v := (212 : Int32)) hx hb d_XOc_rewrite_79 (by decide) ?_
    refine lv_icmp_lt (tgt := 93) hx hb d_XOc_rewrite_82 (by decide) (fun c_4 => ?_) (fun c_4 => ?_)
    · have hf := hf.trans (if_pos c_4)
      refine lv_iconst (v := (0 : Int32)) hx hb d_XOc_rewrite_93 (by decide) ?_
      exact hret (0 : Int32) _ _ _ _ _ d_XOc_rewrite_94 hw hS hf
    · have hf := hf.trans (if_neg c_4)
      refine lv_aload_n hx hb d_XOc_rewrite_85 rfl (lv_at hl 0 rfl) ?_
      refine va_get (v := .ref (a 1)) hx hb hts iX_Oc hown hw.2.1 hw.1 10 rfl rfl 0 (by decide) (hts _ kX_Oc_9) (fun _ h => h) rfl d_XOc_rewrite_86 ?_
      refine lv_iload_n hx hb d_XOc_rewrite_89 rfl (lv_at hl 2 rfl) ?_
      refine z_wv (z_runV (As := [.int x_1]) (rest := []) ⟨hx, hb, hml, hown, hts⟩ (c_XSt_conditionByBits l D a k u_2 x_1) (qX_Oc_75 hts (by decide)) hw 1 rfl rfl hl.1 rfl (lv_room (Nat.le_of_ble_eq_true rfl)) d_XOc_rewrite_90 hcs) hw hS (fun u_5 H locs eu_5 hw hS => ?_)
      have hf := hf.trans (nm_eq eu_5)
      refine lv_iconst (v := (0 : Int32)) hx hb d_XOc_rewrite_93 (by decide) ?_
      exact hret (0 : Int32) _ _ _ _ _ d_XOc_rewrite_94 hw hS hf
  · intro K_3 hK_3 hf
    refine lp_cut (fun (n_10 : Nat) (L_9 : Int32 → Int32 → XS → Int32 × XS) => ∀ (x_6 : Int32) (x_7 : Int32) (u_8 : XS), (Int32.toInt x2 - Int32.toInt x_7).toNat < n_10 → ∀ (H : Heap) (locs : List Loc), zW D clX (tyX k) nwX (xW a k) A st u_8 H → va_S A st.heap H locs → ∀ (ls : Array Slot), lv_has ls 6 [(0, .ref (a 10)), (1, .ref (a 6)), (2, .int x2), (3, .int x_6), (4, .int x_7)] → F = L_9 x_6 x_7 u_8 → W p l e rm_XOc_rewrite st m args below meth c H locs 0 0 Q (F0 m 5 ls [])) ?_ ?_ ((Int32.toInt x2 - Int32.toInt (0 : Int32)).toNat + 1) (0 : Int32) (0 : Int32) u0 (Nat.lt_succ_self _) _ _ hw hS _ (lv_sub hl [2, 3, 4, 1, 0] rfl) hf
    · intro x_6 x_7 u_8 hn; exact absurd hn (Nat.not_lt_zero _)
    · intro n_10 L_9 hL_9 x_6 x_7 u_8 hn H locs hw hS ls hl hf
      unfold g_XOc_rewrite_5 at hf
      refine lv_iload hx hb d_XOc_rewrite_5 (lv_at hl 4 rfl) ?_
      refine lv_iload_n hx hb d_XOc_rewrite_7 rfl (lv_at hl 2 rfl) ?_
      refine lv_icmp_ge (tgt := 75) hx hb d_XOc_rewrite_8 (by decide) (fun c_11 => ?_) (fun c_11 => ?_)
      · have hf := hf.trans (if_pos c_11)
        exact hK_3 x_6 u_8 _ _ hw hS _ (lv_sub hl [0, 1, 3] rfl) hf
      · have hf := hf.trans (if_neg c_11)
        refine lv_aload_n hx hb d_XOc_rewrite_11 rfl (lv_at hl 1 rfl) ?_
        refine va_getN (v := .int (xF u_8 4)) hx hb hts iX_In hown hw.2.1 hw.1 6 rfl rfl 0 (by decide) (va_Nw.use rfl (hw.2.2.2 _ kX_Oc_38).2) (fun _ h => h) rfl d_XOc_rewrite_12 ?_
        refine lv_aload_n hx hb d_XOc_rewrite_15 rfl (lv_at hl 0 rfl) ?_
        refine va_get (v := .ref (a 2)) hx hb hts iX_Oc hown hw.2.1 hw.1 10 rfl rfl 1 (by decide) (hts _ kX_Oc_21) (fun _ h => h) rfl d_XOc_rewrite_16 ?_
        refine lv_aload_n hx hb d_XOc_rewrite_19 rfl (lv_at hl 1 rfl) ?_
        refine va_getN (v := .int (xF u_8 8)) hx hb hts iX_In hown hw.2.1 hw.1 6 rfl rfl 4 (by decide) (va_Nw.use rfl (hw.2.2.2 _ kX_Oc_22).2) (fun _ h => h) rfl d_XOc_rewrite_20 ?_
        refine lv_iload hx hb d_XOc_rewrite_23 (lv_at hl 4 rfl) ?_
        refine lv_iadd hx hb d_XOc_rewrite_25 ?_
        refine z_ri (z_runV (As := [.int ((xF u_8 8) + x_7)]) (rest := [.int (xF u_8 4)]) ⟨hx, hb, hml, hown, hts⟩ (c_XMe_get l D a k u_8 ((xF u_8 8) + x_7)) (qX_Oc_34 hts (by decide)) hw 2 rfl rfl hl.1 rfl (lv_room (Nat.le_of_ble_eq_true rfl)) d_XOc_rewrite_26 hcs) (fun x_12 ex_12 => ?_)
        have hf := hf.trans (nm_eq ex_12)
        refine lv_aload_n hx hb d_XOc_rewrite_29 rfl (lv_at hl 0 rfl) ?_
        refine va_get (v := .ref (a 2)) hx hb hts iX_Oc hown hw.2.1 hw.1 10 rfl rfl 1 (by decide) (hts _ kX_Oc_21) (fun _ h => h) rfl d_XOc_rewrite_30 ?_
        refine lv_aload_n hx hb d_XOc_rewrite_33 rfl (lv_at hl 1 rfl) ?_
        refine va_getN (v := .int (xF u_8 9)) hx hb hts iX_In hown hw.2.1 hw.1 6 rfl rfl 5 (by decide) (va_Nw.use rfl (hw.2.2.2 _ kX_Oc_63).2) (fun _ h => h) rfl d_XOc_rewrite_34 ?_
        refine lv_iload hx hb d_XOc_rewrite_37 (lv_at hl 4 rfl) ?_
        refine lv_iadd hx hb d_XOc_rewrite_39 ?_
        refine z_ri (z_runV (As := [.int ((xF u_8 9) + x_7)]) (rest := [.int x_12, .int (xF u_8 4)]) ⟨hx, hb, hml, hown, hts⟩ (c_XMe_get l D a k u_8 ((xF u_8 9) + x_7)) (qX_Oc_34 hts (by decide)) hw 2 rfl rfl hl.1 rfl (lv_room (Nat.le_of_ble_eq_true rfl)) d_XOc_rewrite_40 hcs) (fun x_13 ex_13 => ?_)
        have hf := hf.trans (nm_eq ex_13)
        refine z_ri (z_runS (As := [.int (xF u_8 4), .int x_12, .int x_13]) (rest := []) ⟨hx, hb, hml, hown, hts⟩ (c_XOc_join l D a k u_8 (xF u_8 4) x_12 x_13) (qX_Oc_79 hts (by decide)) hw  hl.1 rfl (lv_room (Nat.le_of_ble_eq_true rfl)) d_XOc_rewrite_43 hcs) (fun x_14 ex_14 => ?_)
        have hf := hf.trans (nm_eq ex_14)
        refine lv_istore (lv' := [(5, .int x_14), (0, .ref (a 10)), (1, .ref (a 6)), (2, .int x2), (3, .int x_6), (4, .int x_7)]) hx hb d_XOc_rewrite_46 hl (by decide) rfl (fun ls hl => ?_)
        refine lv_aload_n hx hb d_XOc_rewrite_48 rfl (lv_at hl 1 rfl) ?_
        refine va_get (v := .ref (a 2)) hx hb hts iX_Oc hown hw.2.1 hw.1 10 rfl rfl 1 (by decide) (hts _ kX_Oc_21) (fun _ h => h) rfl d_XOc_rewrite_49 ?_
        refine lv_aload_n hx hb d_XOc_rewrite_52 rfl (lv_at hl 2 rfl) ?_
        refine va_getN (v := .int (xF u_8 8)) hx hb hts iX_In hown hw.2.1 hw.1 6 rfl rfl 4 (by decide) (va_Nw.use rfl (hw.2.2.2 _ kX_Oc_22).2) (fun _ h => h) rfl d_XOc_rewrite_53 ?_
        refine lv_iload hx hb d_XOc_rewrite_56 (lv_at hl 5 rfl) ?_
        refine lv_iadd hx hb d_XOc_rewrite_58 ?_
        refine lv_iload hx hb d_XOc_rewrite_59 (lv_at hl 0 rfl) ?_
        refine z_wv (z_runV (As := [.int ((xF u_8 8) + x_7), .int x_14]) (rest := []) ⟨hx, hb, hml, hown, hts⟩ (c_XMe_put l D a k u_8 ((xF u_8 8) + x_7) x_14) (qX_Oc_48 hts (by decide)) hw 2 rfl rfl hl.1 rfl (lv_room (Nat.le_of_ble_eq_true rfl)) d_XOc_rewrite_61 hcs) hw hS (fun u_15 H locs eu_15 hw hS => ?_)
        have hf := hf.trans (nm_eq eu_15)
        refine lv_iload_n hx hb d_XOc_rewrite_64 rfl (lv_at hl 4 rfl) ?_
        refine lv_iload hx hb d_XOc_rewrite_65 (lv_at hl 0 rfl) ?_
        refine lv_ior hx hb d_XOc_rewrite_67 ?_
        refine lv_topi (fun x_16 ex_16 => ?_)
        have hf := hf.trans (nm_eq ex_16)
        refine lv_istore_n (lv' := [(3, .int x_16), (5, .int x_14), (0, .ref (a 10)), (1, .ref (a 6)), (2, .int x2), (4, .int x_7)]) hx hb d_XOc_rewrite_68 rfl hl (by decide) rfl (fun ls hl => ?_)
        obtain ⟨x_17, ex_17⟩ : ∃ y : Int32, y = x_7 + (1 : Int32) := ⟨_, rfl⟩
        have hf := hf.trans (nm_eq ex_17)
        refine lv_iinc (v := x_17) (lv' := [(4, .int x_17), (3, .int x_16), (5, .int x_14), (0, .ref (a 10)), (1, .ref (a 6)), (2, .int x2)]) hx hb d_XOc_rewrite_69 hl (k := 5) rfl (by rw [ex_17]; rfl) (by decide) rfl (fun ls hl => ?_)
        refine lv_goto (tgt := 5) hx hb d_XOc_rewrite_72 (by decide) ?_
        exact hL_9 x_16 x_17 u_15 (mu_up c_11 ex_17 hn) _ _ hw hS _ (lv_sub hl [3, 4, 5, 1, 0] rfl) hf
def f_XOc_withField (u0 : XS)  : Int32 × XS := nm ((xF u0 5) + (1 : Int32)) (fun (x_1 : Int32) => nm (f_XMe_holds u0 (xF u0 8) x_1) (fun (z_2 : Bool) => if (bI z_2) = (0 : Int32) then ((5 : Int32), u0) else if (xF u0 4) = (220 : Int32) then pr (f_XOc_translate u0 x_1) (fun (x_13 : Int32) (u_12 : XS) => (x_13, u_12)) else nm (f_XMe_holds u0 (xF u0 9) x_1) (fun (z_5 : Bool) => if (bI z_5) = (0 : Int32) then ((5 : Int32), u0) else if (xF u0 4) = (213 : Int32) then pr (f_XOc_compare u0 x_1) (fun (x_11 : Int32) (u_10 : XS) => (x_11, u_10)) else pr (f_XOc_rewrite u0 x_1) (fun (x_9 : Int32) (u_8 : XS) => (x_9, u_8)))))
set_option maxHeartbeats 4000000 in
set_option maxRecDepth 100000 in
theorem c_XOc_withField (l : Launch) (D : va_G) (a : Nat → Nat) (k : Nat → ClassId) (u0 : XS)  : zMi l y_XOc_withField w_XOc_withField rm_XOc_withField D clX (tyX k) nwX (xW a k) [.ref (a 10), .ref (a 6)] u0 (f_XOc_withField u0) := by
  generalize hF : f_XOc_withField u0 = F
  have hf := hF.symm
  unfold f_XOc_withField at hf
  refine zMi_of (cc := b_XOc_withField) (maxL := 3) (own := RX_Oc) (by decide) rfl rfl (Nat.le_of_ble_eq_true rfl) ?_
  intro p e R st m args below meth c A H locs Q ls hR hx hb hml hown hts hw hS hret hl
  subst hR
  have hcs : 0 ≤ (rm_XOc_withField).cells ∧ 0 ≤ (rm_XOc_withField).slots := ⟨Nat.zero_le _, Nat.zero_le _⟩
  have hl : lv_has ls 3 [(0, .ref (a 10)), (1, .ref (a 6))] := hl
  refine lv_aload_n hx hb d_XOc_withField_0 rfl (lv_at hl 1 rfl) ?_
  refine va_getN (v := .int (xF u0 5)) hx hb hts iX_In hown hw.2.1 hw.1 6 rfl rfl 1 (by decide) (va_Nw.use rfl (hw.2.2.2 _ kX_Oc_41).2) (fun _ h => h) rfl d_XOc_withField_1 ?_
  refine lv_iconst (v := (1 : Int32)) hx hb d_XOc_withField_4 (by decide) ?_
  refine lv_iadd hx hb d_XOc_withField_5 ?_
  refine lv_topi (fun x_1 ex_1 => ?_)
  have hf := hf.trans (nm_eq ex_1)
  refine lv_istore_n (lv' := [(2, .int x_1), (0, .ref (a 10)), (1, .ref (a 6))]) hx hb d_XOc_withField_6 rfl hl (by decide) rfl (fun ls hl => ?_)
  refine lv_aload_n hx hb d_XOc_withField_7 rfl (lv_at hl 1 rfl) ?_
  refine va_get (v := .ref (a 2)) hx hb hts iX_Oc hown hw.2.1 hw.1 10 rfl rfl 1 (by decide) (hts _ kX_Oc_21) (fun _ h => h) rfl d_XOc_withField_8 ?_
  refine lv_aload_n hx hb d_XOc_withField_11 rfl (lv_at hl 2 rfl) ?_
  refine va_getN (v := .int (xF u0 8)) hx hb hts iX_In hown hw.2.1 hw.1 6 rfl rfl 4 (by decide) (va_Nw.use rfl (hw.2.2.2 _ kX_Oc_22).2) (fun _ h => h) rfl d_XOc_withField_12 ?_
  refine lv_iload_n hx hb d_XOc_withField_15 rfl (lv_at hl 0 rfl) ?_
  refine z_rz (z_runV (As := [.int (xF u0 8), .int x_1]) (rest := []) ⟨hx, hb, hml, hown, hts⟩ (c_XMe_holds l D a k u0 (xF u0 8) x_1) (qX_Oc_28 hts (by decide)) hw 2 rfl rfl hl.1 rfl (lv_room (Nat.le_of_ble_eq_true rfl)) d_XOc_withField_16 hcs) (fun z_2 ez_2 => ?_)
  have hf := hf.trans (nm_eq ez_2)
  refine lv_if_ne (tgt := 24) hx hb d_XOc_withField_19 (by decide) (fun c_3 => ?_) (fun c_3 => ?_)
  · have hf := hf.trans (if_neg c_3)
    refine lv_aload_n hx hb d_XOc_withField_24 rfl (lv_at hl 2 rfl) ?_
    refine va_getN (v := .int (xF u0 4)) hx hb hts iX_In hown hw.2.1 hw.1 6 rfl rfl 0 (by decide) (va_Nw.use rfl (hw.2.2.2 _ kX_Oc_38).2) (fun _ h => h) rfl d_XOc_withField_25 ?_
    refine lv_sipush (v := (220 : Int32)) hx hb d_XOc_withField_28 (by decide) ?_
    refine lv_icmp_ne (tgt := 41) hx hb d_XOc_withField_31 (by decide) (fun c_4 => ?_) (fun c_4 => ?_)
    · have hf := hf.trans (if_neg c_4)
      refine lv_aload_n hx hb d_XOc_withField_41 rfl (lv_at hl 1 rfl) ?_
      refine va_get (v := .ref (a 2)) hx hb hts iX_Oc hown hw.2.1 hw.1 10 rfl rfl 1 (by decide) (hts _ kX_Oc_21) (fun _ h => h) rfl d_XOc_withField_42 ?_
      refine lv_aload_n hx hb d_XOc_withField_45 rfl (lv_at hl 2 rfl) ?_
      refine va_getN (v := .int (xF u0 9)) hx hb hts iX_In hown hw.2.1 hw.1 6 rfl rfl 5 (by decide) (va_Nw.use rfl (hw.2.2.2 _ kX_Oc_63).2) (fun _ h => h) rfl d_XOc_withField_46 ?_
      refine lv_iload_n hx hb d_XOc_withField_49 rfl (lv_at hl 0 rfl) ?_
      refine z_rz (z_runV (As := [.int (xF u0 9), .int x_1]) (rest := []) ⟨hx, hb, hml, hown, hts⟩ (c_XMe_holds l D a k u0 (xF u0 9) x_1) (qX_Oc_28 hts (by decide)) hw 2 rfl rfl hl.1 rfl (lv_room (Nat.le_of_ble_eq_true rfl)) d_XOc_withField_50 hcs) (fun z_5 ez_5 => ?_)
      have hf := hf.trans (nm_eq ez_5)
      refine lv_if_ne (tgt := 58) hx hb d_XOc_withField_53 (by decide) (fun c_6 => ?_) (fun c_6 => ?_)
      · have hf := hf.trans (if_neg c_6)
        refine lv_aload_n hx hb d_XOc_withField_58 rfl (lv_at hl 2 rfl) ?_
        refine va_getN (v := .int (xF u0 4)) hx hb hts iX_In hown hw.2.1 hw.1 6 rfl rfl 0 (by decide) (va_Nw.use rfl (hw.2.2.2 _ kX_Oc_38).2) (fun _ h => h) rfl d_XOc_withField_59 ?_
        refine lv_sipush (v := (213 : Int32)) hx hb d_XOc_withField_62 (by decide) ?_
        refine lv_icmp_ne (tgt := 77) hx hb d_XOc_withField_65 (by decide) (fun c_7 => ?_) (fun c_7 => ?_)
        · have hf := hf.trans (if_neg c_7)
          refine lv_aload_n hx hb d_XOc_withField_77 rfl (lv_at hl 1 rfl) ?_
          refine lv_aload_n hx hb d_XOc_withField_78 rfl (lv_at hl 2 rfl) ?_
          refine lv_iload_n hx hb d_XOc_withField_79 rfl (lv_at hl 0 rfl) ?_
          refine z_wi (z_runV (As := [.ref (a 6), .int x_1]) (rest := []) ⟨hx, hb, hml, hown, hts⟩ (c_XOc_rewrite l D a k u0 x_1) (qX_Oc_69 hts (by decide)) hw 10 rfl rfl hl.1 rfl (lv_room (Nat.le_of_ble_eq_true rfl)) d_XOc_withField_80 hcs) hw hS (fun x_9 u_8 H locs ex_9 hw hS => ?_)
          have hf := hf.trans (pr_eq ex_9)
          exact hret x_9 _ _ _ _ _ d_XOc_withField_83 hw hS hf
        · have hf := hf.trans (if_pos c_7)
          refine lv_aload_n hx hb d_XOc_withField_68 rfl (lv_at hl 1 rfl) ?_
          refine lv_aload_n hx hb d_XOc_withField_69 rfl (lv_at hl 2 rfl) ?_
          refine lv_iload_n hx hb d_XOc_withField_70 rfl (lv_at hl 0 rfl) ?_
          refine z_wi (z_runV (As := [.ref (a 6), .int x_1]) (rest := []) ⟨hx, hb, hml, hown, hts⟩ (c_XOc_compare l D a k u0 x_1) (qX_Oc_66 hts (by decide)) hw 10 rfl rfl hl.1 rfl (lv_room (Nat.le_of_ble_eq_true rfl)) d_XOc_withField_71 hcs) hw hS (fun x_11 u_10 H locs ex_11 hw hS => ?_)
          have hf := hf.trans (pr_eq ex_11)
          refine lv_goto (tgt := 83) hx hb d_XOc_withField_74 (by decide) ?_
          exact hret x_11 _ _ _ _ _ d_XOc_withField_83 hw hS hf
      · have hf := hf.trans (if_pos c_6)
        refine lv_iconst (v := (5 : Int32)) hx hb d_XOc_withField_56 (by decide) ?_
        exact hret (5 : Int32) _ _ _ _ _ d_XOc_withField_57 hw hS hf
    · have hf := hf.trans (if_pos c_4)
      refine lv_aload_n hx hb d_XOc_withField_34 rfl (lv_at hl 1 rfl) ?_
      refine lv_aload_n hx hb d_XOc_withField_35 rfl (lv_at hl 2 rfl) ?_
      refine lv_iload_n hx hb d_XOc_withField_36 rfl (lv_at hl 0 rfl) ?_
      refine z_wi (z_runV (As := [.ref (a 6), .int x_1]) (rest := []) ⟨hx, hb, hml, hown, hts⟩ (c_XOc_translate l D a k u0 x_1) (qX_Oc_59 hts (by decide)) hw 10 rfl rfl hl.1 rfl (lv_room (Nat.le_of_ble_eq_true rfl)) d_XOc_withField_37 hcs) hw hS (fun x_13 u_12 H locs ex_13 hw hS => ?_)
      have hf := hf.trans (pr_eq ex_13)
      exact hret x_13 _ _ _ _ _ d_XOc_withField_40 hw hS hf
  · have hf := hf.trans (if_pos c_3)
    refine lv_iconst (v := (5 : Int32)) hx hb d_XOc_withField_22 (by decide) ?_
    exact hret (5 : Int32) _ _ _ _ _ d_XOc_withField_23 hw hS hf
end
section
def f_XTr_store (u0 : XS) (x2 : Int32) : Int32 × XS := nm (f_XMe_faultOf u0 (xF u0 9) x2) (fun (x_1 : Int32) => if x_1 = (0 : Int32) then nm (f_XSt_value u0 (xF u0 6)) (fun (x_3 : Int32) => nm (f_XMe_store u0 (xF u0 9) x2 (Int32.toInt64 x_3)) (fun (u_4 : XS) => (x_1, u_4))) else (x_1, u0))
set_option maxHeartbeats 4000000 in
set_option maxRecDepth 100000 in
theorem c_XTr_store (l : Launch) (D : va_G) (a : Nat → Nat) (k : Nat → ClassId) (u0 : XS) (x2 : Int32) : zMi l y_XTr_store w_XTr_store rm_XTr_store D clX (tyX k) nwX (xW a k) [.ref (a 8), .ref (a 6), .int x2] u0 (f_XTr_store u0 x2) := by
  generalize hF : f_XTr_store u0 x2 = F
  have hf := hF.symm
  unfold f_XTr_store at hf
  refine zMi_of (cc := b_XTr_store) (maxL := 4) (own := RX_Tr) (by decide) rfl rfl (Nat.le_of_ble_eq_true rfl) ?_
  intro p e R st m args below meth c A H locs Q ls hR hx hb hml hown hts hw hS hret hl
  subst hR
  have hcs : 0 ≤ (rm_XTr_store).cells ∧ 0 ≤ (rm_XTr_store).slots := ⟨Nat.zero_le _, Nat.zero_le _⟩
  have hl : lv_has ls 4 [(0, .ref (a 8)), (1, .ref (a 6)), (2, .int x2)] := hl
  refine lv_aload_n hx hb d_XTr_store_0 rfl (lv_at hl 0 rfl) ?_
  refine va_get (v := .ref (a 1)) hx hb hts iX_Tr hown hw.2.1 hw.1 8 rfl rfl 0 (by decide) (hts _ kX_Tr_9) (fun _ h => h) rfl d_XTr_store_1 ?_
  refine va_getN (v := .ref (a 2)) hx hb hts iX_St hown hw.2.1 hw.1 1 rfl rfl 0 (by decide) (va_Nw.use rfl (hw.2.2.2 _ kX_Tr_44).2) (fun _ h => h) rfl d_XTr_store_4 ?_
  refine lv_aload_n hx hb d_XTr_store_7 rfl (lv_at hl 1 rfl) ?_
  refine va_getN (v := .int (xF u0 9)) hx hb hts iX_In hown hw.2.1 hw.1 6 rfl rfl 5 (by decide) (va_Nw.use rfl (hw.2.2.2 _ kX_Tr_28).2) (fun _ h => h) rfl d_XTr_store_8 ?_
  refine lv_iload_n hx hb d_XTr_store_11 rfl (lv_at hl 2 rfl) ?_
  refine z_ri (z_runV (As := [.int (xF u0 9), .int x2]) (rest := []) ⟨hx, hb, hml, hown, hts⟩ (c_XMe_faultOf l D a k u0 (xF u0 9) x2) (qX_Tr_48 hts (by decide)) hw 2 rfl rfl hl.1 rfl (lv_room (Nat.le_of_ble_eq_true rfl)) d_XTr_store_12 hcs) (fun x_1 ex_1 => ?_)
  have hf := hf.trans (nm_eq ex_1)
  refine lv_istore_n (lv' := [(3, .int x_1), (0, .ref (a 8)), (1, .ref (a 6)), (2, .int x2)]) hx hb d_XTr_store_15 rfl hl (by decide) rfl (fun ls hl => ?_)
  refine lv_iload_n hx hb d_XTr_store_16 rfl (lv_at hl 0 rfl) ?_
  refine lv_if_ne (tgt := 47) hx hb d_XTr_store_17 (by decide) (fun c_2 => ?_) (fun c_2 => ?_)
  · have hf := hf.trans (if_neg c_2)
    refine lv_iload_n hx hb d_XTr_store_47 rfl (lv_at hl 0 rfl) ?_
    exact hret x_1 _ _ _ _ _ d_XTr_store_48 hw hS hf
  · have hf := hf.trans (if_pos c_2)
    refine lv_aload_n hx hb d_XTr_store_20 rfl (lv_at hl 1 rfl) ?_
    refine va_get (v := .ref (a 1)) hx hb hts iX_Tr hown hw.2.1 hw.1 8 rfl rfl 0 (by decide) (hts _ kX_Tr_9) (fun _ h => h) rfl d_XTr_store_21 ?_
    refine va_getN (v := .ref (a 2)) hx hb hts iX_St hown hw.2.1 hw.1 1 rfl rfl 0 (by decide) (va_Nw.use rfl (hw.2.2.2 _ kX_Tr_44).2) (fun _ h => h) rfl d_XTr_store_24 ?_
    refine lv_aload_n hx hb d_XTr_store_27 rfl (lv_at hl 2 rfl) ?_
    refine va_getN (v := .int (xF u0 9)) hx hb hts iX_In hown hw.2.1 hw.1 6 rfl rfl 5 (by decide) (va_Nw.use rfl (hw.2.2.2 _ kX_Tr_28).2) (fun _ h => h) rfl d_XTr_store_28 ?_
    refine lv_iload_n hx hb d_XTr_store_31 rfl (lv_at hl 3 rfl) ?_
    refine lv_aload_n hx hb d_XTr_store_32 rfl (lv_at hl 1 rfl) ?_
    refine va_get (v := .ref (a 1)) hx hb hts iX_Tr hown hw.2.1 hw.1 8 rfl rfl 0 (by decide) (hts _ kX_Tr_9) (fun _ h => h) rfl d_XTr_store_33 ?_
    refine lv_aload_n hx hb d_XTr_store_36 rfl (lv_at hl 2 rfl) ?_
    refine va_getN (v := .int (xF u0 6)) hx hb hts iX_In hown hw.2.1 hw.1 6 rfl rfl 2 (by decide) (va_Nw.use rfl (hw.2.2.2 _ kX_Tr_25).2) (fun _ h => h) rfl d_XTr_store_37 ?_
    refine z_ri (z_runV (As := [.int (xF u0 6)]) (rest := [.int x2, .int (xF u0 9), .ref (a 2)]) ⟨hx, hb, hml, hown, hts⟩ (c_XSt_value l D a k u0 (xF u0 6)) (qX_Tr_54 hts (by decide)) hw 1 rfl rfl hl.1 rfl (lv_room (Nat.le_of_ble_eq_true rfl)) d_XTr_store_40 hcs) (fun x_3 ex_3 => ?_)
    have hf := hf.trans (nm_eq ex_3)
    refine lv_i2l (v := Int32.toInt64 x_3) hx hb d_XTr_store_43 rfl ?_
    refine z_wv (z_runV (As := [.int (xF u0 9), .int x2, .long (Int32.toInt64 x_3)]) (rest := []) ⟨hx, hb, hml, hown, hts⟩ (c_XMe_store l D a k u0 (xF u0 9) x2 (Int32.toInt64 x_3)) (qX_Tr_58 hts (by decide)) hw 2 rfl rfl hl.1 rfl (lv_room (Nat.le_of_ble_eq_true rfl)) d_XTr_store_44 hcs) hw hS (fun u_4 H locs eu_4 hw hS => ?_)
    have hf := hf.trans (nm_eq eu_4)
    refine lv_iload_n hx hb d_XTr_store_47 rfl (lv_at hl 0 rfl) ?_
    exact hret x_1 _ _ _ _ _ d_XTr_store_48 hw hS hf
def f_XTr_insert (u0 : XS)  : Int32 × XS := nm (f_XMe_holds u0 (xF u0 9) (1 : Int32)) (fun (z_1 : Bool) => if (bI z_1) = (0 : Int32) then ((5 : Int32), u0) else nm (f_XSt_value u0 (xF u0 6)) (fun (x_3 : Int32) => nm (f_XMe_get u0 (xF u0 9)) (fun (x_4 : Int32) => nm (f_XSt_put u0 (xF u0 6) ((x_3 &&& (-256 : Int32)) ||| x_4)) (fun (u_5 : XS) => ((0 : Int32), u_5)))))
set_option maxHeartbeats 4000000 in
set_option maxRecDepth 100000 in
theorem c_XTr_insert (l : Launch) (D : va_G) (a : Nat → Nat) (k : Nat → ClassId) (u0 : XS)  : zMi l y_XTr_insert w_XTr_insert rm_XTr_insert D clX (tyX k) nwX (xW a k) [.ref (a 8), .ref (a 6)] u0 (f_XTr_insert u0) := by
  generalize hF : f_XTr_insert u0 = F
  have hf := hF.symm
  unfold f_XTr_insert at hf
  refine zMi_of (cc := b_XTr_insert) (maxL := 2) (own := RX_Tr) (by decide) rfl rfl (Nat.le_of_ble_eq_true rfl) ?_
  intro p e R st m args below meth c A H locs Q ls hR hx hb hml hown hts hw hS hret hl
  subst hR
  have hcs : 0 ≤ (rm_XTr_insert).cells ∧ 0 ≤ (rm_XTr_insert).slots := ⟨Nat.zero_le _, Nat.zero_le _⟩
  have hl : lv_has ls 2 [(0, .ref (a 8)), (1, .ref (a 6))] := hl
  refine lv_aload_n hx hb d_XTr_insert_0 rfl (lv_at hl 0 rfl) ?_
  refine va_get (v := .ref (a 1)) hx hb hts iX_Tr hown hw.2.1 hw.1 8 rfl rfl 0 (by decide) (hts _ kX_Tr_9) (fun _ h => h) rfl d_XTr_insert_1 ?_
  refine va_getN (v := .ref (a 2)) hx hb hts iX_St hown hw.2.1 hw.1 1 rfl rfl 0 (by decide) (va_Nw.use rfl (hw.2.2.2 _ kX_Tr_44).2) (fun _ h => h) rfl d_XTr_insert_4 ?_
  refine lv_aload_n hx hb d_XTr_insert_7 rfl (lv_at hl 1 rfl) ?_
  refine va_getN (v := .int (xF u0 9)) hx hb hts iX_In hown hw.2.1 hw.1 6 rfl rfl 5 (by decide) (va_Nw.use rfl (hw.2.2.2 _ kX_Tr_28).2) (fun _ h => h) rfl d_XTr_insert_8 ?_
  refine lv_iconst (v := (1 : Int32)) hx hb d_XTr_insert_11 (by decide) ?_
  refine z_rz (z_runV (As := [.int (xF u0 9), .int (1 : Int32)]) (rest := []) ⟨hx, hb, hml, hown, hts⟩ (c_XMe_holds l D a k u0 (xF u0 9) (1 : Int32)) (qX_Tr_61 hts (by decide)) hw 2 rfl rfl hl.1 rfl (lv_room (Nat.le_of_ble_eq_true rfl)) d_XTr_insert_12 hcs) (fun z_1 ez_1 => ?_)
  have hf := hf.trans (nm_eq ez_1)
  refine lv_if_ne (tgt := 20) hx hb d_XTr_insert_15 (by decide) (fun c_2 => ?_) (fun c_2 => ?_)
  · have hf := hf.trans (if_neg c_2)
    refine lv_aload_n hx hb d_XTr_insert_20 rfl (lv_at hl 0 rfl) ?_
    refine va_get (v := .ref (a 1)) hx hb hts iX_Tr hown hw.2.1 hw.1 8 rfl rfl 0 (by decide) (hts _ kX_Tr_9) (fun _ h => h) rfl d_XTr_insert_21 ?_
    refine lv_aload_n hx hb d_XTr_insert_24 rfl (lv_at hl 1 rfl) ?_
    refine va_getN (v := .int (xF u0 6)) hx hb hts iX_In hown hw.2.1 hw.1 6 rfl rfl 2 (by decide) (va_Nw.use rfl (hw.2.2.2 _ kX_Tr_25).2) (fun _ h => h) rfl d_XTr_insert_25 ?_
    refine lv_aload_n hx hb d_XTr_insert_28 rfl (lv_at hl 0 rfl) ?_
    refine va_get (v := .ref (a 1)) hx hb hts iX_Tr hown hw.2.1 hw.1 8 rfl rfl 0 (by decide) (hts _ kX_Tr_9) (fun _ h => h) rfl d_XTr_insert_29 ?_
    refine lv_aload_n hx hb d_XTr_insert_32 rfl (lv_at hl 1 rfl) ?_
    refine va_getN (v := .int (xF u0 6)) hx hb hts iX_In hown hw.2.1 hw.1 6 rfl rfl 2 (by decide) (va_Nw.use rfl (hw.2.2.2 _ kX_Tr_25).2) (fun _ h => h) rfl d_XTr_insert_33 ?_
    refine z_ri (z_runV (As := [.int (xF u0 6)]) (rest := [.int (xF u0 6), .ref (a 1)]) ⟨hx, hb, hml, hown, hts⟩ (c_XSt_value l D a k u0 (xF u0 6)) (qX_Tr_54 hts (by decide)) hw 1 rfl rfl hl.1 rfl (lv_room (Nat.le_of_ble_eq_true rfl)) d_XTr_insert_36 hcs) (fun x_3 ex_3 => ?_)
    have hf := hf.trans (nm_eq ex_3)
    refine lv_sipush (v := (-256 : Int32)) hx hb d_XTr_insert_39 (by decide) ?_
    refine lv_iand hx hb d_XTr_insert_42 ?_
    refine lv_aload_n hx hb d_XTr_insert_43 rfl (lv_at hl 0 rfl) ?_
    refine va_get (v := .ref (a 1)) hx hb hts iX_Tr hown hw.2.1 hw.1 8 rfl rfl 0 (by decide) (hts _ kX_Tr_9) (fun _ h => h) rfl d_XTr_insert_44 ?_
    refine va_getN (v := .ref (a 2)) hx hb hts iX_St hown hw.2.1 hw.1 1 rfl rfl 0 (by decide) (va_Nw.use rfl (hw.2.2.2 _ kX_Tr_44).2) (fun _ h => h) rfl d_XTr_insert_47 ?_
    refine lv_aload_n hx hb d_XTr_insert_50 rfl (lv_at hl 1 rfl) ?_
    refine va_getN (v := .int (xF u0 9)) hx hb hts iX_In hown hw.2.1 hw.1 6 rfl rfl 5 (by decide) (va_Nw.use rfl (hw.2.2.2 _ kX_Tr_28).2) (fun _ h => h) rfl d_XTr_insert_51 ?_
    refine z_ri (z_runV (As := [.int (xF u0 9)]) (rest := [.int (x_3 &&& (-256 : Int32)), .int (xF u0 6), .ref (a 1)]) ⟨hx, hb, hml, hown, hts⟩ (c_XMe_get l D a k u0 (xF u0 9)) (qX_Tr_65 hts (by decide)) hw 2 rfl rfl hl.1 rfl (lv_room (Nat.le_of_ble_eq_true rfl)) d_XTr_insert_54 hcs) (fun x_4 ex_4 => ?_)
    have hf := hf.trans (nm_eq ex_4)
    refine lv_ior hx hb d_XTr_insert_57 ?_
    refine z_wv (z_runV (As := [.int (xF u0 6), .int ((x_3 &&& (-256 : Int32)) ||| x_4)]) (rest := []) ⟨hx, hb, hml, hown, hts⟩ (c_XSt_put l D a k u0 (xF u0 6) ((x_3 &&& (-256 : Int32)) ||| x_4)) (qX_Tr_31 hts (by decide)) hw 1 rfl rfl hl.1 rfl (lv_room (Nat.le_of_ble_eq_true rfl)) d_XTr_insert_58 hcs) hw hS (fun u_5 H locs eu_5 hw hS => ?_)
    have hf := hf.trans (nm_eq eu_5)
    refine lv_iconst (v := (0 : Int32)) hx hb d_XTr_insert_61 (by decide) ?_
    exact hret (0 : Int32) _ _ _ _ _ d_XTr_insert_62 hw hS hf
  · have hf := hf.trans (if_pos c_2)
    refine lv_iconst (v := (5 : Int32)) hx hb d_XTr_insert_18 (by decide) ?_
    exact hret (5 : Int32) _ _ _ _ _ d_XTr_insert_19 hw hS hf
def g_XTr_several_51 (x_1 : Int32) (L_7 : Int32 → XS → Int32 × XS) : Int32 → XS → Int32 × XS := fun x_5 u_6 => if x_1 ≤ x_5 then ((0 : Int32), u_6) else nm (((xF u_6 6) + x_5) &&& (15 : Int32)) (fun (x_10 : Int32) => jn (fun (K_12 : XS → Int32 × XS) => if (xF u_6 4) = (144 : Int32) then nm (f_XSt_value u_6 x_10) (fun (x_17 : Int32) => nm (f_XMe_store u_6 ((xF u_6 9) + ((4 : Int32) * x_5)) (4 : Int32) (Int32.toInt64 x_17)) (fun (u_18 : XS) => K_12 u_18)) else nm (f_XMe_word u_6 ((xF u_6 9) + ((4 : Int32) * x_5))) (fun (x_15 : Int32) => nm (f_XSt_put u_6 x_10 x_15) (fun (u_16 : XS) => K_12 u_16))) (fun (u_11 : XS) => nm (x_5 + (1 : Int32)) (fun (x_13 : Int32) => L_7 x_13 u_11)))
def f_XTr_several (u0 : XS)  : Int32 × XS := nm ((((xF u0 7) - (xF u0 6)) &&& (15 : Int32)) + (1 : Int32)) (fun (x_1 : Int32) => if ((xF u0 9) &&& (3 : Int32)) = (0 : Int32) then nm (f_XMe_holds u0 (xF u0 9) ((4 : Int32) * x_1)) (fun (z_3 : Bool) => if (bI z_3) = (0 : Int32) then ((5 : Int32), u0) else lpN ((Int32.toInt x_1 - Int32.toInt (0 : Int32)).toNat + 1) (g_XTr_several_51 x_1) (fun _ _ => default) (0 : Int32) u0) else ((6 : Int32), u0))
set_option maxHeartbeats 4000000 in
set_option maxRecDepth 100000 in
theorem c_XTr_several (l : Launch) (D : va_G) (a : Nat → Nat) (k : Nat → ClassId) (u0 : XS)  : zMi l y_XTr_several w_XTr_several rm_XTr_several D clX (tyX k) nwX (xW a k) [.ref (a 8), .ref (a 6)] u0 (f_XTr_several u0) := by
  generalize hF : f_XTr_several u0 = F
  have hf := hF.symm
  unfold f_XTr_several at hf
  refine zMi_of (cc := b_XTr_several) (maxL := 5) (own := RX_Tr) (by decide) rfl rfl (Nat.le_of_ble_eq_true rfl) ?_
  intro p e R st m args below meth c A H locs Q ls hR hx hb hml hown hts hw hS hret hl
  subst hR
  have hcs : 0 ≤ (rm_XTr_several).cells ∧ 0 ≤ (rm_XTr_several).slots := ⟨Nat.zero_le _, Nat.zero_le _⟩
  have hl : lv_has ls 5 [(0, .ref (a 8)), (1, .ref (a 6))] := hl
  refine lv_aload_n hx hb d_XTr_several_0 rfl (lv_at hl 1 rfl) ?_
  refine va_getN (v := .int (xF u0 7)) hx hb hts iX_In hown hw.2.1 hw.1 6 rfl rfl 3 (by decide) (va_Nw.use rfl (hw.2.2.2 _ kX_Tr_68).2) (fun _ h => h) rfl d_XTr_several_1 ?_
  refine lv_aload_n hx hb d_XTr_several_4 rfl (lv_at hl 1 rfl) ?_
  refine va_getN (v := .int (xF u0 6)) hx hb hts iX_In hown hw.2.1 hw.1 6 rfl rfl 2 (by decide) (va_Nw.use rfl (hw.2.2.2 _ kX_Tr_25).2) (fun _ h => h) rfl d_XTr_several_5 ?_
  refine lv_isub hx hb d_XTr_several_8 ?_
  refine lv_bipush (v := (15 : Int32)) hx hb d_XTr_several_9 (by decide) ?_
  refine lv_iand hx hb d_XTr_several_11 ?_
  refine lv_iconst (v := (1 : Int32)) hx hb d_XTr_several_12 (by decide) ?_
  refine lv_iadd hx hb d_XTr_several_13 ?_
  refine lv_topi (fun x_1 ex_1 => ?_)
  have hf := hf.trans (nm_eq ex_1)
  refine lv_istore_n (lv' := [(2, .int x_1), (0, .ref (a 8)), (1, .ref (a 6))]) hx hb d_XTr_several_14 rfl hl (by decide) rfl (fun ls hl => ?_)
  refine lv_aload_n hx hb d_XTr_several_15 rfl (lv_at hl 2 rfl) ?_
  refine va_getN (v := .int (xF u0 9)) hx hb hts iX_In hown hw.2.1 hw.1 6 rfl rfl 5 (by decide) (va_Nw.use rfl (hw.2.2.2 _ kX_Tr_28).2) (fun _ h => h) rfl d_XTr_several_16 ?_
  refine lv_iconst (v := (3 : Int32)) hx hb d_XTr_several_19 (by decide) ?_
  refine lv_iand hx hb d_XTr_several_20 ?_
  refine lv_if_eq (tgt := 27) hx hb d_XTr_several_21 (by decide) (fun c_2 => ?_) (fun c_2 => ?_)
  · have hf := hf.trans (if_pos c_2)
    refine lv_aload_n hx hb d_XTr_several_27 rfl (lv_at hl 1 rfl) ?_
    refine va_get (v := .ref (a 1)) hx hb hts iX_Tr hown hw.2.1 hw.1 8 rfl rfl 0 (by decide) (hts _ kX_Tr_9) (fun _ h => h) rfl d_XTr_several_28 ?_
    refine va_getN (v := .ref (a 2)) hx hb hts iX_St hown hw.2.1 hw.1 1 rfl rfl 0 (by decide) (va_Nw.use rfl (hw.2.2.2 _ kX_Tr_44).2) (fun _ h => h) rfl d_XTr_several_31 ?_
    refine lv_aload_n hx hb d_XTr_several_34 rfl (lv_at hl 2 rfl) ?_
    refine va_getN (v := .int (xF u0 9)) hx hb hts iX_In hown hw.2.1 hw.1 6 rfl rfl 5 (by decide) (va_Nw.use rfl (hw.2.2.2 _ kX_Tr_28).2) (fun _ h => h) rfl d_XTr_several_35 ?_
    refine lv_iconst (v := (4 : Int32)) hx hb d_XTr_several_38 (by decide) ?_
    refine lv_iload_n hx hb d_XTr_several_39 rfl (lv_at hl 0 rfl) ?_
    refine lv_imul hx hb d_XTr_several_40 ?_
    refine z_rz (z_runV (As := [.int (xF u0 9), .int ((4 : Int32) * x_1)]) (rest := []) ⟨hx, hb, hml, hown, hts⟩ (c_XMe_holds l D a k u0 (xF u0 9) ((4 : Int32) * x_1)) (qX_Tr_61 hts (by decide)) hw 2 rfl rfl hl.1 rfl (lv_room (Nat.le_of_ble_eq_true rfl)) d_XTr_several_41 hcs) (fun z_3 ez_3 => ?_)
    have hf := hf.trans (nm_eq ez_3)
    refine lv_if_ne (tgt := 49) hx hb d_XTr_several_44 (by decide) (fun c_4 => ?_) (fun c_4 => ?_)
    · have hf := hf.trans (if_neg c_4)
      refine lv_iconst (v := (0 : Int32)) hx hb d_XTr_several_49 (by decide) ?_
      refine lv_istore_n (lv' := [(3, .int (0 : Int32)), (2, .int x_1), (0, .ref (a 8)), (1, .ref (a 6))]) hx hb d_XTr_several_50 rfl hl (by decide) rfl (fun ls hl => ?_)
      refine lp_cut (fun (n_8 : Nat) (L_7 : Int32 → XS → Int32 × XS) => ∀ (x_5 : Int32) (u_6 : XS), (Int32.toInt x_1 - Int32.toInt x_5).toNat < n_8 → ∀ (H : Heap) (locs : List Loc), zW D clX (tyX k) nwX (xW a k) A st u_6 H → va_S A st.heap H locs → ∀ (ls : Array Slot), lv_has ls 5 [(0, .ref (a 8)), (1, .ref (a 6)), (2, .int x_1), (3, .int x_5)] → F = L_7 x_5 u_6 → W p l e rm_XTr_several st m args below meth c H locs 0 0 Q (F0 m 51 ls [])) ?_ ?_ ((Int32.toInt x_1 - Int32.toInt (0 : Int32)).toNat + 1) (0 : Int32) u0 (Nat.lt_succ_self _) _ _ hw hS _ (lv_sub hl [2, 3, 1, 0] rfl) hf
      · intro x_5 u_6 hn; exact absurd hn (Nat.not_lt_zero _)
      · intro n_8 L_7 hL_7 x_5 u_6 hn H locs hw hS ls hl hf
        unfold g_XTr_several_51 at hf
        refine lv_iload_n hx hb d_XTr_several_51 rfl (lv_at hl 3 rfl) ?_
        refine lv_iload_n hx hb d_XTr_several_52 rfl (lv_at hl 2 rfl) ?_
        refine lv_icmp_ge (tgt := 142) hx hb d_XTr_several_53 (by decide) (fun c_9 => ?_) (fun c_9 => ?_)
        · have hf := hf.trans (if_pos c_9)
          refine lv_iconst (v := (0 : Int32)) hx hb d_XTr_several_142 (by decide) ?_
          exact hret (0 : Int32) _ _ _ _ _ d_XTr_several_143 hw hS hf
        · have hf := hf.trans (if_neg c_9)
          refine lv_aload_n hx hb d_XTr_several_56 rfl (lv_at hl 1 rfl) ?_
          refine va_getN (v := .int (xF u_6 6)) hx hb hts iX_In hown hw.2.1 hw.1 6 rfl rfl 2 (by decide) (va_Nw.use rfl (hw.2.2.2 _ kX_Tr_25).2) (fun _ h => h) rfl d_XTr_several_57 ?_
          refine lv_iload_n hx hb d_XTr_several_60 rfl (lv_at hl 3 rfl) ?_
          refine lv_iadd hx hb d_XTr_several_61 ?_
          refine lv_bipush (v := (15 : Int32)) hx hb d_XTr_several_62 (by decide) ?_
          refine lv_iand hx hb d_XTr_several_64 ?_
          refine lv_topi (fun x_10 ex_10 => ?_)
          have hf := hf.trans (nm_eq ex_10)
          refine lv_istore (lv' := [(4, .int x_10), (0, .ref (a 8)), (1, .ref (a 6)), (2, .int x_1), (3, .int x_5)]) hx hb d_XTr_several_65 hl (by decide) rfl (fun ls hl => ?_)
          refine lv_aload_n hx hb d_XTr_several_67 rfl (lv_at hl 2 rfl) ?_
          refine va_getN (v := .int (xF u_6 4)) hx hb hts iX_In hown hw.2.1 hw.1 6 rfl rfl 0 (by decide) (va_Nw.use rfl (hw.2.2.2 _ kX_Tr_15).2) (fun _ h => h) rfl d_XTr_several_68 ?_
          refine lv_sipush (v := (144 : Int32)) hx hb d_XTr_several_71 (by decide) ?_
          refine jn_cut hf (fun (K_12 : XS → Int32 × XS) => ∀ (u_11 : XS), ∀ (H : Heap) (locs : List Loc), zW D clX (tyX k) nwX (xW a k) A st u_11 H → va_S A st.heap H locs → ∀ (ls : Array Slot), lv_has ls 5 [(0, .ref (a 8)), (1, .ref (a 6)), (2, .int x_1), (3, .int x_5)] → F = K_12 u_11 → W p l e rm_XTr_several st m args below meth c H locs 0 0 Q (F0 m 136 ls [])) ?_ ?_
          · intro u_11 H locs hw hS ls hl hf
            obtain ⟨x_13, ex_13⟩ : ∃ y : Int32, y = x_5 + (1 : Int32) := ⟨_, rfl⟩
            have hf := hf.trans (nm_eq ex_13)
            refine lv_iinc (v := x_13) (lv' := [(3, .int x_13), (0, .ref (a 8)), (1, .ref (a 6)), (2, .int x_1)]) hx hb d_XTr_several_136 hl (k := 3) rfl (by rw [ex_13]; rfl) (by decide) rfl (fun ls hl => ?_)
            refine lv_goto (tgt := 51) hx hb d_XTr_several_139 (by decide) ?_
            exact hL_7 x_13 u_11 (mu_up c_9 ex_13 hn) _ _ hw hS _ (lv_sub hl [1, 2, 3, 0] rfl) hf
          · intro K_12 hK_12 hf
            refine lv_icmp_ne (tgt := 109) hx hb d_XTr_several_74 (by decide) (fun c_14 => ?_) (fun c_14 => ?_)
            · have hf := hf.trans (if_neg c_14)
              refine lv_aload_n hx hb d_XTr_several_109 rfl (lv_at hl 1 rfl) ?_
              refine va_get (v := .ref (a 1)) hx hb hts iX_Tr hown hw.2.1 hw.1 8 rfl rfl 0 (by decide) (hts _ kX_Tr_9) (fun _ h => h) rfl d_XTr_several_110 ?_
              refine lv_iload hx hb d_XTr_several_113 (lv_at hl 0 rfl) ?_
              refine lv_aload_n hx hb d_XTr_several_115 rfl (lv_at hl 1 rfl) ?_
              refine va_get (v := .ref (a 1)) hx hb hts iX_Tr hown hw.2.1 hw.1 8 rfl rfl 0 (by decide) (hts _ kX_Tr_9) (fun _ h => h) rfl d_XTr_several_116 ?_
              refine va_getN (v := .ref (a 2)) hx hb hts iX_St hown hw.2.1 hw.1 1 rfl rfl 0 (by decide) (va_Nw.use rfl (hw.2.2.2 _ kX_Tr_44).2) (fun _ h => h) rfl d_XTr_several_119 ?_
              refine lv_aload_n hx hb d_XTr_several_122 rfl (lv_at hl 2 rfl) ?_
              refine va_getN (v := .int (xF u_6 9)) hx hb hts iX_In hown hw.2.1 hw.1 6 rfl rfl 5 (by decide) (va_Nw.use rfl (hw.2.2.2 _ kX_Tr_28).2) (fun _ h => h) rfl d_XTr_several_123 ?_
              refine lv_iconst (v := (4 : Int32)) hx hb d_XTr_several_126 (by decide) ?_
              refine lv_iload_n hx hb d_XTr_several_127 rfl (lv_at hl 4 rfl) ?_
              refine lv_imul hx hb d_XTr_several_128 ?_
              refine lv_iadd hx hb d_XTr_several_129 ?_
              refine z_ri (z_runV (As := [.int ((xF u_6 9) + ((4 : Int32) * x_5))]) (rest := [.int x_10, .ref (a 1)]) ⟨hx, hb, hml, hown, hts⟩ (c_XMe_word l D a k u_6 ((xF u_6 9) + ((4 : Int32) * x_5))) (qX_Tr_71 hts (by decide)) hw 2 rfl rfl hl.1 rfl (lv_room (Nat.le_of_ble_eq_true rfl)) d_XTr_several_130 hcs) (fun x_15 ex_15 => ?_)
              have hf := hf.trans (nm_eq ex_15)
              refine z_wv (z_runV (As := [.int x_10, .int x_15]) (rest := []) ⟨hx, hb, hml, hown, hts⟩ (c_XSt_put l D a k u_6 x_10 x_15) (qX_Tr_31 hts (by decide)) hw 1 rfl rfl hl.1 rfl (lv_room (Nat.le_of_ble_eq_true rfl)) d_XTr_several_133 hcs) hw hS (fun u_16 H locs eu_16 hw hS => ?_)
              have hf := hf.trans (nm_eq eu_16)
              exact hK_12 u_16 _ _ hw hS _ (lv_sub hl [1, 2, 3, 4] rfl) hf
            · have hf := hf.trans (if_pos c_14)
              refine lv_aload_n hx hb d_XTr_several_77 rfl (lv_at hl 1 rfl) ?_
              refine va_get (v := .ref (a 1)) hx hb hts iX_Tr hown hw.2.1 hw.1 8 rfl rfl 0 (by decide) (hts _ kX_Tr_9) (fun _ h => h) rfl d_XTr_several_78 ?_
              refine va_getN (v := .ref (a 2)) hx hb hts iX_St hown hw.2.1 hw.1 1 rfl rfl 0 (by decide) (va_Nw.use rfl (hw.2.2.2 _ kX_Tr_44).2) (fun _ h => h) rfl d_XTr_several_81 ?_
              refine lv_aload_n hx hb d_XTr_several_84 rfl (lv_at hl 2 rfl) ?_
              refine va_getN (v := .int (xF u_6 9)) hx hb hts iX_In hown hw.2.1 hw.1 6 rfl rfl 5 (by decide) (va_Nw.use rfl (hw.2.2.2 _ kX_Tr_28).2) (fun _ h => h) rfl d_XTr_several_85 ?_
              refine lv_iconst (v := (4 : Int32)) hx hb d_XTr_several_88 (by decide) ?_
              refine lv_iload_n hx hb d_XTr_several_89 rfl (lv_at hl 4 rfl) ?_
              refine lv_imul hx hb d_XTr_several_90 ?_
              refine lv_iadd hx hb d_XTr_several_91 ?_
              refine lv_iconst (v := (4 : Int32)) hx hb d_XTr_several_92 (by decide) ?_
              refine lv_aload_n hx hb d_XTr_several_93 rfl (lv_at hl 1 rfl) ?_
              refine va_get (v := .ref (a 1)) hx hb hts iX_Tr hown hw.2.1 hw.1 8 rfl rfl 0 (by decide) (hts _ kX_Tr_9) (fun _ h => h) rfl d_XTr_several_94 ?_
              refine lv_iload hx hb d_XTr_several_97 (lv_at hl 0 rfl) ?_
              refine z_ri (z_runV (As := [.int x_10]) (rest := [.int (4 : Int32), .int ((xF u_6 9) + ((4 : Int32) * x_5)), .ref (a 2)]) ⟨hx, hb, hml, hown, hts⟩ (c_XSt_value l D a k u_6 x_10) (qX_Tr_54 hts (by decide)) hw 1 rfl rfl hl.1 rfl (lv_room (Nat.le_of_ble_eq_true rfl)) d_XTr_several_99 hcs) (fun x_17 ex_17 => ?_)
              have hf := hf.trans (nm_eq ex_17)
              refine lv_i2l (v := Int32.toInt64 x_17) hx hb d_XTr_several_102 rfl ?_
              refine z_wv (z_runV (As := [.int ((xF u_6 9) + ((4 : Int32) * x_5)), .int (4 : Int32), .long (Int32.toInt64 x_17)]) (rest := []) ⟨hx, hb, hml, hown, hts⟩ (c_XMe_store l D a k u_6 ((xF u_6 9) + ((4 : Int32) * x_5)) (4 : Int32) (Int32.toInt64 x_17)) (qX_Tr_58 hts (by decide)) hw 2 rfl rfl hl.1 rfl (lv_room (Nat.le_of_ble_eq_true rfl)) d_XTr_several_103 hcs) hw hS (fun u_18 H locs eu_18 hw hS => ?_)
              have hf := hf.trans (nm_eq eu_18)
              refine lv_goto (tgt := 136) hx hb d_XTr_several_106 (by decide) ?_
              exact hK_12 u_18 _ _ hw hS _ (lv_sub hl [1, 2, 3, 4] rfl) hf
    · have hf := hf.trans (if_pos c_4)
      refine lv_iconst (v := (5 : Int32)) hx hb d_XTr_several_47 (by decide) ?_
      exact hret (5 : Int32) _ _ _ _ _ d_XTr_several_48 hw hS hf
  · have hf := hf.trans (if_neg c_2)
    refine lv_bipush (v := (6 : Int32)) hx hb d_XTr_several_24 (by decide) ?_
    exact hret (6 : Int32) _ _ _ _ _ d_XTr_several_26 hw hS hf
def f_XTr_perform (u0 : XS)  : Int32 × XS := nm (xF u0 4) (fun (x_1 : Int32) => if x_1 = (64 : Int32) then pr (f_XTr_store u0 (2 : Int32)) (fun (x_4 : Int32) (u_3 : XS) => (x_4, u_3)) else if x_1 = (65 : Int32) then nm (f_XSt_put u0 (xF u0 6) (xF u0 9)) (fun (u_6 : XS) => ((0 : Int32), u_6)) else if x_1 = (66 : Int32) then pr (f_XTr_store u0 (1 : Int32)) (fun (x_9 : Int32) (u_8 : XS) => (x_9, u_8)) else if x_1 = (67 : Int32) then pr (f_XTr_insert u0) (fun (x_12 : Int32) (u_11 : XS) => (x_12, u_11)) else if x_1 = (80 : Int32) then pr (f_XTr_store u0 (4 : Int32)) (fun (x_15 : Int32) (u_14 : XS) => (x_15, u_14)) else pr (f_XTr_several u0) (fun (x_17 : Int32) (u_16 : XS) => (x_17, u_16)))
set_option maxHeartbeats 4000000 in
set_option maxRecDepth 100000 in
theorem c_XTr_perform (l : Launch) (D : va_G) (a : Nat → Nat) (k : Nat → ClassId) (u0 : XS)  : zMi l y_XTr_perform w_XTr_perform rm_XTr_perform D clX (tyX k) nwX (xW a k) [.ref (a 8), .ref (a 6)] u0 (f_XTr_perform u0) := by
  generalize hF : f_XTr_perform u0 = F
  have hf := hF.symm
  unfold f_XTr_perform at hf
  refine zMi_of (cc := b_XTr_perform) (maxL := 2) (own := RX_Tr) (by decide) rfl rfl (Nat.le_of_ble_eq_true rfl) ?_
  intro p e R st m args below meth c A H locs Q ls hR hx hb hml hown hts hw hS hret hl
  subst hR
  have hcs : 0 ≤ (rm_XTr_perform).cells ∧ 0 ≤ (rm_XTr_perform).slots := ⟨Nat.zero_le _, Nat.zero_le _⟩
  have hl : lv_has ls 2 [(0, .ref (a 8)), (1, .ref (a 6))] := hl
  refine lv_aload_n hx hb d_XTr_perform_0 rfl (lv_at hl 1 rfl) ?_
  refine va_getN (v := .int (xF u0 4)) hx hb hts iX_In hown hw.2.1 hw.1 6 rfl rfl 0 (by decide) (va_Nw.use rfl (hw.2.2.2 _ kX_Tr_15).2) (fun _ h => h) rfl d_XTr_perform_1 ?_
  refine lv_topi (fun x_1 ex_1 => ?_)
  have hf := hf.trans (nm_eq ex_1)
  by_cases c_2 : x_1 = (64 : Int32)
  · have hf := hf.trans (if_pos c_2)
    refine lv_lookup (off := 52) (tgt := 56) hx hb d_XTr_perform_4 (by decide +kernel) (by rw [c_2]; decide +kernel) (by decide) ?_
    refine lv_aload_n hx hb d_XTr_perform_56 rfl (lv_at hl 0 rfl) ?_
    refine lv_aload_n hx hb d_XTr_perform_57 rfl (lv_at hl 1 rfl) ?_
    refine lv_iconst (v := (2 : Int32)) hx hb d_XTr_perform_58 (by decide) ?_
    refine z_wi (z_runV (As := [.ref (a 6), .int (2 : Int32)]) (rest := []) ⟨hx, hb, hml, hown, hts⟩ (c_XTr_store l D a k u0 (2 : Int32)) (qX_Tr_21 hts (by decide)) hw 8 rfl rfl hl.1 rfl (lv_room (Nat.le_of_ble_eq_true rfl)) d_XTr_perform_59 hcs) hw hS (fun x_4 u_3 H locs ex_4 hw hS => ?_)
    have hf := hf.trans (pr_eq ex_4)
    exact hret x_4 _ _ _ _ _ d_XTr_perform_62 hw hS hf
  have hf := hf.trans (if_neg c_2)
  by_cases c_5 : x_1 = (65 : Int32)
  · have hf := hf.trans (if_pos c_5)
    refine lv_lookup (off := 59) (tgt := 63) hx hb d_XTr_perform_4 (by decide +kernel) (by rw [c_5]; decide +kernel) (by decide) ?_
    refine lv_aload_n hx hb d_XTr_perform_63 rfl (lv_at hl 0 rfl) ?_
    refine va_get (v := .ref (a 1)) hx hb hts iX_Tr hown hw.2.1 hw.1 8 rfl rfl 0 (by decide) (hts _ kX_Tr_9) (fun _ h => h) rfl d_XTr_perform_64 ?_
    refine lv_aload_n hx hb d_XTr_perform_67 rfl (lv_at hl 1 rfl) ?_
    refine va_getN (v := .int (xF u0 6)) hx hb hts iX_In hown hw.2.1 hw.1 6 rfl rfl 2 (by decide) (va_Nw.use rfl (hw.2.2.2 _ kX_Tr_25).2) (fun _ h => h) rfl d_XTr_perform_68 ?_
    refine lv_aload_n hx hb d_XTr_perform_71 rfl (lv_at hl 1 rfl) ?_
    refine va_getN (v := .int (xF u0 9)) hx hb hts iX_In hown hw.2.1 hw.1 6 rfl rfl 5 (by decide) (va_Nw.use rfl (hw.2.2.2 _ kX_Tr_28).2) (fun _ h => h) rfl d_XTr_perform_72 ?_
    refine z_wv (z_runV (As := [.int (xF u0 6), .int (xF u0 9)]) (rest := []) ⟨hx, hb, hml, hown, hts⟩ (c_XSt_put l D a k u0 (xF u0 6) (xF u0 9)) (qX_Tr_31 hts (by decide)) hw 1 rfl rfl hl.1 rfl (lv_room (Nat.le_of_ble_eq_true rfl)) d_XTr_perform_75 hcs) hw hS (fun u_6 H locs eu_6 hw hS => ?_)
    have hf := hf.trans (nm_eq eu_6)
    refine lv_iconst (v := (0 : Int32)) hx hb d_XTr_perform_78 (by decide) ?_
    exact hret (0 : Int32) _ _ _ _ _ d_XTr_perform_79 hw hS hf
  have hf := hf.trans (if_neg c_5)
  by_cases c_7 : x_1 = (66 : Int32)
  · have hf := hf.trans (if_pos c_7)
    refine lv_lookup (off := 76) (tgt := 80) hx hb d_XTr_perform_4 (by decide +kernel) (by rw [c_7]; decide +kernel) (by decide) ?_
    refine lv_aload_n hx hb d_XTr_perform_80 rfl (lv_at hl 0 rfl) ?_
    refine lv_aload_n hx hb d_XTr_perform_81 rfl (lv_at hl 1 rfl) ?_
    refine lv_iconst (v := (1 : Int32)) hx hb d_XTr_perform_82 (by decide) ?_
    refine z_wi (z_runV (As := [.ref (a 6), .int (1 : Int32)]) (rest := []) ⟨hx, hb, hml, hown, hts⟩ (c_XTr_store l D a k u0 (1 : Int32)) (qX_Tr_21 hts (by decide)) hw 8 rfl rfl hl.1 rfl (lv_room (Nat.le_of_ble_eq_true rfl)) d_XTr_perform_83 hcs) hw hS (fun x_9 u_8 H locs ex_9 hw hS => ?_)
    have hf := hf.trans (pr_eq ex_9)
    exact hret x_9 _ _ _ _ _ d_XTr_perform_86 hw hS hf
  have hf := hf.trans (if_neg c_7)
  by_cases c_10 : x_1 = (67 : Int32)
  · have hf := hf.trans (if_pos c_10)
    refine lv_lookup (off := 83) (tgt := 87) hx hb d_XTr_perform_4 (by decide +kernel) (by rw [c_10]; decide +kernel) (by decide) ?_
    refine lv_aload_n hx hb d_XTr_perform_87 rfl (lv_at hl 0 rfl) ?_
    refine lv_aload_n hx hb d_XTr_perform_88 rfl (lv_at hl 1 rfl) ?_
    refine z_wi (z_runV (As := [.ref (a 6)]) (rest := []) ⟨hx, hb, hml, hown, hts⟩ (c_XTr_insert l D a k u0) (qX_Tr_37 hts (by decide)) hw 8 rfl rfl hl.1 rfl (lv_room (Nat.le_of_ble_eq_true rfl)) d_XTr_perform_89 hcs) hw hS (fun x_12 u_11 H locs ex_12 hw hS => ?_)
    have hf := hf.trans (pr_eq ex_12)
    exact hret x_12 _ _ _ _ _ d_XTr_perform_92 hw hS hf
  have hf := hf.trans (if_neg c_10)
  by_cases c_13 : x_1 = (80 : Int32)
  · have hf := hf.trans (if_pos c_13)
    refine lv_lookup (off := 89) (tgt := 93) hx hb d_XTr_perform_4 (by decide +kernel) (by rw [c_13]; decide +kernel) (by decide) ?_
    refine lv_aload_n hx hb d_XTr_perform_93 rfl (lv_at hl 0 rfl) ?_
    refine lv_aload_n hx hb d_XTr_perform_94 rfl (lv_at hl 1 rfl) ?_
    refine lv_iconst (v := (4 : Int32)) hx hb d_XTr_perform_95 (by decide) ?_
    refine z_wi (z_runV (As := [.ref (a 6), .int (4 : Int32)]) (rest := []) ⟨hx, hb, hml, hown, hts⟩ (c_XTr_store l D a k u0 (4 : Int32)) (qX_Tr_21 hts (by decide)) hw 8 rfl rfl hl.1 rfl (lv_room (Nat.le_of_ble_eq_true rfl)) d_XTr_perform_96 hcs) hw hS (fun x_15 u_14 H locs ex_15 hw hS => ?_)
    have hf := hf.trans (pr_eq ex_15)
    exact hret x_15 _ _ _ _ _ d_XTr_perform_99 hw hS hf
  have hf := hf.trans (if_neg c_13)
  refine lv_lookup (off := 96) (tgt := 100) hx hb d_XTr_perform_4 (by decide +kernel) (by rw [lv_osw c_2 (by decide +kernel), lv_osw c_5 (by decide +kernel), lv_osw c_7 (by decide +kernel), lv_osw c_10 (by decide +kernel), lv_osw c_13 (by decide +kernel)]; rfl) (by decide) ?_
  refine lv_aload_n hx hb d_XTr_perform_100 rfl (lv_at hl 0 rfl) ?_
  refine lv_aload_n hx hb d_XTr_perform_101 rfl (lv_at hl 1 rfl) ?_
  refine z_wi (z_runV (As := [.ref (a 6)]) (rest := []) ⟨hx, hb, hml, hown, hts⟩ (c_XTr_several l D a k u0) (qX_Tr_41 hts (by decide)) hw 8 rfl rfl hl.1 rfl (lv_room (Nat.le_of_ble_eq_true rfl)) d_XTr_perform_102 hcs) hw hS (fun x_17 u_16 H locs ex_17 hw hS => ?_)
  have hf := hf.trans (pr_eq ex_17)
  exact hret x_17 _ _ _ _ _ d_XTr_perform_105 hw hS hf
end
section
def f_XPr_performRegular (u0 : XS)  : Int32 × XS := jn (fun (K_1 : Int32 × XS) => if (xF u0 4) < (16 : Int32) then K_1 else if (31 : Int32) < (xF u0 4) then K_1 else pr (f_XAr_withRegister u0) (fun (x_9 : Int32) (u_8 : XS) => (x_9, u_8))) (if (xF u0 4) < (84 : Int32) then ((1 : Int32), u0) else if (95 : Int32) < (xF u0 4) then ((1 : Int32), u0) else pr (f_XAr_withWord u0) (fun (x_5 : Int32) (u_4 : XS) => (x_5, u_4)))
set_option maxHeartbeats 4000000 in
set_option maxRecDepth 100000 in
theorem c_XPr_performRegular (l : Launch) (D : va_G) (a : Nat → Nat) (k : Nat → ClassId) (u0 : XS)  : zMi l y_XPr_performRegular w_XPr_performRegular rm_XPr_performRegular D clX (tyX k) nwX (xW a k) [.ref (a 5), .ref (a 6)] u0 (f_XPr_performRegular u0) := by
  generalize hF : f_XPr_performRegular u0 = F
  have hf := hF.symm
  unfold f_XPr_performRegular at hf
  refine zMi_of (cc := b_XPr_performRegular) (maxL := 2) (own := RX_Pr) (by decide) rfl rfl (Nat.le_of_ble_eq_true rfl) ?_
  intro p e R st m args below meth c A H locs Q ls hR hx hb hml hown hts hw hS hret hl
  subst hR
  have hcs : 0 ≤ (rm_XPr_performRegular).cells ∧ 0 ≤ (rm_XPr_performRegular).slots := ⟨Nat.zero_le _, Nat.zero_le _⟩
  have hl : lv_has ls 2 [(0, .ref (a 5)), (1, .ref (a 6))] := hl
  refine lv_aload_n hx hb d_XPr_performRegular_0 rfl (lv_at hl 1 rfl) ?_
  refine va_getN (v := .int (xF u0 4)) hx hb hts iX_In hown hw.2.1 hw.1 6 rfl rfl 0 (by decide) (va_Nw.use rfl (hw.2.2.2 _ kX_Pr_85).2) (fun _ h => h) rfl d_XPr_performRegular_1 ?_
  refine lv_bipush (v := (16 : Int32)) hx hb d_XPr_performRegular_4 (by decide) ?_
  refine jn_cut hf (fun (K_1 : Int32 × XS) => ∀ (ls : Array Slot), lv_has ls 2 [(0, .ref (a 5)), (1, .ref (a 6))] → F = K_1 → W p l e rm_XPr_performRegular st m args below meth c H locs 0 0 Q (F0 m 27 ls [])) ?_ ?_
  · intro ls hl hf
    refine lv_aload_n hx hb d_XPr_performRegular_27 rfl (lv_at hl 1 rfl) ?_
    refine va_getN (v := .int (xF u0 4)) hx hb hts iX_In hown hw.2.1 hw.1 6 rfl rfl 0 (by decide) (va_Nw.use rfl (hw.2.2.2 _ kX_Pr_85).2) (fun _ h => h) rfl d_XPr_performRegular_28 ?_
    refine lv_bipush (v := (84 : Int32)) hx hb d_XPr_performRegular_31 (by decide) ?_
    refine lv_icmp_lt (tgt := 56) hx hb d_XPr_performRegular_33 (by decide) (fun c_2 => ?_) (fun c_2 => ?_)
    · have hf := hf.trans (if_pos c_2)
      refine lv_iconst (v := (1 : Int32)) hx hb d_XPr_performRegular_56 (by decide) ?_
      exact hret (1 : Int32) _ _ _ _ _ d_XPr_performRegular_57 hw hS hf
    · have hf := hf.trans (if_neg c_2)
      refine lv_aload_n hx hb d_XPr_performRegular_36 rfl (lv_at hl 1 rfl) ?_
      refine va_getN (v := .int (xF u0 4)) hx hb hts iX_In hown hw.2.1 hw.1 6 rfl rfl 0 (by decide) (va_Nw.use rfl (hw.2.2.2 _ kX_Pr_85).2) (fun _ h => h) rfl d_XPr_performRegular_37 ?_
      refine lv_bipush (v := (95 : Int32)) hx hb d_XPr_performRegular_40 (by decide) ?_
      refine lv_icmp_gt (tgt := 56) hx hb d_XPr_performRegular_42 (by decide) (fun c_3 => ?_) (fun c_3 => ?_)
      · have hf := hf.trans (if_pos c_3)
        refine lv_iconst (v := (1 : Int32)) hx hb d_XPr_performRegular_56 (by decide) ?_
        exact hret (1 : Int32) _ _ _ _ _ d_XPr_performRegular_57 hw hS hf
      · have hf := hf.trans (if_neg c_3)
        refine lv_aload_n hx hb d_XPr_performRegular_45 rfl (lv_at hl 0 rfl) ?_
        refine va_get (v := .ref (a 7)) hx hb hts iX_Pr hown hw.2.1 hw.1 5 rfl rfl 2 (by decide) (hts _ kX_Pr_37) (fun _ h => h) rfl d_XPr_performRegular_46 ?_
        refine lv_aload_n hx hb d_XPr_performRegular_49 rfl (lv_at hl 1 rfl) ?_
        refine z_wi (z_runV (As := [.ref (a 6)]) (rest := []) ⟨hx, hb, hml, hown, hts⟩ (c_XAr_withWord l D a k u0) (qX_Pr_123 hts (by decide)) hw 7 rfl rfl hl.1 rfl (lv_room (Nat.le_of_ble_eq_true rfl)) d_XPr_performRegular_50 hcs) hw hS (fun x_5 u_4 H locs ex_5 hw hS => ?_)
        have hf := hf.trans (pr_eq ex_5)
        refine lv_goto (tgt := 57) hx hb d_XPr_performRegular_53 (by decide) ?_
        exact hret x_5 _ _ _ _ _ d_XPr_performRegular_57 hw hS hf
  · intro K_1 hK_1 hf
    refine lv_icmp_lt (tgt := 27) hx hb d_XPr_performRegular_6 (by decide) (fun c_6 => ?_) (fun c_6 => ?_)
    · have hf := hf.trans (if_pos c_6)
      exact hK_1 _ (lv_sub hl [0, 1] rfl) hf
    · have hf := hf.trans (if_neg c_6)
      refine lv_aload_n hx hb d_XPr_performRegular_9 rfl (lv_at hl 1 rfl) ?_
      refine va_getN (v := .int (xF u0 4)) hx hb hts iX_In hown hw.2.1 hw.1 6 rfl rfl 0 (by decide) (va_Nw.use rfl (hw.2.2.2 _ kX_Pr_85).2) (fun _ h => h) rfl d_XPr_performRegular_10 ?_
      refine lv_bipush (v := (31 : Int32)) hx hb d_XPr_performRegular_13 (by decide) ?_
      refine lv_icmp_gt (tgt := 27) hx hb d_XPr_performRegular_15 (by decide) (fun c_7 => ?_) (fun c_7 => ?_)
      · have hf := hf.trans (if_pos c_7)
        exact hK_1 _ (lv_sub hl [0, 1] rfl) hf
      · have hf := hf.trans (if_neg c_7)
        refine lv_aload_n hx hb d_XPr_performRegular_18 rfl (lv_at hl 0 rfl) ?_
        refine va_get (v := .ref (a 7)) hx hb hts iX_Pr hown hw.2.1 hw.1 5 rfl rfl 2 (by decide) (hts _ kX_Pr_37) (fun _ h => h) rfl d_XPr_performRegular_19 ?_
        refine lv_aload_n hx hb d_XPr_performRegular_22 rfl (lv_at hl 1 rfl) ?_
        refine z_wi (z_runV (As := [.ref (a 6)]) (rest := []) ⟨hx, hb, hml, hown, hts⟩ (c_XAr_withRegister l D a k u0) (qX_Pr_120 hts (by decide)) hw 7 rfl rfl hl.1 rfl (lv_room (Nat.le_of_ble_eq_true rfl)) d_XPr_performRegular_23 hcs) hw hS (fun x_9 u_8 H locs ex_9 hw hS => ?_)
        have hf := hf.trans (pr_eq ex_9)
        exact hret x_9 _ _ _ _ _ d_XPr_performRegular_26 hw hS hf
def f_XPr_perform (u0 : XS)  : Int32 × XS := nm (xF u0 4) (fun (x_1 : Int32) => if x_1 = (5 : Int32) then pr (f_XBr_perform u0) (fun (x_4 : Int32) (u_3 : XS) => (x_4, u_3)) else if x_1 = (6 : Int32) then pr (f_XBr_perform u0) (fun (x_7 : Int32) (u_6 : XS) => (x_7, u_6)) else if x_1 = (7 : Int32) then pr (f_XBr_perform u0) (fun (x_10 : Int32) (u_9 : XS) => (x_10, u_9)) else if x_1 = (10 : Int32) then nm (xsF u0 3 (xF u0 5)) (fun (u_12 : XS) => ((0 : Int32), u_12)) else if x_1 = (64 : Int32) then pr (f_XTr_perform u0) (fun (x_15 : Int32) (u_14 : XS) => (x_15, u_14)) else if x_1 = (65 : Int32) then pr (f_XTr_perform u0) (fun (x_18 : Int32) (u_17 : XS) => (x_18, u_17)) else if x_1 = (66 : Int32) then pr (f_XTr_perform u0) (fun (x_21 : Int32) (u_20 : XS) => (x_21, u_20)) else if x_1 = (67 : Int32) then pr (f_XTr_perform u0) (fun (x_24 : Int32) (u_23 : XS) => (x_24, u_23)) else if x_1 = (69 : Int32) then pr (f_XBr_perform u0) (fun (x_27 : Int32) (u_26 : XS) => (x_27, u_26)) else if x_1 = (70 : Int32) then pr (f_XBr_perform u0) (fun (x_30 : Int32) (u_29 : XS) => (x_30, u_29)) else if x_1 = (71 : Int32) then pr (f_XBr_perform u0) (fun (x_33 : Int32) (u_32 : XS) => (x_33, u_32)) else if x_1 = (72 : Int32) then pr (f_XAr_withHalf u0) (fun (x_36 : Int32) (u_35 : XS) => (x_36, u_35)) else if x_1 = (73 : Int32) then pr (f_XAr_withHalf u0) (fun (x_39 : Int32) (u_38 : XS) => (x_39, u_38)) else if x_1 = (74 : Int32) then pr (f_XAr_withHalf u0) (fun (x_42 : Int32) (u_41 : XS) => (x_42, u_41)) else if x_1 = (75 : Int32) then pr (f_XAr_withHalf u0) (fun (x_45 : Int32) (u_44 : XS) => (x_45, u_44)) else if x_1 = (76 : Int32) then pr (f_XAr_withHalf u0) (fun (x_48 : Int32) (u_47 : XS) => (x_48, u_47)) else if x_1 = (78 : Int32) then pr (f_XDe_convert u0) (fun (x_51 : Int32) (u_50 : XS) => (x_51, u_50)) else if x_1 = (79 : Int32) then pr (f_XDe_convert u0) (fun (x_54 : Int32) (u_53 : XS) => (x_54, u_53)) else if x_1 = (80 : Int32) then pr (f_XTr_perform u0) (fun (x_57 : Int32) (u_56 : XS) => (x_57, u_56)) else if x_1 = (134 : Int32) then pr (f_XBr_perform u0) (fun (x_60 : Int32) (u_59 : XS) => (x_60, u_59)) else if x_1 = (135 : Int32) then pr (f_XBr_perform u0) (fun (x_63 : Int32) (u_62 : XS) => (x_63, u_62)) else if x_1 = (136 : Int32) then pr (f_XAr_shift u0) (fun (x_66 : Int32) (u_65 : XS) => (x_66, u_65)) else if x_1 = (137 : Int32) then pr (f_XAr_shift u0) (fun (x_69 : Int32) (u_68 : XS) => (x_69, u_68)) else if x_1 = (138 : Int32) then pr (f_XAr_shift u0) (fun (x_72 : Int32) (u_71 : XS) => (x_72, u_71)) else if x_1 = (139 : Int32) then pr (f_XAr_shift u0) (fun (x_75 : Int32) (u_74 : XS) => (x_75, u_74)) else if x_1 = (144 : Int32) then pr (f_XTr_perform u0) (fun (x_78 : Int32) (u_77 : XS) => (x_78, u_77)) else if x_1 = (145 : Int32) then pr (f_XOc_withImmediate u0) (fun (x_81 : Int32) (u_80 : XS) => (x_81, u_80)) else if x_1 = (146 : Int32) then pr (f_XOc_withImmediate u0) (fun (x_84 : Int32) (u_83 : XS) => (x_84, u_83)) else if x_1 = (148 : Int32) then pr (f_XOc_withImmediate u0) (fun (x_87 : Int32) (u_86 : XS) => (x_87, u_86)) else if x_1 = (149 : Int32) then pr (f_XOc_withImmediate u0) (fun (x_90 : Int32) (u_89 : XS) => (x_90, u_89)) else if x_1 = (150 : Int32) then pr (f_XOc_withImmediate u0) (fun (x_93 : Int32) (u_92 : XS) => (x_93, u_92)) else if x_1 = (151 : Int32) then pr (f_XOc_withImmediate u0) (fun (x_96 : Int32) (u_95 : XS) => (x_96, u_95)) else if x_1 = (152 : Int32) then pr (f_XTr_perform u0) (fun (x_99 : Int32) (u_98 : XS) => (x_99, u_98)) else if x_1 = (209 : Int32) then pr (f_XOc_withField u0) (fun (x_102 : Int32) (u_101 : XS) => (x_102, u_101)) else if x_1 = (210 : Int32) then pr (f_XOc_withField u0) (fun (x_105 : Int32) (u_104 : XS) => (x_105, u_104)) else if x_1 = (211 : Int32) then pr (f_XOc_withField u0) (fun (x_108 : Int32) (u_107 : XS) => (x_108, u_107)) else if x_1 = (212 : Int32) then pr (f_XOc_withField u0) (fun (x_111 : Int32) (u_110 : XS) => (x_111, u_110)) else if x_1 = (213 : Int32) then pr (f_XOc_withField u0) (fun (x_114 : Int32) (u_113 : XS) => (x_114, u_113)) else if x_1 = (214 : Int32) then pr (f_XOc_withField u0) (fun (x_117 : Int32) (u_116 : XS) => (x_117, u_116)) else if x_1 = (215 : Int32) then pr (f_XOc_withField u0) (fun (x_120 : Int32) (u_119 : XS) => (x_120, u_119)) else if x_1 = (220 : Int32) then pr (f_XOc_withField u0) (fun (x_123 : Int32) (u_122 : XS) => (x_123, u_122)) else if x_1 = (242 : Int32) then pr (f_XDe_changeForm u0) (fun (x_126 : Int32) (u_125 : XS) => (x_126, u_125)) else if x_1 = (243 : Int32) then pr (f_XDe_changeForm u0) (fun (x_129 : Int32) (u_128 : XS) => (x_129, u_128)) else if x_1 = (248 : Int32) then pr (f_XDe_calculate u0) (fun (x_132 : Int32) (u_131 : XS) => (x_132, u_131)) else if x_1 = (249 : Int32) then pr (f_XDe_calculate u0) (fun (x_135 : Int32) (u_134 : XS) => (x_135, u_134)) else if x_1 = (250 : Int32) then pr (f_XDe_calculate u0) (fun (x_138 : Int32) (u_137 : XS) => (x_138, u_137)) else if x_1 = (251 : Int32) then pr (f_XDe_calculate u0) (fun (x_141 : Int32) (u_140 : XS) => (x_141, u_140)) else if x_1 = (252 : Int32) then pr (f_XDe_calculate u0) (fun (x_144 : Int32) (u_143 : XS) => (x_144, u_143)) else if x_1 = (253 : Int32) then pr (f_XDe_calculate u0) (fun (x_147 : Int32) (u_146 : XS) => (x_147, u_146)) else pr (f_XPr_performRegular u0) (fun (x_149 : Int32) (u_148 : XS) => (x_149, u_148)))
set_option maxHeartbeats 4000000 in
set_option maxRecDepth 100000 in
theorem c_XPr_perform (l : Launch) (D : va_G) (a : Nat → Nat) (k : Nat → ClassId) (u0 : XS)  : zMi l y_XPr_perform w_XPr_perform rm_XPr_perform D clX (tyX k) nwX (xW a k) [.ref (a 5), .ref (a 6)] u0 (f_XPr_perform u0) := by
  generalize hF : f_XPr_perform u0 = F
  have hf := hF.symm
  unfold f_XPr_perform at hf
  refine zMi_of (cc := b_XPr_perform) (maxL := 2) (own := RX_Pr) (by decide) rfl rfl (Nat.le_of_ble_eq_true rfl) ?_
  intro p e R st m args below meth c A H locs Q ls hR hx hb hml hown hts hw hS hret hl
  subst hR
  have hcs : 0 ≤ (rm_XPr_perform).cells ∧ 0 ≤ (rm_XPr_perform).slots := ⟨Nat.zero_le _, Nat.zero_le _⟩
  have hl : lv_has ls 2 [(0, .ref (a 5)), (1, .ref (a 6))] := hl
  refine lv_aload_n hx hb d_XPr_perform_0 rfl (lv_at hl 1 rfl) ?_
  refine va_getN (v := .int (xF u0 4)) hx hb hts iX_In hown hw.2.1 hw.1 6 rfl rfl 0 (by decide) (va_Nw.use rfl (hw.2.2.2 _ kX_Pr_85).2) (fun _ h => h) rfl d_XPr_perform_1 ?_
  refine lv_topi (fun x_1 ex_1 => ?_)
  have hf := hf.trans (nm_eq ex_1)
  by_cases c_2 : x_1 = (5 : Int32)
  · have hf := hf.trans (if_pos c_2)
    refine lv_lookup (off := 417) (tgt := 421) hx hb d_XPr_perform_4 (by decide +kernel) (by rw [c_2]; decide +kernel) (by decide) ?_
    refine lv_aload_n hx hb d_XPr_perform_421 rfl (lv_at hl 0 rfl) ?_
    refine va_get (v := .ref (a 9)) hx hb hts iX_Pr hown hw.2.1 hw.1 5 rfl rfl 4 (by decide) (hts _ kX_Pr_51) (fun _ h => h) rfl d_XPr_perform_422 ?_
    refine lv_aload_n hx hb d_XPr_perform_425 rfl (lv_at hl 1 rfl) ?_
    refine z_wi (z_runV (As := [.ref (a 6)]) (rest := []) ⟨hx, hb, hml, hown, hts⟩ (c_XBr_perform l D a k u0) (qX_Pr_94 hts (by decide)) hw 9 rfl rfl hl.1 rfl (lv_room (Nat.le_of_ble_eq_true rfl)) d_XPr_perform_426 hcs) hw hS (fun x_4 u_3 H locs ex_4 hw hS => ?_)
    have hf := hf.trans (pr_eq ex_4)
    exact hret x_4 _ _ _ _ _ d_XPr_perform_429 hw hS hf
  have hf := hf.trans (if_neg c_2)
  by_cases c_5 : x_1 = (6 : Int32)
  · have hf := hf.trans (if_pos c_5)
    refine lv_lookup (off := 417) (tgt := 421) hx hb d_XPr_perform_4 (by decide +kernel) (by rw [c_5]; decide +kernel) (by decide) ?_
    refine lv_aload_n hx hb d_XPr_perform_421 rfl (lv_at hl 0 rfl) ?_
    refine va_get (v := .ref (a 9)) hx hb hts iX_Pr hown hw.2.1 hw.1 5 rfl rfl 4 (by decide) (hts _ kX_Pr_51) (fun _ h => h) rfl d_XPr_perform_422 ?_
    refine lv_aload_n hx hb d_XPr_perform_425 rfl (lv_at hl 1 rfl) ?_
    refine z_wi (z_runV (As := [.ref (a 6)]) (rest := []) ⟨hx, hb, hml, hown, hts⟩ (c_XBr_perform l D a k u0) (qX_Pr_94 hts (by decide)) hw 9 rfl rfl hl.1 rfl (lv_room (Nat.le_of_ble_eq_true rfl)) d_XPr_perform_426 hcs) hw hS (fun x_7 u_6 H locs ex_7 hw hS => ?_)
    have hf := hf.trans (pr_eq ex_7)
    exact hret x_7 _ _ _ _ _ d_XPr_perform_429 hw hS hf
  have hf := hf.trans (if_neg c_5)
  by_cases c_8 : x_1 = (7 : Int32)
  · have hf := hf.trans (if_pos c_8)
    refine lv_lookup (off := 417) (tgt := 421) hx hb d_XPr_perform_4 (by decide +kernel) (by rw [c_8]; decide +kernel) (by decide) ?_
    refine lv_aload_n hx hb d_XPr_perform_421 rfl (lv_at hl 0 rfl) ?_
    refine va_get (v := .ref (a 9)) hx hb hts iX_Pr hown hw.2.1 hw.1 5 rfl rfl 4 (by decide) (hts _ kX_Pr_51) (fun _ h => h) rfl d_XPr_perform_422 ?_
    refine lv_aload_n hx hb d_XPr_perform_425 rfl (lv_at hl 1 rfl) ?_
    refine z_wi (z_runV (As := [.ref (a 6)]) (rest := []) ⟨hx, hb, hml, hown, hts⟩ (c_XBr_perform l D a k u0) (qX_Pr_94 hts (by decide)) hw 9 rfl rfl hl.1 rfl (lv_room (Nat.le_of_ble_eq_true rfl)) d_XPr_perform_426 hcs) hw hS (fun x_10 u_9 H locs ex_10 hw hS => ?_)
    have hf := hf.trans (pr_eq ex_10)
    exact hret x_10 _ _ _ _ _ d_XPr_perform_429 hw hS hf
  have hf := hf.trans (if_neg c_8)
  by_cases c_11 : x_1 = (10 : Int32)
  · have hf := hf.trans (if_pos c_11)
    refine lv_lookup (off := 404) (tgt := 408) hx hb d_XPr_perform_4 (by decide +kernel) (by rw [c_11]; decide +kernel) (by decide) ?_
    refine lv_aload_n hx hb d_XPr_perform_408 rfl (lv_at hl 0 rfl) ?_
    refine va_get (v := .ref (a 1)) hx hb hts iX_Pr hown hw.2.1 hw.1 5 rfl rfl 0 (by decide) (hts _ kX_Pr_28) (fun _ h => h) rfl d_XPr_perform_409 ?_
    refine lv_aload_n hx hb d_XPr_perform_412 rfl (lv_at hl 1 rfl) ?_
    refine va_getN (v := .int (xF u0 5)) hx hb hts iX_In hown hw.2.1 hw.1 6 rfl rfl 1 (by decide) (va_Nw.use rfl (hw.2.2.2 _ kX_Pr_88).2) (fun _ h => h) rfl d_XPr_perform_413 ?_
    refine z_putN (u' := xsF u0 3 (xF u0 5)) hx hb hts iX_St tX_St tX_St_ok nX_St hown hw hS 1 rfl rfl 5 (by decide) (va_Nw.use rfl (hw.2.2.2 _ kX_Pr_91).2) (fun _ h => h) rfl rfl (Nat.le_of_ble_eq_true rfl) rfl d_XPr_perform_416 (fun u_12 H locs eu_12 hw hS => ?_)
    have hf := hf.trans (nm_eq eu_12)
    refine lv_iconst (v := (0 : Int32)) hx hb d_XPr_perform_419 (by decide) ?_
    exact hret (0 : Int32) _ _ _ _ _ d_XPr_perform_420 hw hS hf
  have hf := hf.trans (if_neg c_11)
  by_cases c_13 : x_1 = (64 : Int32)
  · have hf := hf.trans (if_pos c_13)
    refine lv_lookup (off := 426) (tgt := 430) hx hb d_XPr_perform_4 (by decide +kernel) (by rw [c_13]; decide +kernel) (by decide) ?_
    refine lv_aload_n hx hb d_XPr_perform_430 rfl (lv_at hl 0 rfl) ?_
    refine va_get (v := .ref (a 8)) hx hb hts iX_Pr hown hw.2.1 hw.1 5 rfl rfl 3 (by decide) (hts _ kX_Pr_44) (fun _ h => h) rfl d_XPr_perform_431 ?_
    refine lv_aload_n hx hb d_XPr_perform_434 rfl (lv_at hl 1 rfl) ?_
    refine z_wi (z_runV (As := [.ref (a 6)]) (rest := []) ⟨hx, hb, hml, hown, hts⟩ (c_XTr_perform l D a k u0) (qX_Pr_95 hts (by decide)) hw 8 rfl rfl hl.1 rfl (lv_room (Nat.le_of_ble_eq_true rfl)) d_XPr_perform_435 hcs) hw hS (fun x_15 u_14 H locs ex_15 hw hS => ?_)
    have hf := hf.trans (pr_eq ex_15)
    exact hret x_15 _ _ _ _ _ d_XPr_perform_438 hw hS hf
  have hf := hf.trans (if_neg c_13)
  by_cases c_16 : x_1 = (65 : Int32)
  · have hf := hf.trans (if_pos c_16)
    refine lv_lookup (off := 426) (tgt := 430) hx hb d_XPr_perform_4 (by decide +kernel) (by rw [c_16]; decide +kernel) (by decide) ?_
    refine lv_aload_n hx hb d_XPr_perform_430 rfl (lv_at hl 0 rfl) ?_
    refine va_get (v := .ref (a 8)) hx hb hts iX_Pr hown hw.2.1 hw.1 5 rfl rfl 3 (by decide) (hts _ kX_Pr_44) (fun _ h => h) rfl d_XPr_perform_431 ?_
    refine lv_aload_n hx hb d_XPr_perform_434 rfl (lv_at hl 1 rfl) ?_
    refine z_wi (z_runV (As := [.ref (a 6)]) (rest := []) ⟨hx, hb, hml, hown, hts⟩ (c_XTr_perform l D a k u0) (qX_Pr_95 hts (by decide)) hw 8 rfl rfl hl.1 rfl (lv_room (Nat.le_of_ble_eq_true rfl)) d_XPr_perform_435 hcs) hw hS (fun x_18 u_17 H locs ex_18 hw hS => ?_)
    have hf := hf.trans (pr_eq ex_18)
    exact hret x_18 _ _ _ _ _ d_XPr_perform_438 hw hS hf
  have hf := hf.trans (if_neg c_16)
  by_cases c_19 : x_1 = (66 : Int32)
  · have hf := hf.trans (if_pos c_19)
    refine lv_lookup (off := 426) (tgt := 430) hx hb d_XPr_perform_4 (by decide +kernel) (by rw [c_19]; decide +kernel) (by decide) ?_
    refine lv_aload_n hx hb d_XPr_perform_430 rfl (lv_at hl 0 rfl) ?_
    refine va_get (v := .ref (a 8)) hx hb hts iX_Pr hown hw.2.1 hw.1 5 rfl rfl 3 (by decide) (hts _ kX_Pr_44) (fun _ h => h) rfl d_XPr_perform_431 ?_
    refine lv_aload_n hx hb d_XPr_perform_434 rfl (lv_at hl 1 rfl) ?_
    refine z_wi (z_runV (As := [.ref (a 6)]) (rest := []) ⟨hx, hb, hml, hown, hts⟩ (c_XTr_perform l D a k u0) (qX_Pr_95 hts (by decide)) hw 8 rfl rfl hl.1 rfl (lv_room (Nat.le_of_ble_eq_true rfl)) d_XPr_perform_435 hcs) hw hS (fun x_21 u_20 H locs ex_21 hw hS => ?_)
    have hf := hf.trans (pr_eq ex_21)
    exact hret x_21 _ _ _ _ _ d_XPr_perform_438 hw hS hf
  have hf := hf.trans (if_neg c_19)
  by_cases c_22 : x_1 = (67 : Int32)
  · have hf := hf.trans (if_pos c_22)
    refine lv_lookup (off := 426) (tgt := 430) hx hb d_XPr_perform_4 (by decide +kernel) (by rw [c_22]; decide +kernel) (by decide) ?_
    refine lv_aload_n hx hb d_XPr_perform_430 rfl (lv_at hl 0 rfl) ?_
    refine va_get (v := .ref (a 8)) hx hb hts iX_Pr hown hw.2.1 hw.1 5 rfl rfl 3 (by decide) (hts _ kX_Pr_44) (fun _ h => h) rfl d_XPr_perform_431 ?_
    refine lv_aload_n hx hb d_XPr_perform_434 rfl (lv_at hl 1 rfl) ?_
    refine z_wi (z_runV (As := [.ref (a 6)]) (rest := []) ⟨hx, hb, hml, hown, hts⟩ (c_XTr_perform l D a k u0) (qX_Pr_95 hts (by decide)) hw 8 rfl rfl hl.1 rfl (lv_room (Nat.le_of_ble_eq_true rfl)) d_XPr_perform_435 hcs) hw hS (fun x_24 u_23 H locs ex_24 hw hS => ?_)
    have hf := hf.trans (pr_eq ex_24)
    exact hret x_24 _ _ _ _ _ d_XPr_perform_438 hw hS hf
  have hf := hf.trans (if_neg c_22)
  by_cases c_25 : x_1 = (69 : Int32)
  · have hf := hf.trans (if_pos c_25)
    refine lv_lookup (off := 417) (tgt := 421) hx hb d_XPr_perform_4 (by decide +kernel) (by rw [c_25]; decide +kernel) (by decide) ?_
    refine lv_aload_n hx hb d_XPr_perform_421 rfl (lv_at hl 0 rfl) ?_
    refine va_get (v := .ref (a 9)) hx hb hts iX_Pr hown hw.2.1 hw.1 5 rfl rfl 4 (by decide) (hts _ kX_Pr_51) (fun _ h => h) rfl d_XPr_perform_422 ?_
    refine lv_aload_n hx hb d_XPr_perform_425 rfl (lv_at hl 1 rfl) ?_
    refine z_wi (z_runV (As := [.ref (a 6)]) (rest := []) ⟨hx, hb, hml, hown, hts⟩ (c_XBr_perform l D a k u0) (qX_Pr_94 hts (by decide)) hw 9 rfl rfl hl.1 rfl (lv_room (Nat.le_of_ble_eq_true rfl)) d_XPr_perform_426 hcs) hw hS (fun x_27 u_26 H locs ex_27 hw hS => ?_)
    have hf := hf.trans (pr_eq ex_27)
    exact hret x_27 _ _ _ _ _ d_XPr_perform_429 hw hS hf
  have hf := hf.trans (if_neg c_25)
  by_cases c_28 : x_1 = (70 : Int32)
  · have hf := hf.trans (if_pos c_28)
    refine lv_lookup (off := 417) (tgt := 421) hx hb d_XPr_perform_4 (by decide +kernel) (by rw [c_28]; decide +kernel) (by decide) ?_
    refine lv_aload_n hx hb d_XPr_perform_421 rfl (lv_at hl 0 rfl) ?_
    refine va_get (v := .ref (a 9)) hx hb hts iX_Pr hown hw.2.1 hw.1 5 rfl rfl 4 (by decide) (hts _ kX_Pr_51) (fun _ h => h) rfl d_XPr_perform_422 ?_
    refine lv_aload_n hx hb d_XPr_perform_425 rfl (lv_at hl 1 rfl) ?_
    refine z_wi (z_runV (As := [.ref (a 6)]) (rest := []) ⟨hx, hb, hml, hown, hts⟩ (c_XBr_perform l D a k u0) (qX_Pr_94 hts (by decide)) hw 9 rfl rfl hl.1 rfl (lv_room (Nat.le_of_ble_eq_true rfl)) d_XPr_perform_426 hcs) hw hS (fun x_30 u_29 H locs ex_30 hw hS => ?_)
    have hf := hf.trans (pr_eq ex_30)
    exact hret x_30 _ _ _ _ _ d_XPr_perform_429 hw hS hf
  have hf := hf.trans (if_neg c_28)
  by_cases c_31 : x_1 = (71 : Int32)
  · have hf := hf.trans (if_pos c_31)
    refine lv_lookup (off := 417) (tgt := 421) hx hb d_XPr_perform_4 (by decide +kernel) (by rw [c_31]; decide +kernel) (by decide) ?_
    refine lv_aload_n hx hb d_XPr_perform_421 rfl (lv_at hl 0 rfl) ?_
    refine va_get (v := .ref (a 9)) hx hb hts iX_Pr hown hw.2.1 hw.1 5 rfl rfl 4 (by decide) (hts _ kX_Pr_51) (fun _ h => h) rfl d_XPr_perform_422 ?_
    refine lv_aload_n hx hb d_XPr_perform_425 rfl (lv_at hl 1 rfl) ?_
    refine z_wi (z_runV (As := [.ref (a 6)]) (rest := []) ⟨hx, hb, hml, hown, hts⟩ (c_XBr_perform l D a k u0) (qX_Pr_94 hts (by decide)) hw 9 rfl rfl hl.1 rfl (lv_room (Nat.le_of_ble_eq_true rfl)) d_XPr_perform_426 hcs) hw hS (fun x_33 u_32 H locs ex_33 hw hS => ?_)
    have hf := hf.trans (pr_eq ex_33)
    exact hret x_33 _ _ _ _ _ d_XPr_perform_429 hw hS hf
  have hf := hf.trans (if_neg c_31)
  by_cases c_34 : x_1 = (72 : Int32)
  · have hf := hf.trans (if_pos c_34)
    refine lv_lookup (off := 435) (tgt := 439) hx hb d_XPr_perform_4 (by decide +kernel) (by rw [c_34]; decide +kernel) (by decide) ?_
    refine lv_aload_n hx hb d_XPr_perform_439 rfl (lv_at hl 0 rfl) ?_
    refine va_get (v := .ref (a 7)) hx hb hts iX_Pr hown hw.2.1 hw.1 5 rfl rfl 2 (by decide) (hts _ kX_Pr_37) (fun _ h => h) rfl d_XPr_perform_440 ?_
    refine lv_aload_n hx hb d_XPr_perform_443 rfl (lv_at hl 1 rfl) ?_
    refine z_wi (z_runV (As := [.ref (a 6)]) (rest := []) ⟨hx, hb, hml, hown, hts⟩ (c_XAr_withHalf l D a k u0) (qX_Pr_96 hts (by decide)) hw 7 rfl rfl hl.1 rfl (lv_room (Nat.le_of_ble_eq_true rfl)) d_XPr_perform_444 hcs) hw hS (fun x_36 u_35 H locs ex_36 hw hS => ?_)
    have hf := hf.trans (pr_eq ex_36)
    exact hret x_36 _ _ _ _ _ d_XPr_perform_447 hw hS hf
  have hf := hf.trans (if_neg c_34)
  by_cases c_37 : x_1 = (73 : Int32)
  · have hf := hf.trans (if_pos c_37)
    refine lv_lookup (off := 435) (tgt := 439) hx hb d_XPr_perform_4 (by decide +kernel) (by rw [c_37]; decide +kernel) (by decide) ?_
    refine lv_aload_n hx hb d_XPr_perform_439 rfl (lv_at hl 0 rfl) ?_
    refine va_get (v := .ref (a 7)) hx hb hts iX_Pr hown hw.2.1 hw.1 5 rfl rfl 2 (by decide) (hts _ kX_Pr_37) (fun _ h => h) rfl d_XPr_perform_440 ?_
    refine lv_aload_n hx hb d_XPr_perform_443 rfl (lv_at hl 1 rfl) ?_
    refine z_wi (z_runV (As := [.ref (a 6)]) (rest := []) ⟨hx, hb, hml, hown, hts⟩ (c_XAr_withHalf l D a k u0) (qX_Pr_96 hts (by decide)) hw 7 rfl rfl hl.1 rfl (lv_room (Nat.le_of_ble_eq_true rfl)) d_XPr_perform_444 hcs) hw hS (fun x_39 u_38 H locs ex_39 hw hS => ?_)
    have hf := hf.trans (pr_eq ex_39)
    exact hret x_39 _ _ _ _ _ d_XPr_perform_447 hw hS hf
  have hf := hf.trans (if_neg c_37)
  by_cases c_40 : x_1 = (74 : Int32)
  · have hf := hf.trans (if_pos c_40)
    refine lv_lookup (off := 435) (tgt := 439) hx hb d_XPr_perform_4 (by decide +kernel) (by rw [c_40]; decide +kernel) (by decide) ?_
    refine lv_aload_n hx hb d_XPr_perform_439 rfl (lv_at hl 0 rfl) ?_
    refine va_get (v := .ref (a 7)) hx hb hts iX_Pr hown hw.2.1 hw.1 5 rfl rfl 2 (by decide) (hts _ kX_Pr_37) (fun _ h => h) rfl d_XPr_perform_440 ?_
    refine lv_aload_n hx hb d_XPr_perform_443 rfl (lv_at hl 1 rfl) ?_
    refine z_wi (z_runV (As := [.ref (a 6)]) (rest := []) ⟨hx, hb, hml, hown, hts⟩ (c_XAr_withHalf l D a k u0) (qX_Pr_96 hts (by decide)) hw 7 rfl rfl hl.1 rfl (lv_room (Nat.le_of_ble_eq_true rfl)) d_XPr_perform_444 hcs) hw hS (fun x_42 u_41 H locs ex_42 hw hS => ?_)
    have hf := hf.trans (pr_eq ex_42)
    exact hret x_42 _ _ _ _ _ d_XPr_perform_447 hw hS hf
  have hf := hf.trans (if_neg c_40)
  by_cases c_43 : x_1 = (75 : Int32)
  · have hf := hf.trans (if_pos c_43)
    refine lv_lookup (off := 435) (tgt := 439) hx hb d_XPr_perform_4 (by decide +kernel) (by rw [c_43]; decide +kernel) (by decide) ?_
    refine lv_aload_n hx hb d_XPr_perform_439 rfl (lv_at hl 0 rfl) ?_
    refine va_get (v := .ref (a 7)) hx hb hts iX_Pr hown hw.2.1 hw.1 5 rfl rfl 2 (by decide) (hts _ kX_Pr_37) (fun _ h => h) rfl d_XPr_perform_440 ?_
    refine lv_aload_n hx hb d_XPr_perform_443 rfl (lv_at hl 1 rfl) ?_
    refine z_wi (z_runV (As := [.ref (a 6)]) (rest := []) ⟨hx, hb, hml, hown, hts⟩ (c_XAr_withHalf l D a k u0) (qX_Pr_96 hts (by decide)) hw 7 rfl rfl hl.1 rfl (lv_room (Nat.le_of_ble_eq_true rfl)) d_XPr_perform_444 hcs) hw hS (fun x_45 u_44 H locs ex_45 hw hS => ?_)
    have hf := hf.trans (pr_eq ex_45)
    exact hret x_45 _ _ _ _ _ d_XPr_perform_447 hw hS hf
  have hf := hf.trans (if_neg c_43)
  by_cases c_46 : x_1 = (76 : Int32)
  · have hf := hf.trans (if_pos c_46)
    refine lv_lookup (off := 435) (tgt := 439) hx hb d_XPr_perform_4 (by decide +kernel) (by rw [c_46]; decide +kernel) (by decide) ?_
    refine lv_aload_n hx hb d_XPr_perform_439 rfl (lv_at hl 0 rfl) ?_
    refine va_get (v := .ref (a 7)) hx hb hts iX_Pr hown hw.2.1 hw.1 5 rfl rfl 2 (by decide) (hts _ kX_Pr_37) (fun _ h => h) rfl d_XPr_perform_440 ?_
    refine lv_aload_n hx hb d_XPr_perform_443 rfl (lv_at hl 1 rfl) ?_
    refine z_wi (z_runV (As := [.ref (a 6)]) (rest := []) ⟨hx, hb, hml, hown, hts⟩ (c_XAr_withHalf l D a k u0) (qX_Pr_96 hts (by decide)) hw 7 rfl rfl hl.1 rfl (lv_room (Nat.le_of_ble_eq_true rfl)) d_XPr_perform_444 hcs) hw hS (fun x_48 u_47 H locs ex_48 hw hS => ?_)
    have hf := hf.trans (pr_eq ex_48)
    exact hret x_48 _ _ _ _ _ d_XPr_perform_447 hw hS hf
  have hf := hf.trans (if_neg c_46)
  by_cases c_49 : x_1 = (78 : Int32)
  · have hf := hf.trans (if_pos c_49)
    refine lv_lookup (off := 444) (tgt := 448) hx hb d_XPr_perform_4 (by decide +kernel) (by rw [c_49]; decide +kernel) (by decide) ?_
    refine lv_aload_n hx hb d_XPr_perform_448 rfl (lv_at hl 0 rfl) ?_
    refine va_get (v := .ref (a 11)) hx hb hts iX_Pr hown hw.2.1 hw.1 5 rfl rfl 6 (by decide) (hts _ kX_Pr_65) (fun _ h => h) rfl d_XPr_perform_449 ?_
    refine lv_aload_n hx hb d_XPr_perform_452 rfl (lv_at hl 1 rfl) ?_
    refine z_wi (z_runV (As := [.ref (a 6)]) (rest := []) ⟨hx, hb, hml, hown, hts⟩ (c_XDe_convert l D a k u0) (qX_Pr_99 hts (by decide)) hw 11 rfl rfl hl.1 rfl (lv_room (Nat.le_of_ble_eq_true rfl)) d_XPr_perform_453 hcs) hw hS (fun x_51 u_50 H locs ex_51 hw hS => ?_)
    have hf := hf.trans (pr_eq ex_51)
    exact hret x_51 _ _ _ _ _ d_XPr_perform_456 hw hS hf
  have hf := hf.trans (if_neg c_49)
  by_cases c_52 : x_1 = (79 : Int32)
  · have hf := hf.trans (if_pos c_52)
    refine lv_lookup (off := 444) (tgt := 448) hx hb d_XPr_perform_4 (by decide +kernel) (by rw [c_52]; decide +kernel) (by decide) ?_
    refine lv_aload_n hx hb d_XPr_perform_448 rfl (lv_at hl 0 rfl) ?_
    refine va_get (v := .ref (a 11)) hx hb hts iX_Pr hown hw.2.1 hw.1 5 rfl rfl 6 (by decide) (hts _ kX_Pr_65) (fun _ h => h) rfl d_XPr_perform_449 ?_
    refine lv_aload_n hx hb d_XPr_perform_452 rfl (lv_at hl 1 rfl) ?_
    refine z_wi (z_runV (As := [.ref (a 6)]) (rest := []) ⟨hx, hb, hml, hown, hts⟩ (c_XDe_convert l D a k u0) (qX_Pr_99 hts (by decide)) hw 11 rfl rfl hl.1 rfl (lv_room (Nat.le_of_ble_eq_true rfl)) d_XPr_perform_453 hcs) hw hS (fun x_54 u_53 H locs ex_54 hw hS => ?_)
    have hf := hf.trans (pr_eq ex_54)
    exact hret x_54 _ _ _ _ _ d_XPr_perform_456 hw hS hf
  have hf := hf.trans (if_neg c_52)
  by_cases c_55 : x_1 = (80 : Int32)
  · have hf := hf.trans (if_pos c_55)
    refine lv_lookup (off := 426) (tgt := 430) hx hb d_XPr_perform_4 (by decide +kernel) (by rw [c_55]; decide +kernel) (by decide) ?_
    refine lv_aload_n hx hb d_XPr_perform_430 rfl (lv_at hl 0 rfl) ?_
    refine va_get (v := .ref (a 8)) hx hb hts iX_Pr hown hw.2.1 hw.1 5 rfl rfl 3 (by decide) (hts _ kX_Pr_44) (fun _ h => h) rfl d_XPr_perform_431 ?_
    refine lv_aload_n hx hb d_XPr_perform_434 rfl (lv_at hl 1 rfl) ?_
    refine z_wi (z_runV (As := [.ref (a 6)]) (rest := []) ⟨hx, hb, hml, hown, hts⟩ (c_XTr_perform l D a k u0) (qX_Pr_95 hts (by decide)) hw 8 rfl rfl hl.1 rfl (lv_room (Nat.le_of_ble_eq_true rfl)) d_XPr_perform_435 hcs) hw hS (fun x_57 u_56 H locs ex_57 hw hS => ?_)
    have hf := hf.trans (pr_eq ex_57)
    exact hret x_57 _ _ _ _ _ d_XPr_perform_438 hw hS hf
  have hf := hf.trans (if_neg c_55)
  by_cases c_58 : x_1 = (134 : Int32)
  · have hf := hf.trans (if_pos c_58)
    refine lv_lookup (off := 417) (tgt := 421) hx hb d_XPr_perform_4 (by decide +kernel) (by rw [c_58]; decide +kernel) (by decide) ?_
    refine lv_aload_n hx hb d_XPr_perform_421 rfl (lv_at hl 0 rfl) ?_
    refine va_get (v := .ref (a 9)) hx hb hts iX_Pr hown hw.2.1 hw.1 5 rfl rfl 4 (by decide) (hts _ kX_Pr_51) (fun _ h => h) rfl d_XPr_perform_422 ?_
    refine lv_aload_n hx hb d_XPr_perform_425 rfl (lv_at hl 1 rfl) ?_
    refine z_wi (z_runV (As := [.ref (a 6)]) (rest := []) ⟨hx, hb, hml, hown, hts⟩ (c_XBr_perform l D a k u0) (qX_Pr_94 hts (by decide)) hw 9 rfl rfl hl.1 rfl (lv_room (Nat.le_of_ble_eq_true rfl)) d_XPr_perform_426 hcs) hw hS (fun x_60 u_59 H locs ex_60 hw hS => ?_)
    have hf := hf.trans (pr_eq ex_60)
    exact hret x_60 _ _ _ _ _ d_XPr_perform_429 hw hS hf
  have hf := hf.trans (if_neg c_58)
  by_cases c_61 : x_1 = (135 : Int32)
  · have hf := hf.trans (if_pos c_61)
    refine lv_lookup (off := 417) (tgt := 421) hx hb d_XPr_perform_4 (by decide +kernel) (by rw [c_61]; decide +kernel) (by decide) ?_
    refine lv_aload_n hx hb d_XPr_perform_421 rfl (lv_at hl 0 rfl) ?_
    refine va_get (v := .ref (a 9)) hx hb hts iX_Pr hown hw.2.1 hw.1 5 rfl rfl 4 (by decide) (hts _ kX_Pr_51) (fun _ h => h) rfl d_XPr_perform_422 ?_
    refine lv_aload_n hx hb d_XPr_perform_425 rfl (lv_at hl 1 rfl) ?_
    refine z_wi (z_runV (As := [.ref (a 6)]) (rest := []) ⟨hx, hb, hml, hown, hts⟩ (c_XBr_perform l D a k u0) (qX_Pr_94 hts (by decide)) hw 9 rfl rfl hl.1 rfl (lv_room (Nat.le_of_ble_eq_true rfl)) d_XPr_perform_426 hcs) hw hS (fun x_63 u_62 H locs ex_63 hw hS => ?_)
    have hf := hf.trans (pr_eq ex_63)
    exact hret x_63 _ _ _ _ _ d_XPr_perform_429 hw hS hf
  have hf := hf.trans (if_neg c_61)
  by_cases c_64 : x_1 = (136 : Int32)
  · have hf := hf.trans (if_pos c_64)
    refine lv_lookup (off := 453) (tgt := 457) hx hb d_XPr_perform_4 (by decide +kernel) (by rw [c_64]; decide +kernel) (by decide) ?_
    refine lv_aload_n hx hb d_XPr_perform_457 rfl (lv_at hl 0 rfl) ?_
    refine va_get (v := .ref (a 7)) hx hb hts iX_Pr hown hw.2.1 hw.1 5 rfl rfl 2 (by decide) (hts _ kX_Pr_37) (fun _ h => h) rfl d_XPr_perform_458 ?_
    refine lv_aload_n hx hb d_XPr_perform_461 rfl (lv_at hl 1 rfl) ?_
    refine z_wi (z_runV (As := [.ref (a 6)]) (rest := []) ⟨hx, hb, hml, hown, hts⟩ (c_XAr_shift l D a k u0) (qX_Pr_102 hts (by decide)) hw 7 rfl rfl hl.1 rfl (lv_room (Nat.le_of_ble_eq_true rfl)) d_XPr_perform_462 hcs) hw hS (fun x_66 u_65 H locs ex_66 hw hS => ?_)
    have hf := hf.trans (pr_eq ex_66)
    exact hret x_66 _ _ _ _ _ d_XPr_perform_465 hw hS hf
  have hf := hf.trans (if_neg c_64)
  by_cases c_67 : x_1 = (137 : Int32)
  · have hf := hf.trans (if_pos c_67)
    refine lv_lookup (off := 453) (tgt := 457) hx hb d_XPr_perform_4 (by decide +kernel) (by rw [c_67]; decide +kernel) (by decide) ?_
    refine lv_aload_n hx hb d_XPr_perform_457 rfl (lv_at hl 0 rfl) ?_
    refine va_get (v := .ref (a 7)) hx hb hts iX_Pr hown hw.2.1 hw.1 5 rfl rfl 2 (by decide) (hts _ kX_Pr_37) (fun _ h => h) rfl d_XPr_perform_458 ?_
    refine lv_aload_n hx hb d_XPr_perform_461 rfl (lv_at hl 1 rfl) ?_
    refine z_wi (z_runV (As := [.ref (a 6)]) (rest := []) ⟨hx, hb, hml, hown, hts⟩ (c_XAr_shift l D a k u0) (qX_Pr_102 hts (by decide)) hw 7 rfl rfl hl.1 rfl (lv_room (Nat.le_of_ble_eq_true rfl)) d_XPr_perform_462 hcs) hw hS (fun x_69 u_68 H locs ex_69 hw hS => ?_)
    have hf := hf.trans (pr_eq ex_69)
    exact hret x_69 _ _ _ _ _ d_XPr_perform_465 hw hS hf
  have hf := hf.trans (if_neg c_67)
  by_cases c_70 : x_1 = (138 : Int32)
  · have hf := hf.trans (if_pos c_70)
    refine lv_lookup (off := 453) (tgt := 457) hx hb d_XPr_perform_4 (by decide +kernel) (by rw [c_70]; decide +kernel) (by decide) ?_
    refine lv_aload_n hx hb d_XPr_perform_457 rfl (lv_at hl 0 rfl) ?_
    refine va_get (v := .ref (a 7)) hx hb hts iX_Pr hown hw.2.1 hw.1 5 rfl rfl 2 (by decide) (hts _ kX_Pr_37) (fun _ h => h) rfl d_XPr_perform_458 ?_
    refine lv_aload_n hx hb d_XPr_perform_461 rfl (lv_at hl 1 rfl) ?_
    refine z_wi (z_runV (As := [.ref (a 6)]) (rest := []) ⟨hx, hb, hml, hown, hts⟩ (c_XAr_shift l D a k u0) (qX_Pr_102 hts (by decide)) hw 7 rfl rfl hl.1 rfl (lv_room (Nat.le_of_ble_eq_true rfl)) d_XPr_perform_462 hcs) hw hS (fun x_72 u_71 H locs ex_72 hw hS => ?_)
    have hf := hf.trans (pr_eq ex_72)
    exact hret x_72 _ _ _ _ _ d_XPr_perform_465 hw hS hf
  have hf := hf.trans (if_neg c_70)
  by_cases c_73 : x_1 = (139 : Int32)
  · have hf := hf.trans (if_pos c_73)
    refine lv_lookup (off := 453) (tgt := 457) hx hb d_XPr_perform_4 (by decide +kernel) (by rw [c_73]; decide +kernel) (by decide) ?_
    refine lv_aload_n hx hb d_XPr_perform_457 rfl (lv_at hl 0 rfl) ?_
    refine va_get (v := .ref (a 7)) hx hb hts iX_Pr hown hw.2.1 hw.1 5 rfl rfl 2 (by decide) (hts _ kX_Pr_37) (fun _ h => h) rfl d_XPr_perform_458 ?_
    refine lv_aload_n hx hb d_XPr_perform_461 rfl (lv_at hl 1 rfl) ?_
    refine z_wi (z_runV (As := [.ref (a 6)]) (rest := []) ⟨hx, hb, hml, hown, hts⟩ (c_XAr_shift l D a k u0) (qX_Pr_102 hts (by decide)) hw 7 rfl rfl hl.1 rfl (lv_room (Nat.le_of_ble_eq_true rfl)) d_XPr_perform_462 hcs) hw hS (fun x_75 u_74 H locs ex_75 hw hS => ?_)
    have hf := hf.trans (pr_eq ex_75)
    exact hret x_75 _ _ _ _ _ d_XPr_perform_465 hw hS hf
  have hf := hf.trans (if_neg c_73)
  by_cases c_76 : x_1 = (144 : Int32)
  · have hf := hf.trans (if_pos c_76)
    refine lv_lookup (off := 426) (tgt := 430) hx hb d_XPr_perform_4 (by decide +kernel) (by rw [c_76]; decide +kernel) (by decide) ?_
    refine lv_aload_n hx hb d_XPr_perform_430 rfl (lv_at hl 0 rfl) ?_
    refine va_get (v := .ref (a 8)) hx hb hts iX_Pr hown hw.2.1 hw.1 5 rfl rfl 3 (by decide) (hts _ kX_Pr_44) (fun _ h => h) rfl d_XPr_perform_431 ?_
    refine lv_aload_n hx hb d_XPr_perform_434 rfl (lv_at hl 1 rfl) ?_
    refine z_wi (z_runV (As := [.ref (a 6)]) (rest := []) ⟨hx, hb, hml, hown, hts⟩ (c_XTr_perform l D a k u0) (qX_Pr_95 hts (by decide)) hw 8 rfl rfl hl.1 rfl (lv_room (Nat.le_of_ble_eq_true rfl)) d_XPr_perform_435 hcs) hw hS (fun x_78 u_77 H locs ex_78 hw hS => ?_)
    have hf := hf.trans (pr_eq ex_78)
    exact hret x_78 _ _ _ _ _ d_XPr_perform_438 hw hS hf
  have hf := hf.trans (if_neg c_76)
  by_cases c_79 : x_1 = (145 : Int32)
  · have hf := hf.trans (if_pos c_79)
    refine lv_lookup (off := 462) (tgt := 466) hx hb d_XPr_perform_4 (by decide +kernel) (by rw [c_79]; decide +kernel) (by decide) ?_
    refine lv_aload_n hx hb d_XPr_perform_466 rfl (lv_at hl 0 rfl) ?_
    refine va_get (v := .ref (a 10)) hx hb hts iX_Pr hown hw.2.1 hw.1 5 rfl rfl 5 (by decide) (hts _ kX_Pr_58) (fun _ h => h) rfl d_XPr_perform_467 ?_
    refine lv_aload_n hx hb d_XPr_perform_470 rfl (lv_at hl 1 rfl) ?_
    refine z_wi (z_runV (As := [.ref (a 6)]) (rest := []) ⟨hx, hb, hml, hown, hts⟩ (c_XOc_withImmediate l D a k u0) (qX_Pr_105 hts (by decide)) hw 10 rfl rfl hl.1 rfl (lv_room (Nat.le_of_ble_eq_true rfl)) d_XPr_perform_471 hcs) hw hS (fun x_81 u_80 H locs ex_81 hw hS => ?_)
    have hf := hf.trans (pr_eq ex_81)
    exact hret x_81 _ _ _ _ _ d_XPr_perform_474 hw hS hf
  have hf := hf.trans (if_neg c_79)
  by_cases c_82 : x_1 = (146 : Int32)
  · have hf := hf.trans (if_pos c_82)
    refine lv_lookup (off := 462) (tgt := 466) hx hb d_XPr_perform_4 (by decide +kernel) (by rw [c_82]; decide +kernel) (by decide) ?_
    refine lv_aload_n hx hb d_XPr_perform_466 rfl (lv_at hl 0 rfl) ?_
    refine va_get (v := .ref (a 10)) hx hb hts iX_Pr hown hw.2.1 hw.1 5 rfl rfl 5 (by decide) (hts _ kX_Pr_58) (fun _ h => h) rfl d_XPr_perform_467 ?_
    refine lv_aload_n hx hb d_XPr_perform_470 rfl (lv_at hl 1 rfl) ?_
    refine z_wi (z_runV (As := [.ref (a 6)]) (rest := []) ⟨hx, hb, hml, hown, hts⟩ (c_XOc_withImmediate l D a k u0) (qX_Pr_105 hts (by decide)) hw 10 rfl rfl hl.1 rfl (lv_room (Nat.le_of_ble_eq_true rfl)) d_XPr_perform_471 hcs) hw hS (fun x_84 u_83 H locs ex_84 hw hS => ?_)
    have hf := hf.trans (pr_eq ex_84)
    exact hret x_84 _ _ _ _ _ d_XPr_perform_474 hw hS hf
  have hf := hf.trans (if_neg c_82)
  by_cases c_85 : x_1 = (148 : Int32)
  · have hf := hf.trans (if_pos c_85)
    refine lv_lookup (off := 462) (tgt := 466) hx hb d_XPr_perform_4 (by decide +kernel) (by rw [c_85]; decide +kernel) (by decide) ?_
    refine lv_aload_n hx hb d_XPr_perform_466 rfl (lv_at hl 0 rfl) ?_
    refine va_get (v := .ref (a 10)) hx hb hts iX_Pr hown hw.2.1 hw.1 5 rfl rfl 5 (by decide) (hts _ kX_Pr_58) (fun _ h => h) rfl d_XPr_perform_467 ?_
    refine lv_aload_n hx hb d_XPr_perform_470 rfl (lv_at hl 1 rfl) ?_
    refine z_wi (z_runV (As := [.ref (a 6)]) (rest := []) ⟨hx, hb, hml, hown, hts⟩ (c_XOc_withImmediate l D a k u0) (qX_Pr_105 hts (by decide)) hw 10 rfl rfl hl.1 rfl (lv_room (Nat.le_of_ble_eq_true rfl)) d_XPr_perform_471 hcs) hw hS (fun x_87 u_86 H locs ex_87 hw hS => ?_)
    have hf := hf.trans (pr_eq ex_87)
    exact hret x_87 _ _ _ _ _ d_XPr_perform_474 hw hS hf
  have hf := hf.trans (if_neg c_85)
  by_cases c_88 : x_1 = (149 : Int32)
  · have hf := hf.trans (if_pos c_88)
    refine lv_lookup (off := 462) (tgt := 466) hx hb d_XPr_perform_4 (by decide +kernel) (by rw [c_88]; decide +kernel) (by decide) ?_
    refine lv_aload_n hx hb d_XPr_perform_466 rfl (lv_at hl 0 rfl) ?_
    refine va_get (v := .ref (a 10)) hx hb hts iX_Pr hown hw.2.1 hw.1 5 rfl rfl 5 (by decide) (hts _ kX_Pr_58) (fun _ h => h) rfl d_XPr_perform_467 ?_
    refine lv_aload_n hx hb d_XPr_perform_470 rfl (lv_at hl 1 rfl) ?_
    refine z_wi (z_runV (As := [.ref (a 6)]) (rest := []) ⟨hx, hb, hml, hown, hts⟩ (c_XOc_withImmediate l D a k u0) (qX_Pr_105 hts (by decide)) hw 10 rfl rfl hl.1 rfl (lv_room (Nat.le_of_ble_eq_true rfl)) d_XPr_perform_471 hcs) hw hS (fun x_90 u_89 H locs ex_90 hw hS => ?_)
    have hf := hf.trans (pr_eq ex_90)
    exact hret x_90 _ _ _ _ _ d_XPr_perform_474 hw hS hf
  have hf := hf.trans (if_neg c_88)
  by_cases c_91 : x_1 = (150 : Int32)
  · have hf := hf.trans (if_pos c_91)
    refine lv_lookup (off := 462) (tgt := 466) hx hb d_XPr_perform_4 (by decide +kernel) (by rw [c_91]; decide +kernel) (by decide) ?_
    refine lv_aload_n hx hb d_XPr_perform_466 rfl (lv_at hl 0 rfl) ?_
    refine va_get (v := .ref (a 10)) hx hb hts iX_Pr hown hw.2.1 hw.1 5 rfl rfl 5 (by decide) (hts _ kX_Pr_58) (fun _ h => h) rfl d_XPr_perform_467 ?_
    refine lv_aload_n hx hb d_XPr_perform_470 rfl (lv_at hl 1 rfl) ?_
    refine z_wi (z_runV (As := [.ref (a 6)]) (rest := []) ⟨hx, hb, hml, hown, hts⟩ (c_XOc_withImmediate l D a k u0) (qX_Pr_105 hts (by decide)) hw 10 rfl rfl hl.1 rfl (lv_room (Nat.le_of_ble_eq_true rfl)) d_XPr_perform_471 hcs) hw hS (fun x_93 u_92 H locs ex_93 hw hS => ?_)
    have hf := hf.trans (pr_eq ex_93)
    exact hret x_93 _ _ _ _ _ d_XPr_perform_474 hw hS hf
  have hf := hf.trans (if_neg c_91)
  by_cases c_94 : x_1 = (151 : Int32)
  · have hf := hf.trans (if_pos c_94)
    refine lv_lookup (off := 462) (tgt := 466) hx hb d_XPr_perform_4 (by decide +kernel) (by rw [c_94]; decide +kernel) (by decide) ?_
    refine lv_aload_n hx hb d_XPr_perform_466 rfl (lv_at hl 0 rfl) ?_
    refine va_get (v := .ref (a 10)) hx hb hts iX_Pr hown hw.2.1 hw.1 5 rfl rfl 5 (by decide) (hts _ kX_Pr_58) (fun _ h => h) rfl d_XPr_perform_467 ?_
    refine lv_aload_n hx hb d_XPr_perform_470 rfl (lv_at hl 1 rfl) ?_
    refine z_wi (z_runV (As := [.ref (a 6)]) (rest := []) ⟨hx, hb, hml, hown, hts⟩ (c_XOc_withImmediate l D a k u0) (qX_Pr_105 hts (by decide)) hw 10 rfl rfl hl.1 rfl (lv_room (Nat.le_of_ble_eq_true rfl)) d_XPr_perform_471 hcs) hw hS (fun x_96 u_95 H locs ex_96 hw hS => ?_)
    have hf := hf.trans (pr_eq ex_96)
    exact hret x_96 _ _ _ _ _ d_XPr_perform_474 hw hS hf
  have hf := hf.trans (if_neg c_94)
  by_cases c_97 : x_1 = (152 : Int32)
  · have hf := hf.trans (if_pos c_97)
    refine lv_lookup (off := 426) (tgt := 430) hx hb d_XPr_perform_4 (by decide +kernel) (by rw [c_97]; decide +kernel) (by decide) ?_
    refine lv_aload_n hx hb d_XPr_perform_430 rfl (lv_at hl 0 rfl) ?_
    refine va_get (v := .ref (a 8)) hx hb hts iX_Pr hown hw.2.1 hw.1 5 rfl rfl 3 (by decide) (hts _ kX_Pr_44) (fun _ h => h) rfl d_XPr_perform_431 ?_
    refine lv_aload_n hx hb d_XPr_perform_434 rfl (lv_at hl 1 rfl) ?_
    refine z_wi (z_runV (As := [.ref (a 6)]) (rest := []) ⟨hx, hb, hml, hown, hts⟩ (c_XTr_perform l D a k u0) (qX_Pr_95 hts (by decide)) hw 8 rfl rfl hl.1 rfl (lv_room (Nat.le_of_ble_eq_true rfl)) d_XPr_perform_435 hcs) hw hS (fun x_99 u_98 H locs ex_99 hw hS => ?_)
    have hf := hf.trans (pr_eq ex_99)
    exact hret x_99 _ _ _ _ _ d_XPr_perform_438 hw hS hf
  have hf := hf.trans (if_neg c_97)
  by_cases c_100 : x_1 = (209 : Int32)
  · have hf := hf.trans (if_pos c_100)
    refine lv_lookup (off := 471) (tgt := 475) hx hb d_XPr_perform_4 (by decide +kernel) (by rw [c_100]; decide +kernel) (by decide) ?_
    refine lv_aload_n hx hb d_XPr_perform_475 rfl (lv_at hl 0 rfl) ?_
    refine va_get (v := .ref (a 10)) hx hb hts iX_Pr hown hw.2.1 hw.1 5 rfl rfl 5 (by decide) (hts _ kX_Pr_58) (fun _ h => h) rfl d_XPr_perform_476 ?_
    refine lv_aload_n hx hb d_XPr_perform_479 rfl (lv_at hl 1 rfl) ?_
    refine z_wi (z_runV (As := [.ref (a 6)]) (rest := []) ⟨hx, hb, hml, hown, hts⟩ (c_XOc_withField l D a k u0) (qX_Pr_108 hts (by decide)) hw 10 rfl rfl hl.1 rfl (lv_room (Nat.le_of_ble_eq_true rfl)) d_XPr_perform_480 hcs) hw hS (fun x_102 u_101 H locs ex_102 hw hS => ?_)
    have hf := hf.trans (pr_eq ex_102)
    exact hret x_102 _ _ _ _ _ d_XPr_perform_483 hw hS hf
  have hf := hf.trans (if_neg c_100)
  by_cases c_103 : x_1 = (210 : Int32)
  · have hf := hf.trans (if_pos c_103)
    refine lv_lookup (off := 471) (tgt := 475) hx hb d_XPr_perform_4 (by decide +kernel) (by rw [c_103]; decide +kernel) (by decide) ?_
    refine lv_aload_n hx hb d_XPr_perform_475 rfl (lv_at hl 0 rfl) ?_
    refine va_get (v := .ref (a 10)) hx hb hts iX_Pr hown hw.2.1 hw.1 5 rfl rfl 5 (by decide) (hts _ kX_Pr_58) (fun _ h => h) rfl d_XPr_perform_476 ?_
    refine lv_aload_n hx hb d_XPr_perform_479 rfl (lv_at hl 1 rfl) ?_
    refine z_wi (z_runV (As := [.ref (a 6)]) (rest := []) ⟨hx, hb, hml, hown, hts⟩ (c_XOc_withField l D a k u0) (qX_Pr_108 hts (by decide)) hw 10 rfl rfl hl.1 rfl (lv_room (Nat.le_of_ble_eq_true rfl)) d_XPr_perform_480 hcs) hw hS (fun x_105 u_104 H locs ex_105 hw hS => ?_)
    have hf := hf.trans (pr_eq ex_105)
    exact hret x_105 _ _ _ _ _ d_XPr_perform_483 hw hS hf
  have hf := hf.trans (if_neg c_103)
  by_cases c_106 : x_1 = (211 : Int32)
  · have hf := hf.trans (if_pos c_106)
    refine lv_lookup (off := 471) (tgt := 475) hx hb d_XPr_perform_4 (by decide +kernel) (by rw [c_106]; decide +kernel) (by decide) ?_
    refine lv_aload_n hx hb d_XPr_perform_475 rfl (lv_at hl 0 rfl) ?_
    refine va_get (v := .ref (a 10)) hx hb hts iX_Pr hown hw.2.1 hw.1 5 rfl rfl 5 (by decide) (hts _ kX_Pr_58) (fun _ h => h) rfl d_XPr_perform_476 ?_
    refine lv_aload_n hx hb d_XPr_perform_479 rfl (lv_at hl 1 rfl) ?_
    refine z_wi (z_runV (As := [.ref (a 6)]) (rest := []) ⟨hx, hb, hml, hown, hts⟩ (c_XOc_withField l D a k u0) (qX_Pr_108 hts (by decide)) hw 10 rfl rfl hl.1 rfl (lv_room (Nat.le_of_ble_eq_true rfl)) d_XPr_perform_480 hcs) hw hS (fun x_108 u_107 H locs ex_108 hw hS => ?_)
    have hf := hf.trans (pr_eq ex_108)
    exact hret x_108 _ _ _ _ _ d_XPr_perform_483 hw hS hf
  have hf := hf.trans (if_neg c_106)
  by_cases c_109 : x_1 = (212 : Int32)
  · have hf := hf.trans (if_pos c_109)
    refine lv_lookup (off := 471) (tgt := 475) hx hb d_XPr_perform_4 (by decide +kernel) (by rw [c_109]; decide +kernel) (by decide) ?_
    refine lv_aload_n hx hb d_XPr_perform_475 rfl (lv_at hl 0 rfl) ?_
    refine va_get (v := .ref (a 10)) hx hb hts iX_Pr hown hw.2.1 hw.1 5 rfl rfl 5 (by decide) (hts _ kX_Pr_58) (fun _ h => h) rfl d_XPr_perform_476 ?_
    refine lv_aload_n hx hb d_XPr_perform_479 rfl (lv_at hl 1 rfl) ?_
    refine z_wi (z_runV (As := [.ref (a 6)]) (rest := []) ⟨hx, hb, hml, hown, hts⟩ (c_XOc_withField l D a k u0) (qX_Pr_108 hts (by decide)) hw 10 rfl rfl hl.1 rfl (lv_room (Nat.le_of_ble_eq_true rfl)) d_XPr_perform_480 hcs) hw hS (fun x_111 u_110 H locs ex_111 hw hS => ?_)
    have hf := hf.trans (pr_eq ex_111)
    exact hret x_111 _ _ _ _ _ d_XPr_perform_483 hw hS hf
  have hf := hf.trans (if_neg c_109)
  by_cases c_112 : x_1 = (213 : Int32)
  · have hf := hf.trans (if_pos c_112)
    refine lv_lookup (off := 471) (tgt := 475) hx hb d_XPr_perform_4 (by decide +kernel) (by rw [c_112]; decide +kernel) (by decide) ?_
    refine lv_aload_n hx hb d_XPr_perform_475 rfl (lv_at hl 0 rfl) ?_
    refine va_get (v := .ref (a 10)) hx hb hts iX_Pr hown hw.2.1 hw.1 5 rfl rfl 5 (by decide) (hts _ kX_Pr_58) (fun _ h => h) rfl d_XPr_perform_476 ?_
    refine lv_aload_n hx hb d_XPr_perform_479 rfl (lv_at hl 1 rfl) ?_
    refine z_wi (z_runV (As := [.ref (a 6)]) (rest := []) ⟨hx, hb, hml, hown, hts⟩ (c_XOc_withField l D a k u0) (qX_Pr_108 hts (by decide)) hw 10 rfl rfl hl.1 rfl (lv_room (Nat.le_of_ble_eq_true rfl)) d_XPr_perform_480 hcs) hw hS (fun x_114 u_113 H locs ex_114 hw hS => ?_)
    have hf := hf.trans (pr_eq ex_114)
    exact hret x_114 _ _ _ _ _ d_XPr_perform_483 hw hS hf
  have hf := hf.trans (if_neg c_112)
  by_cases c_115 : x_1 = (214 : Int32)
  · have hf := hf.trans (if_pos c_115)
    refine lv_lookup (off := 471) (tgt := 475) hx hb d_XPr_perform_4 (by decide +kernel) (by rw [c_115]; decide +kernel) (by decide) ?_
    refine lv_aload_n hx hb d_XPr_perform_475 rfl (lv_at hl 0 rfl) ?_
    refine va_get (v := .ref (a 10)) hx hb hts iX_Pr hown hw.2.1 hw.1 5 rfl rfl 5 (by decide) (hts _ kX_Pr_58) (fun _ h => h) rfl d_XPr_perform_476 ?_
    refine lv_aload_n hx hb d_XPr_perform_479 rfl (lv_at hl 1 rfl) ?_
    refine z_wi (z_runV (As := [.ref (a 6)]) (rest := []) ⟨hx, hb, hml, hown, hts⟩ (c_XOc_withField l D a k u0) (qX_Pr_108 hts (by decide)) hw 10 rfl rfl hl.1 rfl (lv_room (Nat.le_of_ble_eq_true rfl)) d_XPr_perform_480 hcs) hw hS (fun x_117 u_116 H locs ex_117 hw hS => ?_)
    have hf := hf.trans (pr_eq ex_117)
    exact hret x_117 _ _ _ _ _ d_XPr_perform_483 hw hS hf
  have hf := hf.trans (if_neg c_115)
  by_cases c_118 : x_1 = (215 : Int32)
  · have hf := hf.trans (if_pos c_118)
    refine lv_lookup (off := 471) (tgt := 475) hx hb d_XPr_perform_4 (by decide +kernel) (by rw [c_118]; decide +kernel) (by decide) ?_
    refine lv_aload_n hx hb d_XPr_perform_475 rfl (lv_at hl 0 rfl) ?_
    refine va_get (v := .ref (a 10)) hx hb hts iX_Pr hown hw.2.1 hw.1 5 rfl rfl 5 (by decide) (hts _ kX_Pr_58) (fun _ h => h) rfl d_XPr_perform_476 ?_
    refine lv_aload_n hx hb d_XPr_perform_479 rfl (lv_at hl 1 rfl) ?_
    refine z_wi (z_runV (As := [.ref (a 6)]) (rest := []) ⟨hx, hb, hml, hown, hts⟩ (c_XOc_withField l D a k u0) (qX_Pr_108 hts (by decide)) hw 10 rfl rfl hl.1 rfl (lv_room (Nat.le_of_ble_eq_true rfl)) d_XPr_perform_480 hcs) hw hS (fun x_120 u_119 H locs ex_120 hw hS => ?_)
    have hf := hf.trans (pr_eq ex_120)
    exact hret x_120 _ _ _ _ _ d_XPr_perform_483 hw hS hf
  have hf := hf.trans (if_neg c_118)
  by_cases c_121 : x_1 = (220 : Int32)
  · have hf := hf.trans (if_pos c_121)
    refine lv_lookup (off := 471) (tgt := 475) hx hb d_XPr_perform_4 (by decide +kernel) (by rw [c_121]; decide +kernel) (by decide) ?_
    refine lv_aload_n hx hb d_XPr_perform_475 rfl (lv_at hl 0 rfl) ?_
    refine va_get (v := .ref (a 10)) hx hb hts iX_Pr hown hw.2.1 hw.1 5 rfl rfl 5 (by decide) (hts _ kX_Pr_58) (fun _ h => h) rfl d_XPr_perform_476 ?_
    refine lv_aload_n hx hb d_XPr_perform_479 rfl (lv_at hl 1 rfl) ?_
    refine z_wi (z_runV (As := [.ref (a 6)]) (rest := []) ⟨hx, hb, hml, hown, hts⟩ (c_XOc_withField l D a k u0) (qX_Pr_108 hts (by decide)) hw 10 rfl rfl hl.1 rfl (lv_room (Nat.le_of_ble_eq_true rfl)) d_XPr_perform_480 hcs) hw hS (fun x_123 u_122 H locs ex_123 hw hS => ?_)
    have hf := hf.trans (pr_eq ex_123)
    exact hret x_123 _ _ _ _ _ d_XPr_perform_483 hw hS hf
  have hf := hf.trans (if_neg c_121)
  by_cases c_124 : x_1 = (242 : Int32)
  · have hf := hf.trans (if_pos c_124)
    refine lv_lookup (off := 480) (tgt := 484) hx hb d_XPr_perform_4 (by decide +kernel) (by rw [c_124]; decide +kernel) (by decide) ?_
    refine lv_aload_n hx hb d_XPr_perform_484 rfl (lv_at hl 0 rfl) ?_
    refine va_get (v := .ref (a 11)) hx hb hts iX_Pr hown hw.2.1 hw.1 5 rfl rfl 6 (by decide) (hts _ kX_Pr_65) (fun _ h => h) rfl d_XPr_perform_485 ?_
    refine lv_aload_n hx hb d_XPr_perform_488 rfl (lv_at hl 1 rfl) ?_
    refine z_wi (z_runV (As := [.ref (a 6)]) (rest := []) ⟨hx, hb, hml, hown, hts⟩ (c_XDe_changeForm l D a k u0) (qX_Pr_111 hts (by decide)) hw 11 rfl rfl hl.1 rfl (lv_room (Nat.le_of_ble_eq_true rfl)) d_XPr_perform_489 hcs) hw hS (fun x_126 u_125 H locs ex_126 hw hS => ?_)
    have hf := hf.trans (pr_eq ex_126)
    exact hret x_126 _ _ _ _ _ d_XPr_perform_492 hw hS hf
  have hf := hf.trans (if_neg c_124)
  by_cases c_127 : x_1 = (243 : Int32)
  · have hf := hf.trans (if_pos c_127)
    refine lv_lookup (off := 480) (tgt := 484) hx hb d_XPr_perform_4 (by decide +kernel) (by rw [c_127]; decide +kernel) (by decide) ?_
    refine lv_aload_n hx hb d_XPr_perform_484 rfl (lv_at hl 0 rfl) ?_
    refine va_get (v := .ref (a 11)) hx hb hts iX_Pr hown hw.2.1 hw.1 5 rfl rfl 6 (by decide) (hts _ kX_Pr_65) (fun _ h => h) rfl d_XPr_perform_485 ?_
    refine lv_aload_n hx hb d_XPr_perform_488 rfl (lv_at hl 1 rfl) ?_
    refine z_wi (z_runV (As := [.ref (a 6)]) (rest := []) ⟨hx, hb, hml, hown, hts⟩ (c_XDe_changeForm l D a k u0) (qX_Pr_111 hts (by decide)) hw 11 rfl rfl hl.1 rfl (lv_room (Nat.le_of_ble_eq_true rfl)) d_XPr_perform_489 hcs) hw hS (fun x_129 u_128 H locs ex_129 hw hS => ?_)
    have hf := hf.trans (pr_eq ex_129)
    exact hret x_129 _ _ _ _ _ d_XPr_perform_492 hw hS hf
  have hf := hf.trans (if_neg c_127)
  by_cases c_130 : x_1 = (248 : Int32)
  · have hf := hf.trans (if_pos c_130)
    refine lv_lookup (off := 489) (tgt := 493) hx hb d_XPr_perform_4 (by decide +kernel) (by rw [c_130]; decide +kernel) (by decide) ?_
    refine lv_aload_n hx hb d_XPr_perform_493 rfl (lv_at hl 0 rfl) ?_
    refine va_get (v := .ref (a 11)) hx hb hts iX_Pr hown hw.2.1 hw.1 5 rfl rfl 6 (by decide) (hts _ kX_Pr_65) (fun _ h => h) rfl d_XPr_perform_494 ?_
    refine lv_aload_n hx hb d_XPr_perform_497 rfl (lv_at hl 1 rfl) ?_
    refine z_wi (z_runV (As := [.ref (a 6)]) (rest := []) ⟨hx, hb, hml, hown, hts⟩ (c_XDe_calculate l D a k u0) (qX_Pr_114 hts (by decide)) hw 11 rfl rfl hl.1 rfl (lv_room (Nat.le_of_ble_eq_true rfl)) d_XPr_perform_498 hcs) hw hS (fun x_132 u_131 H locs ex_132 hw hS => ?_)
    have hf := hf.trans (pr_eq ex_132)
    exact hret x_132 _ _ _ _ _ d_XPr_perform_501 hw hS hf
  have hf := hf.trans (if_neg c_130)
  by_cases c_133 : x_1 = (249 : Int32)
  · have hf := hf.trans (if_pos c_133)
    refine lv_lookup (off := 489) (tgt := 493) hx hb d_XPr_perform_4 (by decide +kernel) (by rw [c_133]; decide +kernel) (by decide) ?_
    refine lv_aload_n hx hb d_XPr_perform_493 rfl (lv_at hl 0 rfl) ?_
    refine va_get (v := .ref (a 11)) hx hb hts iX_Pr hown hw.2.1 hw.1 5 rfl rfl 6 (by decide) (hts _ kX_Pr_65) (fun _ h => h) rfl d_XPr_perform_494 ?_
    refine lv_aload_n hx hb d_XPr_perform_497 rfl (lv_at hl 1 rfl) ?_
    refine z_wi (z_runV (As := [.ref (a 6)]) (rest := []) ⟨hx, hb, hml, hown, hts⟩ (c_XDe_calculate l D a k u0) (qX_Pr_114 hts (by decide)) hw 11 rfl rfl hl.1 rfl (lv_room (Nat.le_of_ble_eq_true rfl)) d_XPr_perform_498 hcs) hw hS (fun x_135 u_134 H locs ex_135 hw hS => ?_)
    have hf := hf.trans (pr_eq ex_135)
    exact hret x_135 _ _ _ _ _ d_XPr_perform_501 hw hS hf
  have hf := hf.trans (if_neg c_133)
  by_cases c_136 : x_1 = (250 : Int32)
  · have hf := hf.trans (if_pos c_136)
    refine lv_lookup (off := 489) (tgt := 493) hx hb d_XPr_perform_4 (by decide +kernel) (by rw [c_136]; decide +kernel) (by decide) ?_
    refine lv_aload_n hx hb d_XPr_perform_493 rfl (lv_at hl 0 rfl) ?_
    refine va_get (v := .ref (a 11)) hx hb hts iX_Pr hown hw.2.1 hw.1 5 rfl rfl 6 (by decide) (hts _ kX_Pr_65) (fun _ h => h) rfl d_XPr_perform_494 ?_
    refine lv_aload_n hx hb d_XPr_perform_497 rfl (lv_at hl 1 rfl) ?_
    refine z_wi (z_runV (As := [.ref (a 6)]) (rest := []) ⟨hx, hb, hml, hown, hts⟩ (c_XDe_calculate l D a k u0) (qX_Pr_114 hts (by decide)) hw 11 rfl rfl hl.1 rfl (lv_room (Nat.le_of_ble_eq_true rfl)) d_XPr_perform_498 hcs) hw hS (fun x_138 u_137 H locs ex_138 hw hS => ?_)
    have hf := hf.trans (pr_eq ex_138)
    exact hret x_138 _ _ _ _ _ d_XPr_perform_501 hw hS hf
  have hf := hf.trans (if_neg c_136)
  by_cases c_139 : x_1 = (251 : Int32)
  · have hf := hf.trans (if_pos c_139)
    refine lv_lookup (off := 489) (tgt := 493) hx hb d_XPr_perform_4 (by decide +kernel) (by rw [c_139]; decide +kernel) (by decide) ?_
    refine lv_aload_n hx hb d_XPr_perform_493 rfl (lv_at hl 0 rfl) ?_
    refine va_get (v := .ref (a 11)) hx hb hts iX_Pr hown hw.2.1 hw.1 5 rfl rfl 6 (by decide) (hts _ kX_Pr_65) (fun _ h => h) rfl d_XPr_perform_494 ?_
    refine lv_aload_n hx hb d_XPr_perform_497 rfl (lv_at hl 1 rfl) ?_
    refine z_wi (z_runV (As := [.ref (a 6)]) (rest := []) ⟨hx, hb, hml, hown, hts⟩ (c_XDe_calculate l D a k u0) (qX_Pr_114 hts (by decide)) hw 11 rfl rfl hl.1 rfl (lv_room (Nat.le_of_ble_eq_true rfl)) d_XPr_perform_498 hcs) hw hS (fun x_141 u_140 H locs ex_141 hw hS => ?_)
    have hf := hf.trans (pr_eq ex_141)
    exact hret x_141 _ _ _ _ _ d_XPr_perform_501 hw hS hf
  have hf := hf.trans (if_neg c_139)
  by_cases c_142 : x_1 = (252 : Int32)
  · have hf := hf.trans (if_pos c_142)
    refine lv_lookup (off := 489) (tgt := 493) hx hb d_XPr_perform_4 (by decide +kernel) (by rw [c_142]; decide +kernel) (by decide) ?_
    refine lv_aload_n hx hb d_XPr_perform_493 rfl (lv_at hl 0 rfl) ?_
    refine va_get (v := .ref (a 11)) hx hb hts iX_Pr hown hw.2.1 hw.1 5 rfl rfl 6 (by decide) (hts _ kX_Pr_65) (fun _ h => h) rfl d_XPr_perform_494 ?_
    refine lv_aload_n hx hb d_XPr_perform_497 rfl (lv_at hl 1 rfl) ?_
    refine z_wi (z_runV (As := [.ref (a 6)]) (rest := []) ⟨hx, hb, hml, hown, hts⟩ (c_XDe_calculate l D a k u0) (qX_Pr_114 hts (by decide)) hw 11 rfl rfl hl.1 rfl (lv_room (Nat.le_of_ble_eq_true rfl)) d_XPr_perform_498 hcs) hw hS (fun x_144 u_143 H locs ex_144 hw hS => ?_)
    have hf := hf.trans (pr_eq ex_144)
    exact hret x_144 _ _ _ _ _ d_XPr_perform_501 hw hS hf
  have hf := hf.trans (if_neg c_142)
  by_cases c_145 : x_1 = (253 : Int32)
  · have hf := hf.trans (if_pos c_145)
    refine lv_lookup (off := 489) (tgt := 493) hx hb d_XPr_perform_4 (by decide +kernel) (by rw [c_145]; decide +kernel) (by decide) ?_
    refine lv_aload_n hx hb d_XPr_perform_493 rfl (lv_at hl 0 rfl) ?_
    refine va_get (v := .ref (a 11)) hx hb hts iX_Pr hown hw.2.1 hw.1 5 rfl rfl 6 (by decide) (hts _ kX_Pr_65) (fun _ h => h) rfl d_XPr_perform_494 ?_
    refine lv_aload_n hx hb d_XPr_perform_497 rfl (lv_at hl 1 rfl) ?_
    refine z_wi (z_runV (As := [.ref (a 6)]) (rest := []) ⟨hx, hb, hml, hown, hts⟩ (c_XDe_calculate l D a k u0) (qX_Pr_114 hts (by decide)) hw 11 rfl rfl hl.1 rfl (lv_room (Nat.le_of_ble_eq_true rfl)) d_XPr_perform_498 hcs) hw hS (fun x_147 u_146 H locs ex_147 hw hS => ?_)
    have hf := hf.trans (pr_eq ex_147)
    exact hret x_147 _ _ _ _ _ d_XPr_perform_501 hw hS hf
  have hf := hf.trans (if_neg c_145)
  refine lv_lookup (off := 498) (tgt := 502) hx hb d_XPr_perform_4 (by decide +kernel) (by rw [lv_osw c_2 (by decide +kernel), lv_osw c_5 (by decide +kernel), lv_osw c_8 (by decide +kernel), lv_osw c_11 (by decide +kernel), lv_osw c_13 (by decide +kernel), lv_osw c_16 (by decide +kernel), lv_osw c_19 (by decide +kernel), lv_osw c_22 (by decide +kernel), lv_osw c_25 (by decide +kernel), lv_osw c_28 (by decide +kernel), lv_osw c_31 (by decide +kernel), lv_osw c_34 (by decide +kernel), lv_osw c_37 (by decide +kernel), lv_osw c_40 (by decide +kernel), lv_osw c_43 (by decide +kernel), lv_osw c_46 (by decide +kernel), lv_osw c_49 (by decide +kernel), lv_osw c_52 (by decide +kernel), lv_osw c_55 (by decide +kernel), lv_osw c_58 (by decide +kernel), lv_osw c_61 (by decide +kernel), lv_osw c_64 (by decide +kernel), lv_osw c_67 (by decide +kernel), lv_osw c_70 (by decide +kernel), lv_osw c_73 (by decide +kernel), lv_osw c_76 (by decide +kernel), lv_osw c_79 (by decide +kernel), lv_osw c_82 (by decide +kernel), lv_osw c_85 (by decide +kernel), lv_osw c_88 (by decide +kernel), lv_osw c_91 (by decide +kernel), lv_osw c_94 (by decide +kernel), lv_osw c_97 (by decide +kernel), lv_osw c_100 (by decide +kernel), lv_osw c_103 (by decide +kernel), lv_osw c_106 (by decide +kernel), lv_osw c_109 (by decide +kernel), lv_osw c_112 (by decide +kernel), lv_osw c_115 (by decide +kernel), lv_osw c_118 (by decide +kernel), lv_osw c_121 (by decide +kernel), lv_osw c_124 (by decide +kernel), lv_osw c_127 (by decide +kernel), lv_osw c_130 (by decide +kernel), lv_osw c_133 (by decide +kernel), lv_osw c_136 (by decide +kernel), lv_osw c_139 (by decide +kernel), lv_osw c_142 (by decide +kernel), lv_osw c_145 (by decide +kernel)]; rfl) (by decide) ?_
  refine lv_aload_n hx hb d_XPr_perform_502 rfl (lv_at hl 0 rfl) ?_
  refine lv_aload_n hx hb d_XPr_perform_503 rfl (lv_at hl 1 rfl) ?_
  refine z_wi (z_runV (As := [.ref (a 6)]) (rest := []) ⟨hx, hb, hml, hown, hts⟩ (c_XPr_performRegular l D a k u0) (qX_Pr_117 hts (by decide)) hw 5 rfl rfl hl.1 rfl (lv_room (Nat.le_of_ble_eq_true rfl)) d_XPr_perform_504 hcs) hw hS (fun x_149 u_148 H locs ex_149 hw hS => ?_)
  have hf := hf.trans (pr_eq ex_149)
  exact hret x_149 _ _ _ _ _ d_XPr_perform_507 hw hS hf
def f_XPr_step (u0 : XS)  : Int32 × XS := nm (xF u0 0) (fun (x_1 : Int32) => pr (f_XIn_fetch u0) (fun (x_3 : Int32) (u_2 : XS) => jn (fun (K_6 : Int32 → XS → Int32 × XS) => if x_3 = (0 : Int32) then nm (xsF u_2 0 (xF u_2 10)) (fun (u_19 : XS) => pr (f_XPr_perform u_19) (fun (x_21 : Int32) (u_20 : XS) => K_6 x_21 u_20)) else K_6 x_3 u_2) (fun (x_4 : Int32) (u_5 : XS) => jn (fun (K_8 : XS → Int32 × XS) => jn (fun (K_12 : Int32 × XS) => if x_4 = (0 : Int32) then K_12 else if x_4 = (8 : Int32) then K_12 else if x_4 = (10 : Int32) then K_12 else nm (xsF u_5 0 x_1) (fun (u_17 : XS) => K_8 u_17)) (nm (xsF u_5 11 ((xF u_5 11) + (1 : Int32))) (fun (u_13 : XS) => K_8 u_13))) (fun (u_7 : XS) => if x_4 = (0 : Int32) then (x_4, u_7) else nm (xsF u_7 12 ((xF u_7 12) + (1 : Int32))) (fun (u_10 : XS) => nm (xsF u_10 13 x_4) (fun (u_11 : XS) => (x_4, u_11)))))))
set_option maxHeartbeats 4000000 in
set_option maxRecDepth 100000 in
theorem c_XPr_step (l : Launch) (D : va_G) (a : Nat → Nat) (k : Nat → ClassId) (u0 : XS)  : zMi l y_XPr_step w_XPr_step rm_XPr_step D clX (tyX k) nwX (xW a k) [.ref (a 5)] u0 (f_XPr_step u0) := by
  generalize hF : f_XPr_step u0 = F
  have hf := hF.symm
  unfold f_XPr_step at hf
  refine zMi_of (cc := b_XPr_step) (maxL := 3) (own := RX_Pr) (by decide) rfl rfl (Nat.le_of_ble_eq_true rfl) ?_
  intro p e R st m args below meth c A H locs Q ls hR hx hb hml hown hts hw hS hret hl
  subst hR
  have hcs : 0 ≤ (rm_XPr_step).cells ∧ 0 ≤ (rm_XPr_step).slots := ⟨Nat.zero_le _, Nat.zero_le _⟩
  have hl : lv_has ls 3 [(0, .ref (a 5))] := hl
  refine lv_aload_n hx hb d_XPr_step_0 rfl (lv_at hl 0 rfl) ?_
  refine va_get (v := .ref (a 1)) hx hb hts iX_Pr hown hw.2.1 hw.1 5 rfl rfl 0 (by decide) (hts _ kX_Pr_28) (fun _ h => h) rfl d_XPr_step_1 ?_
  refine va_getN (v := .int (xF u0 0)) hx hb hts iX_St hown hw.2.1 hw.1 1 rfl rfl 2 (by decide) (va_Nw.use rfl (hw.2.2.2 _ kX_Pr_69).2) (fun _ h => h) rfl d_XPr_step_4 ?_
  refine lv_topi (fun x_1 ex_1 => ?_)
  have hf := hf.trans (nm_eq ex_1)
  refine lv_istore_n (lv' := [(1, .int x_1), (0, .ref (a 5))]) hx hb d_XPr_step_7 rfl hl (by decide) rfl (fun ls hl => ?_)
  refine lv_aload_n hx hb d_XPr_step_8 rfl (lv_at hl 1 rfl) ?_
  refine va_get (v := .ref (a 6)) hx hb hts iX_Pr hown hw.2.1 hw.1 5 rfl rfl 1 (by decide) (hts _ kX_Pr_12) (fun _ h => h) rfl d_XPr_step_9 ?_
  refine lv_aload_n hx hb d_XPr_step_12 rfl (lv_at hl 1 rfl) ?_
  refine va_get (v := .ref (a 1)) hx hb hts iX_Pr hown hw.2.1 hw.1 5 rfl rfl 0 (by decide) (hts _ kX_Pr_28) (fun _ h => h) rfl d_XPr_step_13 ?_
  refine z_wi (z_runV (As := [.ref (a 1)]) (rest := []) ⟨hx, hb, hml, hown, hts⟩ (c_XIn_fetch l D a k u0) (qX_Pr_74 hts (by decide)) hw 6 rfl rfl hl.1 rfl (lv_room (Nat.le_of_ble_eq_true rfl)) d_XPr_step_16 hcs) hw hS (fun x_3 u_2 H locs ex_3 hw hS => ?_)
  have hf := hf.trans (pr_eq ex_3)
  refine lv_istore_n (lv' := [(2, .int x_3), (1, .int x_1), (0, .ref (a 5))]) hx hb d_XPr_step_19 rfl hl (by decide) rfl (fun ls hl => ?_)
  refine lv_iload_n hx hb d_XPr_step_20 rfl (lv_at hl 0 rfl) ?_
  refine jn_cut hf (fun (K_6 : Int32 → XS → Int32 × XS) => ∀ (x_4 : Int32) (u_5 : XS), ∀ (H : Heap) (locs : List Loc), zW D clX (tyX k) nwX (xW a k) A st u_5 H → va_S A st.heap H locs → ∀ (ls : Array Slot), lv_has ls 3 [(0, .ref (a 5)), (1, .int x_1), (2, .int x_4)] → F = K_6 x_4 u_5 → W p l e rm_XPr_step st m args below meth c H locs 0 0 Q (F0 m 47 ls [])) ?_ ?_
  · intro x_4 u_5 H locs hw hS ls hl hf
    refine lv_iload_n hx hb d_XPr_step_47 rfl (lv_at hl 2 rfl) ?_
    refine jn_cut hf (fun (K_8 : XS → Int32 × XS) => ∀ (u_7 : XS), ∀ (H : Heap) (locs : List Loc), zW D clX (tyX k) nwX (xW a k) A st u_7 H → va_S A st.heap H locs → ∀ (ls : Array Slot), lv_has ls 3 [(0, .ref (a 5)), (2, .int x_4)] → F = K_8 u_7 → W p l e rm_XPr_step st m args below meth c H locs 0 0 Q (F0 m 84 ls [])) ?_ ?_
    · intro u_7 H locs hw hS ls hl hf
      refine lv_iload_n hx hb d_XPr_step_84 rfl (lv_at hl 1 rfl) ?_
      refine lv_if_eq (tgt := 103) hx hb d_XPr_step_85 (by decide) (fun c_9 => ?_) (fun c_9 => ?_)
      · have hf := hf.trans (if_pos c_9)
        refine lv_iload_n hx hb d_XPr_step_103 rfl (lv_at hl 1 rfl) ?_
        exact hret x_4 _ _ _ _ _ d_XPr_step_104 hw hS hf
      · have hf := hf.trans (if_neg c_9)
        refine lv_aload_n hx hb d_XPr_step_88 rfl (lv_at hl 0 rfl) ?_
        refine lv_dup hx hb d_XPr_step_89 rfl ?_
        refine va_get (v := .int (xF u_7 12)) hx hb hts iX_Pr hown hw.2.1 hw.1 5 rfl rfl 8 (by decide) (hts _ kX_Pr_22) (fun _ h => h) rfl d_XPr_step_90 ?_
        refine lv_iconst (v := (1 : Int32)) hx hb d_XPr_step_93 (by decide) ?_
        refine lv_iadd hx hb d_XPr_step_94 ?_
        refine z_put (u' := xsF u_7 12 ((xF u_7 12) + (1 : Int32))) hx hb hts iX_Pr tX_Pr tX_Pr_ok nX_Pr hown hw hS 5 rfl rfl 8 (by decide) (hts _ kX_Pr_22) (fun _ h => h) rfl rfl (Nat.le_of_ble_eq_true rfl) rfl d_XPr_step_95 (fun u_10 H locs eu_10 hw hS => ?_)
        have hf := hf.trans (nm_eq eu_10)
        refine lv_aload_n hx hb d_XPr_step_98 rfl (lv_at hl 0 rfl) ?_
        refine lv_iload_n hx hb d_XPr_step_99 rfl (lv_at hl 1 rfl) ?_
        refine z_put (u' := xsF u_10 13 x_4) hx hb hts iX_Pr tX_Pr tX_Pr_ok nX_Pr hown hw hS 5 rfl rfl 9 (by decide) (hts _ kX_Pr_25) (fun _ h => h) rfl rfl (Nat.le_of_ble_eq_true rfl) rfl d_XPr_step_100 (fun u_11 H locs eu_11 hw hS => ?_)
        have hf := hf.trans (nm_eq eu_11)
        refine lv_iload_n hx hb d_XPr_step_103 rfl (lv_at hl 1 rfl) ?_
        exact hret x_4 _ _ _ _ _ d_XPr_step_104 hw hS hf
    · intro K_8 hK_8 hf
      refine jn_cut hf (fun (K_12 : Int32 × XS) => ∀ (ls : Array Slot), lv_has ls 3 [(0, .ref (a 5)), (2, .int x_4)] → F = K_12 → W p l e rm_XPr_step st m args below meth c H locs 0 0 Q (F0 m 63 ls [])) ?_ ?_
      · intro ls hl hf
        refine lv_aload_n hx hb d_XPr_step_63 rfl (lv_at hl 0 rfl) ?_
        refine lv_dup hx hb d_XPr_step_64 rfl ?_
        refine va_get (v := .int (xF u_5 11)) hx hb hts iX_Pr hown hw.2.1 hw.1 5 rfl rfl 7 (by decide) (hts _ kX_Pr_18) (fun _ h => h) rfl d_XPr_step_65 ?_
        refine lv_iconst (v := (1 : Int32)) hx hb d_XPr_step_68 (by decide) ?_
        refine lv_iadd hx hb d_XPr_step_69 ?_
        refine z_put (u' := xsF u_5 11 ((xF u_5 11) + (1 : Int32))) hx hb hts iX_Pr tX_Pr tX_Pr_ok nX_Pr hown hw hS 5 rfl rfl 7 (by decide) (hts _ kX_Pr_18) (fun _ h => h) rfl rfl (Nat.le_of_ble_eq_true rfl) rfl d_XPr_step_70 (fun u_13 H locs eu_13 hw hS => ?_)
        have hf := hf.trans (nm_eq eu_13)
        refine lv_goto (tgt := 84) hx hb d_XPr_step_73 (by decide) ?_
        exact hK_8 u_13 _ _ hw hS _ (lv_sub hl [0, 1] rfl) hf
      · intro K_12 hK_12 hf
        refine lv_if_eq (tgt := 63) hx hb d_XPr_step_48 (by decide) (fun c_14 => ?_) (fun c_14 => ?_)
        · have hf := hf.trans (if_pos c_14)
          exact hK_12 _ (lv_sub hl [0, 2] rfl) hf
        · have hf := hf.trans (if_neg c_14)
          refine lv_iload_n hx hb d_XPr_step_51 rfl (lv_at hl 2 rfl) ?_
          refine lv_bipush (v := (8 : Int32)) hx hb d_XPr_step_52 (by decide) ?_
          refine lv_icmp_eq (tgt := 63) hx hb d_XPr_step_54 (by decide) (fun c_15 => ?_) (fun c_15 => ?_)
          · have hf := hf.trans (if_pos c_15)
            exact hK_12 _ (lv_sub hl [0, 2] rfl) hf
          · have hf := hf.trans (if_neg c_15)
            refine lv_iload_n hx hb d_XPr_step_57 rfl (lv_at hl 2 rfl) ?_
            refine lv_bipush (v := (10 : Int32)) hx hb d_XPr_step_58 (by decide) ?_
            refine lv_icmp_ne (tgt := 76) hx hb d_XPr_step_60 (by decide) (fun c_16 => ?_) (fun c_16 => ?_)
            · have hf := hf.trans (if_neg c_16)
              refine lv_aload_n hx hb d_XPr_step_76 rfl (lv_at hl 0 rfl) ?_
              refine va_get (v := .ref (a 1)) hx hb hts iX_Pr hown hw.2.1 hw.1 5 rfl rfl 0 (by decide) (hts _ kX_Pr_28) (fun _ h => h) rfl d_XPr_step_77 ?_
              refine lv_iload_n hx hb d_XPr_step_80 rfl (lv_at hl 1 rfl) ?_
              refine z_putN (u' := xsF u_5 0 x_1) hx hb hts iX_St tX_St tX_St_ok nX_St hown hw hS 1 rfl rfl 2 (by decide) (va_Nw.use rfl (hw.2.2.2 _ kX_Pr_69).2) (fun _ h => h) rfl rfl (Nat.le_of_ble_eq_true rfl) rfl d_XPr_step_81 (fun u_17 H locs eu_17 hw hS => ?_)
              have hf := hf.trans (nm_eq eu_17)
              exact hK_8 u_17 _ _ hw hS _ (lv_sub hl [0, 2] rfl) hf
            · have hf := hf.trans (if_pos c_16)
              exact hK_12 _ (lv_sub hl [0, 2] rfl) hf
  · intro K_6 hK_6 hf
    refine lv_if_ne (tgt := 47) hx hb d_XPr_step_21 (by decide) (fun c_18 => ?_) (fun c_18 => ?_)
    · have hf := hf.trans (if_neg c_18)
      exact hK_6 x_3 u_2 _ _ hw hS _ (lv_sub hl [2, 1, 0] rfl) hf
    · have hf := hf.trans (if_pos c_18)
      refine lv_aload_n hx hb d_XPr_step_24 rfl (lv_at hl 2 rfl) ?_
      refine va_get (v := .ref (a 1)) hx hb hts iX_Pr hown hw.2.1 hw.1 5 rfl rfl 0 (by decide) (hts _ kX_Pr_28) (fun _ h => h) rfl d_XPr_step_25 ?_
      refine lv_aload_n hx hb d_XPr_step_28 rfl (lv_at hl 2 rfl) ?_
      refine va_get (v := .ref (a 6)) hx hb hts iX_Pr hown hw.2.1 hw.1 5 rfl rfl 1 (by decide) (hts _ kX_Pr_12) (fun _ h => h) rfl d_XPr_step_29 ?_
      refine va_getN (v := .int (xF u_2 10)) hx hb hts iX_In hown hw.2.1 hw.1 6 rfl rfl 6 (by decide) (va_Nw.use rfl (hw.2.2.2 _ kX_Pr_78).2) (fun _ h => h) rfl d_XPr_step_32 ?_
      refine z_putN (u' := xsF u_2 0 (xF u_2 10)) hx hb hts iX_St tX_St tX_St_ok nX_St hown hw hS 1 rfl rfl 2 (by decide) (va_Nw.use rfl (hw.2.2.2 _ kX_Pr_69).2) (fun _ h => h) rfl rfl (Nat.le_of_ble_eq_true rfl) rfl d_XPr_step_35 (fun u_19 H locs eu_19 hw hS => ?_)
      have hf := hf.trans (nm_eq eu_19)
      refine lv_aload_n hx hb d_XPr_step_38 rfl (lv_at hl 2 rfl) ?_
      refine lv_aload_n hx hb d_XPr_step_39 rfl (lv_at hl 2 rfl) ?_
      refine va_get (v := .ref (a 6)) hx hb hts iX_Pr hown hw.2.1 hw.1 5 rfl rfl 1 (by decide) (hts _ kX_Pr_12) (fun _ h => h) rfl d_XPr_step_40 ?_
      refine z_wi (z_runV (As := [.ref (a 6)]) (rest := []) ⟨hx, hb, hml, hown, hts⟩ (c_XPr_perform l D a k u_19) (qX_Pr_81 hts (by decide)) hw 5 rfl rfl hl.1 rfl (lv_room (Nat.le_of_ble_eq_true rfl)) d_XPr_step_43 hcs) hw hS (fun x_21 u_20 H locs ex_21 hw hS => ?_)
      have hf := hf.trans (pr_eq ex_21)
      refine lv_istore_n (lv' := [(2, .int x_21), (1, .int x_1), (0, .ref (a 5))]) hx hb d_XPr_step_46 rfl hl (by decide) rfl (fun ls hl => ?_)
      exact hK_6 x_21 u_20 _ _ hw hS _ (lv_sub hl [2, 1, 0] rfl) hf
end
