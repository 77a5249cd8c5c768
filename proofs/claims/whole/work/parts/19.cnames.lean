theorem zgC {c : Cond} (h : c ∈ G0) : GoodIn G0 (c :: G0) := fun w hw => (List.mem_cons.mp hw).elim (fun e => by rw [e]; exact G0_good _ h) (fun h => G0_good _ h)
abbrev b_XMe_init : ByteArray := prog_6_method_1_code
def y_XMe_init : MethodName := ⟨RX_Me, "<init>", "()V"⟩
set_option maxRecDepth 20000 in
theorem kc_XMe_init : Cond.code y_XMe_init b_XMe_init 1 none ∈ G0 := mG 107 rfl rfl
def w_XMe_init : List Cond := .code y_XMe_init b_XMe_init 1 none :: G0
theorem kg_XMe_init : GoodIn G0 w_XMe_init := zgC kc_XMe_init
theorem d_XMe_init_0 : decode b_XMe_init 0 = .ok (.aload_n 0, 1) := by decide +kernel
theorem d_XMe_init_1 : decode b_XMe_init 1 = .ok (.invokespecial 3, 3) := by decide +kernel
theorem d_XMe_init_4 : decode b_XMe_init 4 = .ok (.aload_n 0, 1) := by decide +kernel
theorem d_XMe_init_5 : decode b_XMe_init 5 = .ok (.sipush 1024, 3) := by decide +kernel
theorem d_XMe_init_8 : decode b_XMe_init 8 = .ok (.newarray .int, 2) := by decide +kernel
theorem d_XMe_init_10 : decode b_XMe_init 10 = .ok (.putfield 11, 3) := by decide +kernel
theorem d_XMe_init_13 : decode b_XMe_init 13 = .ok (.return_, 1) := by decide +kernel
abbrev b_XSt_init : ByteArray := prog_9_method_1_code
def y_XSt_init : MethodName := ⟨RX_St, "<init>", "()V"⟩
set_option maxRecDepth 20000 in
theorem kc_XSt_init : Cond.code y_XSt_init b_XSt_init 1 none ∈ G0 := mG 101 rfl rfl
def w_XSt_init : List Cond := .code y_XSt_init b_XSt_init 1 none :: G0
theorem kg_XSt_init : GoodIn G0 w_XSt_init := zgC kc_XSt_init
theorem d_XSt_init_0 : decode b_XSt_init 0 = .ok (.aload_n 0, 1) := by decide +kernel
theorem d_XSt_init_1 : decode b_XSt_init 1 = .ok (.invokespecial 3, 3) := by decide +kernel
theorem d_XSt_init_4 : decode b_XSt_init 4 = .ok (.aload_n 0, 1) := by decide +kernel
theorem d_XSt_init_5 : decode b_XSt_init 5 = .ok (.new 9, 3) := by decide +kernel
theorem d_XSt_init_8 : decode b_XSt_init 8 = .ok (.dup, 1) := by decide +kernel
theorem d_XSt_init_9 : decode b_XSt_init 9 = .ok (.invokespecial 11, 3) := by decide +kernel
theorem d_XSt_init_12 : decode b_XSt_init 12 = .ok (.putfield 12, 3) := by decide +kernel
theorem d_XSt_init_15 : decode b_XSt_init 15 = .ok (.aload_n 0, 1) := by decide +kernel
theorem d_XSt_init_16 : decode b_XSt_init 16 = .ok (.bipush 16, 2) := by decide +kernel
theorem d_XSt_init_18 : decode b_XSt_init 18 = .ok (.newarray .int, 2) := by decide +kernel
theorem d_XSt_init_20 : decode b_XSt_init 20 = .ok (.putfield 18, 3) := by decide +kernel
theorem d_XSt_init_23 : decode b_XSt_init 23 = .ok (.aload_n 0, 1) := by decide +kernel
theorem d_XSt_init_24 : decode b_XSt_init 24 = .ok (.iconst 0, 1) := by decide +kernel
theorem d_XSt_init_25 : decode b_XSt_init 25 = .ok (.putfield 22, 3) := by decide +kernel
theorem d_XSt_init_28 : decode b_XSt_init 28 = .ok (.aload_n 0, 1) := by decide +kernel
theorem d_XSt_init_29 : decode b_XSt_init 29 = .ok (.iconst 0, 1) := by decide +kernel
theorem d_XSt_init_30 : decode b_XSt_init 30 = .ok (.putfield 26, 3) := by decide +kernel
theorem d_XSt_init_33 : decode b_XSt_init 33 = .ok (.aload_n 0, 1) := by decide +kernel
theorem d_XSt_init_34 : decode b_XSt_init 34 = .ok (.iconst 0, 1) := by decide +kernel
theorem d_XSt_init_35 : decode b_XSt_init 35 = .ok (.putfield 29, 3) := by decide +kernel
theorem d_XSt_init_38 : decode b_XSt_init 38 = .ok (.aload_n 0, 1) := by decide +kernel
theorem d_XSt_init_39 : decode b_XSt_init 39 = .ok (.iconst (-1), 1) := by decide +kernel
theorem d_XSt_init_40 : decode b_XSt_init 40 = .ok (.putfield 32, 3) := by decide +kernel
theorem d_XSt_init_43 : decode b_XSt_init 43 = .ok (.return_, 1) := by decide +kernel
abbrev b_XIn_init : ByteArray := prog_5_method_1_code
def y_XIn_init : MethodName := ⟨RX_In, "<init>", "()V"⟩
set_option maxRecDepth 20000 in
theorem kc_XIn_init : Cond.code y_XIn_init b_XIn_init 1 none ∈ G0 := mG 160 rfl rfl
def w_XIn_init : List Cond := .code y_XIn_init b_XIn_init 1 none :: G0
theorem kg_XIn_init : GoodIn G0 w_XIn_init := zgC kc_XIn_init
theorem d_XIn_init_0 : decode b_XIn_init 0 = .ok (.aload_n 0, 1) := by decide +kernel
theorem d_XIn_init_1 : decode b_XIn_init 1 = .ok (.invokespecial 3, 3) := by decide +kernel
theorem d_XIn_init_4 : decode b_XIn_init 4 = .ok (.return_, 1) := by decide +kernel
abbrev b_XAr_init : ByteArray := prog_2_method_1_code
def y_XAr_init : MethodName := ⟨RX_Ar, "<init>", "(LDecimalMachine$State;)V"⟩
set_option maxRecDepth 20000 in
theorem kc_XAr_init : Cond.code y_XAr_init b_XAr_init 2 none ∈ G0 := mG 213 rfl rfl
def w_XAr_init : List Cond := .code y_XAr_init b_XAr_init 2 none :: G0
theorem kg_XAr_init : GoodIn G0 w_XAr_init := zgC kc_XAr_init
theorem d_XAr_init_0 : decode b_XAr_init 0 = .ok (.aload_n 0, 1) := by decide +kernel
theorem d_XAr_init_1 : decode b_XAr_init 1 = .ok (.invokespecial 3, 3) := by decide +kernel
theorem d_XAr_init_4 : decode b_XAr_init 4 = .ok (.aload_n 0, 1) := by decide +kernel
theorem d_XAr_init_5 : decode b_XAr_init 5 = .ok (.aload_n 1, 1) := by decide +kernel
theorem d_XAr_init_6 : decode b_XAr_init 6 = .ok (.putfield 9, 3) := by decide +kernel
theorem d_XAr_init_9 : decode b_XAr_init 9 = .ok (.return_, 1) := by decide +kernel
abbrev b_XTr_init : ByteArray := prog_10_method_1_code
def y_XTr_init : MethodName := ⟨RX_Tr, "<init>", "(LDecimalMachine$State;)V"⟩
set_option maxRecDepth 20000 in
theorem kc_XTr_init : Cond.code y_XTr_init b_XTr_init 2 none ∈ G0 := mG 223 rfl rfl
def w_XTr_init : List Cond := .code y_XTr_init b_XTr_init 2 none :: G0
theorem kg_XTr_init : GoodIn G0 w_XTr_init := zgC kc_XTr_init
theorem d_XTr_init_0 : decode b_XTr_init 0 = .ok (.aload_n 0, 1) := by decide +kernel
theorem d_XTr_init_1 : decode b_XTr_init 1 = .ok (.invokespecial 3, 3) := by decide +kernel
theorem d_XTr_init_4 : decode b_XTr_init 4 = .ok (.aload_n 0, 1) := by decide +kernel
theorem d_XTr_init_5 : decode b_XTr_init 5 = .ok (.aload_n 1, 1) := by decide +kernel
theorem d_XTr_init_6 : decode b_XTr_init 6 = .ok (.putfield 9, 3) := by decide +kernel
theorem d_XTr_init_9 : decode b_XTr_init 9 = .ok (.return_, 1) := by decide +kernel
abbrev b_XBr_init : ByteArray := prog_3_method_1_code
def y_XBr_init : MethodName := ⟨RX_Br, "<init>", "(LDecimalMachine$State;)V"⟩
set_option maxRecDepth 20000 in
theorem kc_XBr_init : Cond.code y_XBr_init b_XBr_init 2 none ∈ G0 := mG 233 rfl rfl
def w_XBr_init : List Cond := .code y_XBr_init b_XBr_init 2 none :: G0
theorem kg_XBr_init : GoodIn G0 w_XBr_init := zgC kc_XBr_init
theorem d_XBr_init_0 : decode b_XBr_init 0 = .ok (.aload_n 0, 1) := by decide +kernel
theorem d_XBr_init_1 : decode b_XBr_init 1 = .ok (.invokespecial 3, 3) := by decide +kernel
theorem d_XBr_init_4 : decode b_XBr_init 4 = .ok (.aload_n 0, 1) := by decide +kernel
theorem d_XBr_init_5 : decode b_XBr_init 5 = .ok (.aload_n 1, 1) := by decide +kernel
theorem d_XBr_init_6 : decode b_XBr_init 6 = .ok (.putfield 9, 3) := by decide +kernel
theorem d_XBr_init_9 : decode b_XBr_init 9 = .ok (.return_, 1) := by decide +kernel
abbrev b_XOc_init : ByteArray := prog_7_method_1_code
def y_XOc_init : MethodName := ⟨RX_Oc, "<init>", "(LDecimalMachine$State;)V"⟩
set_option maxRecDepth 20000 in
theorem kc_XOc_init : Cond.code y_XOc_init b_XOc_init 2 none ∈ G0 := mG 243 rfl rfl
def w_XOc_init : List Cond := .code y_XOc_init b_XOc_init 2 none :: G0
theorem kg_XOc_init : GoodIn G0 w_XOc_init := zgC kc_XOc_init
theorem d_XOc_init_0 : decode b_XOc_init 0 = .ok (.aload_n 0, 1) := by decide +kernel
theorem d_XOc_init_1 : decode b_XOc_init 1 = .ok (.invokespecial 3, 3) := by decide +kernel
theorem d_XOc_init_4 : decode b_XOc_init 4 = .ok (.aload_n 0, 1) := by decide +kernel
theorem d_XOc_init_5 : decode b_XOc_init 5 = .ok (.aload_n 1, 1) := by decide +kernel
theorem d_XOc_init_6 : decode b_XOc_init 6 = .ok (.putfield 9, 3) := by decide +kernel
theorem d_XOc_init_9 : decode b_XOc_init 9 = .ok (.aload_n 0, 1) := by decide +kernel
theorem d_XOc_init_10 : decode b_XOc_init 10 = .ok (.aload_n 1, 1) := by decide +kernel
theorem d_XOc_init_11 : decode b_XOc_init 11 = .ok (.getfield 15, 3) := by decide +kernel
theorem d_XOc_init_14 : decode b_XOc_init 14 = .ok (.putfield 21, 3) := by decide +kernel
theorem d_XOc_init_17 : decode b_XOc_init 17 = .ok (.return_, 1) := by decide +kernel
abbrev b_XDe_init : ByteArray := prog_4_method_1_code
def y_XDe_init : MethodName := ⟨RX_De, "<init>", "(LDecimalMachine$State;)V"⟩
set_option maxRecDepth 20000 in
theorem kc_XDe_init : Cond.code y_XDe_init b_XDe_init 2 none ∈ G0 := mG 256 rfl rfl
def w_XDe_init : List Cond := .code y_XDe_init b_XDe_init 2 none :: G0
theorem kg_XDe_init : GoodIn G0 w_XDe_init := zgC kc_XDe_init
theorem d_XDe_init_0 : decode b_XDe_init 0 = .ok (.aload_n 0, 1) := by decide +kernel
theorem d_XDe_init_1 : decode b_XDe_init 1 = .ok (.invokespecial 3, 3) := by decide +kernel
theorem d_XDe_init_4 : decode b_XDe_init 4 = .ok (.aload_n 0, 1) := by decide +kernel
theorem d_XDe_init_5 : decode b_XDe_init 5 = .ok (.bipush 16, 2) := by decide +kernel
theorem d_XDe_init_7 : decode b_XDe_init 7 = .ok (.newarray .int, 2) := by decide +kernel
theorem d_XDe_init_9 : decode b_XDe_init 9 = .ok (.putfield 9, 3) := by decide +kernel
theorem d_XDe_init_12 : decode b_XDe_init 12 = .ok (.aload_n 0, 1) := by decide +kernel
theorem d_XDe_init_13 : decode b_XDe_init 13 = .ok (.aload_n 1, 1) := by decide +kernel
theorem d_XDe_init_14 : decode b_XDe_init 14 = .ok (.putfield 15, 3) := by decide +kernel
theorem d_XDe_init_17 : decode b_XDe_init 17 = .ok (.aload_n 0, 1) := by decide +kernel
theorem d_XDe_init_18 : decode b_XDe_init 18 = .ok (.aload_n 1, 1) := by decide +kernel
theorem d_XDe_init_19 : decode b_XDe_init 19 = .ok (.getfield 19, 3) := by decide +kernel
theorem d_XDe_init_22 : decode b_XDe_init 22 = .ok (.putfield 25, 3) := by decide +kernel
theorem d_XDe_init_25 : decode b_XDe_init 25 = .ok (.return_, 1) := by decide +kernel
abbrev b_XPr_init : ByteArray := prog_8_method_1_code
def y_XPr_init : MethodName := ⟨RX_Pr, "<init>", "(LDecimalMachine$State;)V"⟩
set_option maxRecDepth 20000 in
theorem kc_XPr_init : Cond.code y_XPr_init b_XPr_init 2 none ∈ G0 := mG 154 rfl rfl
def w_XPr_init : List Cond := .code y_XPr_init b_XPr_init 2 none :: G0
theorem kg_XPr_init : GoodIn G0 w_XPr_init := zgC kc_XPr_init
theorem d_XPr_init_0 : decode b_XPr_init 0 = .ok (.aload_n 0, 1) := by decide +kernel
theorem d_XPr_init_1 : decode b_XPr_init 1 = .ok (.invokespecial 3, 3) := by decide +kernel
theorem d_XPr_init_4 : decode b_XPr_init 4 = .ok (.aload_n 0, 1) := by decide +kernel
theorem d_XPr_init_5 : decode b_XPr_init 5 = .ok (.new 9, 3) := by decide +kernel
theorem d_XPr_init_8 : decode b_XPr_init 8 = .ok (.dup, 1) := by decide +kernel
theorem d_XPr_init_9 : decode b_XPr_init 9 = .ok (.invokespecial 11, 3) := by decide +kernel
theorem d_XPr_init_12 : decode b_XPr_init 12 = .ok (.putfield 12, 3) := by decide +kernel
theorem d_XPr_init_15 : decode b_XPr_init 15 = .ok (.aload_n 0, 1) := by decide +kernel
theorem d_XPr_init_16 : decode b_XPr_init 16 = .ok (.iconst 0, 1) := by decide +kernel
theorem d_XPr_init_17 : decode b_XPr_init 17 = .ok (.putfield 18, 3) := by decide +kernel
theorem d_XPr_init_20 : decode b_XPr_init 20 = .ok (.aload_n 0, 1) := by decide +kernel
theorem d_XPr_init_21 : decode b_XPr_init 21 = .ok (.iconst 0, 1) := by decide +kernel
theorem d_XPr_init_22 : decode b_XPr_init 22 = .ok (.putfield 22, 3) := by decide +kernel
theorem d_XPr_init_25 : decode b_XPr_init 25 = .ok (.aload_n 0, 1) := by decide +kernel
theorem d_XPr_init_26 : decode b_XPr_init 26 = .ok (.iconst 0, 1) := by decide +kernel
theorem d_XPr_init_27 : decode b_XPr_init 27 = .ok (.putfield 25, 3) := by decide +kernel
theorem d_XPr_init_30 : decode b_XPr_init 30 = .ok (.aload_n 0, 1) := by decide +kernel
theorem d_XPr_init_31 : decode b_XPr_init 31 = .ok (.aload_n 1, 1) := by decide +kernel
theorem d_XPr_init_32 : decode b_XPr_init 32 = .ok (.putfield 28, 3) := by decide +kernel
theorem d_XPr_init_35 : decode b_XPr_init 35 = .ok (.aload_n 0, 1) := by decide +kernel
theorem d_XPr_init_36 : decode b_XPr_init 36 = .ok (.new 32, 3) := by decide +kernel
theorem d_XPr_init_39 : decode b_XPr_init 39 = .ok (.dup, 1) := by decide +kernel
theorem d_XPr_init_40 : decode b_XPr_init 40 = .ok (.aload_n 1, 1) := by decide +kernel
theorem d_XPr_init_41 : decode b_XPr_init 41 = .ok (.invokespecial 34, 3) := by decide +kernel
theorem d_XPr_init_44 : decode b_XPr_init 44 = .ok (.putfield 37, 3) := by decide +kernel
theorem d_XPr_init_47 : decode b_XPr_init 47 = .ok (.aload_n 0, 1) := by decide +kernel
theorem d_XPr_init_48 : decode b_XPr_init 48 = .ok (.new 41, 3) := by decide +kernel
theorem d_XPr_init_51 : decode b_XPr_init 51 = .ok (.dup, 1) := by decide +kernel
theorem d_XPr_init_52 : decode b_XPr_init 52 = .ok (.aload_n 1, 1) := by decide +kernel
theorem d_XPr_init_53 : decode b_XPr_init 53 = .ok (.invokespecial 43, 3) := by decide +kernel
theorem d_XPr_init_56 : decode b_XPr_init 56 = .ok (.putfield 44, 3) := by decide +kernel
theorem d_XPr_init_59 : decode b_XPr_init 59 = .ok (.aload_n 0, 1) := by decide +kernel
theorem d_XPr_init_60 : decode b_XPr_init 60 = .ok (.new 48, 3) := by decide +kernel
theorem d_XPr_init_63 : decode b_XPr_init 63 = .ok (.dup, 1) := by decide +kernel
theorem d_XPr_init_64 : decode b_XPr_init 64 = .ok (.aload_n 1, 1) := by decide +kernel
theorem d_XPr_init_65 : decode b_XPr_init 65 = .ok (.invokespecial 50, 3) := by decide +kernel
theorem d_XPr_init_68 : decode b_XPr_init 68 = .ok (.putfield 51, 3) := by decide +kernel
theorem d_XPr_init_71 : decode b_XPr_init 71 = .ok (.aload_n 0, 1) := by decide +kernel
theorem d_XPr_init_72 : decode b_XPr_init 72 = .ok (.new 55, 3) := by decide +kernel
theorem d_XPr_init_75 : decode b_XPr_init 75 = .ok (.dup, 1) := by decide +kernel
theorem d_XPr_init_76 : decode b_XPr_init 76 = .ok (.aload_n 1, 1) := by decide +kernel
theorem d_XPr_init_77 : decode b_XPr_init 77 = .ok (.invokespecial 57, 3) := by decide +kernel
theorem d_XPr_init_80 : decode b_XPr_init 80 = .ok (.putfield 58, 3) := by decide +kernel
theorem d_XPr_init_83 : decode b_XPr_init 83 = .ok (.aload_n 0, 1) := by decide +kernel
theorem d_XPr_init_84 : decode b_XPr_init 84 = .ok (.new 62, 3) := by decide +kernel
theorem d_XPr_init_87 : decode b_XPr_init 87 = .ok (.dup, 1) := by decide +kernel
theorem d_XPr_init_88 : decode b_XPr_init 88 = .ok (.aload_n 1, 1) := by decide +kernel
theorem d_XPr_init_89 : decode b_XPr_init 89 = .ok (.invokespecial 64, 3) := by decide +kernel
theorem d_XPr_init_92 : decode b_XPr_init 92 = .ok (.putfield 65, 3) := by decide +kernel
theorem d_XPr_init_95 : decode b_XPr_init 95 = .ok (.return_, 1) := by decide +kernel
abbrev b_XDM_init : ByteArray := prog_1_method_1_code
def y_XDM_init : MethodName := ⟨RX_DM, "<init>", "()V"⟩
set_option maxRecDepth 20000 in
theorem kc_XDM_init : Cond.code y_XDM_init b_XDM_init 1 none ∈ G0 := mG 93 rfl rfl
def w_XDM_init : List Cond := .code y_XDM_init b_XDM_init 1 none :: G0
theorem kg_XDM_init : GoodIn G0 w_XDM_init := zgC kc_XDM_init
theorem d_XDM_init_0 : decode b_XDM_init 0 = .ok (.aload_n 0, 1) := by decide +kernel
theorem d_XDM_init_1 : decode b_XDM_init 1 = .ok (.invokespecial 1, 3) := by decide +kernel
theorem d_XDM_init_4 : decode b_XDM_init 4 = .ok (.aload_n 0, 1) := by decide +kernel
theorem d_XDM_init_5 : decode b_XDM_init 5 = .ok (.new 7, 3) := by decide +kernel
theorem d_XDM_init_8 : decode b_XDM_init 8 = .ok (.dup, 1) := by decide +kernel
theorem d_XDM_init_9 : decode b_XDM_init 9 = .ok (.invokespecial 9, 3) := by decide +kernel
theorem d_XDM_init_12 : decode b_XDM_init 12 = .ok (.putfield 10, 3) := by decide +kernel
theorem d_XDM_init_15 : decode b_XDM_init 15 = .ok (.aload_n 0, 1) := by decide +kernel
theorem d_XDM_init_16 : decode b_XDM_init 16 = .ok (.new 16, 3) := by decide +kernel
theorem d_XDM_init_19 : decode b_XDM_init 19 = .ok (.dup, 1) := by decide +kernel
theorem d_XDM_init_20 : decode b_XDM_init 20 = .ok (.aload_n 0, 1) := by decide +kernel
theorem d_XDM_init_21 : decode b_XDM_init 21 = .ok (.getfield 10, 3) := by decide +kernel
theorem d_XDM_init_24 : decode b_XDM_init 24 = .ok (.invokespecial 18, 3) := by decide +kernel
theorem d_XDM_init_27 : decode b_XDM_init 27 = .ok (.putfield 21, 3) := by decide +kernel
theorem d_XDM_init_30 : decode b_XDM_init 30 = .ok (.return_, 1) := by decide +kernel
abbrev b_MMo_init : ByteArray := prog_12_method_1_code
def y_MMo_init : MethodName := ⟨RM_Mo, "<init>", "()V"⟩
set_option maxRecDepth 20000 in
theorem kc_MMo_init : Cond.code y_MMo_init b_MMo_init 1 none ∈ G0 := mG 839 rfl rfl
def w_MMo_init : List Cond := .code y_MMo_init b_MMo_init 1 none :: G0
theorem kg_MMo_init : GoodIn G0 w_MMo_init := zgC kc_MMo_init
theorem d_MMo_init_0 : decode b_MMo_init 0 = .ok (.aload_n 0, 1) := by decide +kernel
theorem d_MMo_init_1 : decode b_MMo_init 1 = .ok (.invokespecial 1, 3) := by decide +kernel
theorem d_MMo_init_4 : decode b_MMo_init 4 = .ok (.aload_n 0, 1) := by decide +kernel
theorem d_MMo_init_5 : decode b_MMo_init 5 = .ok (.sipush 1024, 3) := by decide +kernel
theorem d_MMo_init_8 : decode b_MMo_init 8 = .ok (.newarray .int, 2) := by decide +kernel
theorem d_MMo_init_10 : decode b_MMo_init 10 = .ok (.putfield 7, 3) := by decide +kernel
theorem d_MMo_init_13 : decode b_MMo_init 13 = .ok (.aload_n 0, 1) := by decide +kernel
theorem d_MMo_init_14 : decode b_MMo_init 14 = .ok (.bipush 16, 2) := by decide +kernel
theorem d_MMo_init_16 : decode b_MMo_init 16 = .ok (.newarray .int, 2) := by decide +kernel
theorem d_MMo_init_18 : decode b_MMo_init 18 = .ok (.putfield 13, 3) := by decide +kernel
theorem d_MMo_init_21 : decode b_MMo_init 21 = .ok (.aload_n 0, 1) := by decide +kernel
theorem d_MMo_init_22 : decode b_MMo_init 22 = .ok (.sipush 256, 3) := by decide +kernel
theorem d_MMo_init_25 : decode b_MMo_init 25 = .ok (.newarray .int, 2) := by decide +kernel
theorem d_MMo_init_27 : decode b_MMo_init 27 = .ok (.putfield 16, 3) := by decide +kernel
theorem d_MMo_init_30 : decode b_MMo_init 30 = .ok (.aload_n 0, 1) := by decide +kernel
theorem d_MMo_init_31 : decode b_MMo_init 31 = .ok (.bipush 32, 2) := by decide +kernel
theorem d_MMo_init_33 : decode b_MMo_init 33 = .ok (.newarray .int, 2) := by decide +kernel
theorem d_MMo_init_35 : decode b_MMo_init 35 = .ok (.putfield 19, 3) := by decide +kernel
theorem d_MMo_init_38 : decode b_MMo_init 38 = .ok (.aload_n 0, 1) := by decide +kernel
theorem d_MMo_init_39 : decode b_MMo_init 39 = .ok (.bipush 32, 2) := by decide +kernel
theorem d_MMo_init_41 : decode b_MMo_init 41 = .ok (.newarray .int, 2) := by decide +kernel
theorem d_MMo_init_43 : decode b_MMo_init 43 = .ok (.putfield 22, 3) := by decide +kernel
theorem d_MMo_init_46 : decode b_MMo_init 46 = .ok (.aload_n 0, 1) := by decide +kernel
theorem d_MMo_init_47 : decode b_MMo_init 47 = .ok (.bipush 32, 2) := by decide +kernel
theorem d_MMo_init_49 : decode b_MMo_init 49 = .ok (.newarray .int, 2) := by decide +kernel
theorem d_MMo_init_51 : decode b_MMo_init 51 = .ok (.putfield 25, 3) := by decide +kernel
theorem d_MMo_init_54 : decode b_MMo_init 54 = .ok (.aload_n 0, 1) := by decide +kernel
theorem d_MMo_init_55 : decode b_MMo_init 55 = .ok (.bipush 32, 2) := by decide +kernel
theorem d_MMo_init_57 : decode b_MMo_init 57 = .ok (.newarray .int, 2) := by decide +kernel
theorem d_MMo_init_59 : decode b_MMo_init 59 = .ok (.putfield 28, 3) := by decide +kernel
theorem d_MMo_init_62 : decode b_MMo_init 62 = .ok (.aload_n 0, 1) := by decide +kernel
theorem d_MMo_init_63 : decode b_MMo_init 63 = .ok (.sipush 256, 3) := by decide +kernel
theorem d_MMo_init_66 : decode b_MMo_init 66 = .ok (.newarray .int, 2) := by decide +kernel
theorem d_MMo_init_68 : decode b_MMo_init 68 = .ok (.putfield 31, 3) := by decide +kernel
theorem d_MMo_init_71 : decode b_MMo_init 71 = .ok (.aload_n 0, 1) := by decide +kernel
theorem d_MMo_init_72 : decode b_MMo_init 72 = .ok (.iconst (-1), 1) := by decide +kernel
theorem d_MMo_init_73 : decode b_MMo_init 73 = .ok (.putfield 34, 3) := by decide +kernel
theorem d_MMo_init_76 : decode b_MMo_init 76 = .ok (.return_, 1) := by decide +kernel
set_option maxRecDepth 20000 in
theorem kq_0 : Cond.methodLink RX_Me 3 objectInit ∈ G0 := mG 108 rfl rfl
set_option maxRecDepth 20000 in
theorem kq_1 : Cond.fieldLink RX_Me 11 "DecimalMachine$Memory" "octets" "[I" ∈ G0 := mG 109 rfl rfl
set_option maxRecDepth 20000 in
theorem kq_2 : Cond.methodLink RX_St 3 objectInit ∈ G0 := mG 102 rfl rfl
set_option maxRecDepth 20000 in
theorem kq_3 : Cond.classLink RX_St 9 RX_Me ∈ G0 := mG 103 rfl rfl
set_option maxRecDepth 20000 in
theorem kq_4 : Cond.instantiable RX_Me 1 ∈ G0 := mG 104 rfl rfl
set_option maxRecDepth 20000 in
theorem kq_5 : Cond.initialized RX_Me ∈ G0 := mG 72 rfl rfl
set_option maxRecDepth 20000 in
theorem kq_6 : Cond.instanceMethod y_XMe_init ∈ G0 := mG 106 rfl rfl
set_option maxRecDepth 20000 in
theorem kq_7 : Cond.fieldLink RX_St 12 "DecimalMachine$State" "memory" "LDecimalMachine$Memory;" ∈ G0 := mG 115 rfl rfl
set_option maxRecDepth 20000 in
theorem kq_8 : Cond.fieldLink RX_St 18 "DecimalMachine$State" "registers" "[I" ∈ G0 := mG 121 rfl rfl
set_option maxRecDepth 20000 in
theorem kq_9 : Cond.fieldLink RX_St 22 "DecimalMachine$State" "next" "I" ∈ G0 := mG 122 rfl rfl
set_option maxRecDepth 20000 in
theorem kq_10 : Cond.fieldLink RX_St 26 "DecimalMachine$State" "condition" "I" ∈ G0 := mG 127 rfl rfl
set_option maxRecDepth 20000 in
theorem kq_11 : Cond.fieldLink RX_St 29 "DecimalMachine$State" "mask" "I" ∈ G0 := mG 132 rfl rfl
set_option maxRecDepth 20000 in
theorem kq_12 : Cond.fieldLink RX_St 32 "DecimalMachine$State" "halt" "I" ∈ G0 := mG 134 rfl rfl
set_option maxRecDepth 20000 in
theorem kq_13 : Cond.methodLink RX_In 3 objectInit ∈ G0 := mG 161 rfl rfl
set_option maxRecDepth 20000 in
theorem kq_14 : Cond.methodLink RX_Ar 3 objectInit ∈ G0 := mG 214 rfl rfl
set_option maxRecDepth 20000 in
theorem kq_15 : Cond.fieldLink RX_Ar 9 "DecimalMachine$Arithmetic" "state" "LDecimalMachine$State;" ∈ G0 := mG 215 rfl rfl
set_option maxRecDepth 20000 in
theorem kq_16 : Cond.methodLink RX_Tr 3 objectInit ∈ G0 := mG 224 rfl rfl
set_option maxRecDepth 20000 in
theorem kq_17 : Cond.fieldLink RX_Tr 9 "DecimalMachine$Transfers" "state" "LDecimalMachine$State;" ∈ G0 := mG 225 rfl rfl
set_option maxRecDepth 20000 in
theorem kq_18 : Cond.methodLink RX_Br 3 objectInit ∈ G0 := mG 234 rfl rfl
set_option maxRecDepth 20000 in
theorem kq_19 : Cond.fieldLink RX_Br 9 "DecimalMachine$Branches" "state" "LDecimalMachine$State;" ∈ G0 := mG 235 rfl rfl
set_option maxRecDepth 20000 in
theorem kq_20 : Cond.methodLink RX_Oc 3 objectInit ∈ G0 := mG 244 rfl rfl
set_option maxRecDepth 20000 in
theorem kq_21 : Cond.fieldLink RX_Oc 9 "DecimalMachine$Octets" "state" "LDecimalMachine$State;" ∈ G0 := mG 245 rfl rfl
set_option maxRecDepth 20000 in
theorem kq_22 : Cond.fieldLink RX_Oc 21 "DecimalMachine$Octets" "memory" "LDecimalMachine$Memory;" ∈ G0 := mG 246 rfl rfl
set_option maxRecDepth 20000 in
theorem kq_23 : Cond.methodLink RX_De 3 objectInit ∈ G0 := mG 257 rfl rfl
set_option maxRecDepth 20000 in
theorem kq_24 : Cond.fieldLink RX_De 9 "DecimalMachine$Decimals" "source" "[I" ∈ G0 := mG 260 rfl rfl
set_option maxRecDepth 20000 in
theorem kq_25 : Cond.fieldLink RX_De 15 "DecimalMachine$Decimals" "state" "LDecimalMachine$State;" ∈ G0 := mG 258 rfl rfl
set_option maxRecDepth 20000 in
theorem kq_26 : Cond.fieldLink RX_De 25 "DecimalMachine$Decimals" "memory" "LDecimalMachine$Memory;" ∈ G0 := mG 259 rfl rfl
set_option maxRecDepth 20000 in
theorem kq_27 : Cond.methodLink RX_Pr 3 objectInit ∈ G0 := mG 155 rfl rfl
set_option maxRecDepth 20000 in
theorem kq_28 : Cond.classLink RX_Pr 9 RX_In ∈ G0 := mG 156 rfl rfl
set_option maxRecDepth 20000 in
theorem kq_29 : Cond.instantiable RX_In 7 ∈ G0 := mG 157 rfl rfl
set_option maxRecDepth 20000 in
theorem kq_30 : Cond.initialized RX_In ∈ G0 := mG 74 rfl rfl
set_option maxRecDepth 20000 in
theorem kq_31 : Cond.instanceMethod y_XIn_init ∈ G0 := mG 159 rfl rfl
set_option maxRecDepth 20000 in
theorem kq_32 : Cond.fieldLink RX_Pr 12 "DecimalMachine$Processor" "instruction" "LDecimalMachine$Instruction;" ∈ G0 := mG 269 rfl rfl
set_option maxRecDepth 20000 in
theorem kq_33 : Cond.fieldLink RX_Pr 18 "DecimalMachine$Processor" "done" "I" ∈ G0 := mG 275 rfl rfl
set_option maxRecDepth 20000 in
theorem kq_34 : Cond.fieldLink RX_Pr 22 "DecimalMachine$Processor" "faults" "I" ∈ G0 := mG 277 rfl rfl
set_option maxRecDepth 20000 in
theorem kq_35 : Cond.fieldLink RX_Pr 25 "DecimalMachine$Processor" "latestFault" "I" ∈ G0 := mG 279 rfl rfl
set_option maxRecDepth 20000 in
theorem kq_36 : Cond.fieldLink RX_Pr 28 "DecimalMachine$Processor" "state" "LDecimalMachine$State;" ∈ G0 := mG 268 rfl rfl
set_option maxRecDepth 20000 in
theorem kq_37 : Cond.classLink RX_Pr 32 RX_Ar ∈ G0 := mG 209 rfl rfl
set_option maxRecDepth 20000 in
theorem kq_38 : Cond.instantiable RX_Ar 1 ∈ G0 := mG 210 rfl rfl
set_option maxRecDepth 20000 in
theorem kq_39 : Cond.initialized RX_Ar ∈ G0 := mG 75 rfl rfl
set_option maxRecDepth 20000 in
theorem kq_40 : Cond.methodLink RX_Pr 34 y_XAr_init ∈ G0 := mG 211 rfl rfl
set_option maxRecDepth 20000 in
theorem kq_41 : Cond.instanceMethod y_XAr_init ∈ G0 := mG 212 rfl rfl
set_option maxRecDepth 20000 in
theorem kq_42 : Cond.fieldLink RX_Pr 37 "DecimalMachine$Processor" "arithmetic" "LDecimalMachine$Arithmetic;" ∈ G0 := mG 270 rfl rfl
set_option maxRecDepth 20000 in
theorem kq_43 : Cond.classLink RX_Pr 41 RX_Tr ∈ G0 := mG 219 rfl rfl
set_option maxRecDepth 20000 in
theorem kq_44 : Cond.instantiable RX_Tr 1 ∈ G0 := mG 220 rfl rfl
set_option maxRecDepth 20000 in
theorem kq_45 : Cond.initialized RX_Tr ∈ G0 := mG 76 rfl rfl
set_option maxRecDepth 20000 in
theorem kq_46 : Cond.methodLink RX_Pr 43 y_XTr_init ∈ G0 := mG 221 rfl rfl
set_option maxRecDepth 20000 in
theorem kq_47 : Cond.instanceMethod y_XTr_init ∈ G0 := mG 222 rfl rfl
set_option maxRecDepth 20000 in
theorem kq_48 : Cond.fieldLink RX_Pr 44 "DecimalMachine$Processor" "transfers" "LDecimalMachine$Transfers;" ∈ G0 := mG 271 rfl rfl
set_option maxRecDepth 20000 in
theorem kq_49 : Cond.classLink RX_Pr 48 RX_Br ∈ G0 := mG 229 rfl rfl
set_option maxRecDepth 20000 in
theorem kq_50 : Cond.instantiable RX_Br 1 ∈ G0 := mG 230 rfl rfl
set_option maxRecDepth 20000 in
theorem kq_51 : Cond.initialized RX_Br ∈ G0 := mG 77 rfl rfl
set_option maxRecDepth 20000 in
theorem kq_52 : Cond.methodLink RX_Pr 50 y_XBr_init ∈ G0 := mG 231 rfl rfl
set_option maxRecDepth 20000 in
theorem kq_53 : Cond.instanceMethod y_XBr_init ∈ G0 := mG 232 rfl rfl
set_option maxRecDepth 20000 in
theorem kq_54 : Cond.fieldLink RX_Pr 51 "DecimalMachine$Processor" "branches" "LDecimalMachine$Branches;" ∈ G0 := mG 272 rfl rfl
set_option maxRecDepth 20000 in
theorem kq_55 : Cond.classLink RX_Pr 55 RX_Oc ∈ G0 := mG 239 rfl rfl
set_option maxRecDepth 20000 in
theorem kq_56 : Cond.instantiable RX_Oc 2 ∈ G0 := mG 240 rfl rfl
set_option maxRecDepth 20000 in
theorem kq_57 : Cond.initialized RX_Oc ∈ G0 := mG 78 rfl rfl
set_option maxRecDepth 20000 in
theorem kq_58 : Cond.methodLink RX_Pr 57 y_XOc_init ∈ G0 := mG 241 rfl rfl
set_option maxRecDepth 20000 in
theorem kq_59 : Cond.instanceMethod y_XOc_init ∈ G0 := mG 242 rfl rfl
set_option maxRecDepth 20000 in
theorem kq_60 : Cond.fieldLink RX_Pr 58 "DecimalMachine$Processor" "octets" "LDecimalMachine$Octets;" ∈ G0 := mG 273 rfl rfl
set_option maxRecDepth 20000 in
theorem kq_61 : Cond.classLink RX_Pr 62 RX_De ∈ G0 := mG 252 rfl rfl
set_option maxRecDepth 20000 in
theorem kq_62 : Cond.instantiable RX_De 3 ∈ G0 := mG 253 rfl rfl
set_option maxRecDepth 20000 in
theorem kq_63 : Cond.initialized RX_De ∈ G0 := mG 79 rfl rfl
set_option maxRecDepth 20000 in
theorem kq_64 : Cond.methodLink RX_Pr 64 y_XDe_init ∈ G0 := mG 254 rfl rfl
set_option maxRecDepth 20000 in
theorem kq_65 : Cond.instanceMethod y_XDe_init ∈ G0 := mG 255 rfl rfl
set_option maxRecDepth 20000 in
theorem kq_66 : Cond.fieldLink RX_Pr 65 "DecimalMachine$Processor" "decimals" "LDecimalMachine$Decimals;" ∈ G0 := mG 274 rfl rfl
set_option maxRecDepth 20000 in
theorem kq_67 : Cond.methodLink RX_DM 1 objectInit ∈ G0 := mG 94 rfl rfl
set_option maxRecDepth 20000 in
theorem kq_68 : Cond.classLink RX_DM 7 RX_St ∈ G0 := mG 97 rfl rfl
set_option maxRecDepth 20000 in
theorem kq_69 : Cond.instantiable RX_St 6 ∈ G0 := mG 98 rfl rfl
set_option maxRecDepth 20000 in
theorem kq_70 : Cond.initialized RX_St ∈ G0 := mG 71 rfl rfl
set_option maxRecDepth 20000 in
theorem kq_71 : Cond.instanceMethod y_XSt_init ∈ G0 := mG 100 rfl rfl
set_option maxRecDepth 20000 in
theorem kq_72 : Cond.fieldLink RX_DM 10 "DecimalMachine" "state" "LDecimalMachine$State;" ∈ G0 := mG 302 rfl rfl
set_option maxRecDepth 20000 in
theorem kq_73 : Cond.classLink RX_DM 16 RX_Pr ∈ G0 := mG 150 rfl rfl
set_option maxRecDepth 20000 in
theorem kq_74 : Cond.instantiable RX_Pr 10 ∈ G0 := mG 151 rfl rfl
set_option maxRecDepth 20000 in
theorem kq_75 : Cond.initialized RX_Pr ∈ G0 := mG 73 rfl rfl
set_option maxRecDepth 20000 in
theorem kq_76 : Cond.methodLink RX_DM 18 y_XPr_init ∈ G0 := mG 152 rfl rfl
set_option maxRecDepth 20000 in
theorem kq_77 : Cond.instanceMethod y_XPr_init ∈ G0 := mG 153 rfl rfl
set_option maxRecDepth 20000 in
theorem kq_78 : Cond.fieldLink RX_DM 21 "DecimalMachine" "processor" "LDecimalMachine$Processor;" ∈ G0 := mG 303 rfl rfl
set_option maxRecDepth 20000 in
theorem kq_79 : Cond.methodLink RM_Mo 1 objectInit ∈ G0 := mG 840 rfl rfl
set_option maxRecDepth 20000 in
theorem kq_80 : Cond.fieldLink RM_Mo 7 "DecimalMachineModel" "memory" "[I" ∈ G0 := mG 841 rfl rfl
set_option maxRecDepth 20000 in
theorem kq_81 : Cond.fieldLink RM_Mo 13 "DecimalMachineModel" "\x72" "[I" ∈ G0 := mG 842 rfl rfl
set_option maxRecDepth 20000 in
theorem kq_82 : Cond.fieldLink RM_Mo 16 "DecimalMachineModel" "kept" "[I" ∈ G0 := mG 843 rfl rfl
set_option maxRecDepth 20000 in
theorem kq_83 : Cond.fieldLink RM_Mo 19 "DecimalMachineModel" "one" "[I" ∈ G0 := mG 844 rfl rfl
set_option maxRecDepth 20000 in
theorem kq_84 : Cond.fieldLink RM_Mo 22 "DecimalMachineModel" "two" "[I" ∈ G0 := mG 845 rfl rfl
set_option maxRecDepth 20000 in
theorem kq_85 : Cond.fieldLink RM_Mo 25 "DecimalMachineModel" "sum" "[I" ∈ G0 := mG 846 rfl rfl
set_option maxRecDepth 20000 in
theorem kq_86 : Cond.fieldLink RM_Mo 28 "DecimalMachineModel" "rest" "[I" ∈ G0 := mG 847 rfl rfl
set_option maxRecDepth 20000 in
theorem kq_87 : Cond.fieldLink RM_Mo 31 "DecimalMachineModel" "taken" "[I" ∈ G0 := mG 848 rfl rfl
set_option maxRecDepth 20000 in
theorem kq_88 : Cond.fieldLink RM_Mo 34 "DecimalMachineModel" "halt" "I" ∈ G0 := mG 853 rfl rfl
set_option maxRecDepth 20000 in
theorem kq_arr : Cond.arrayClass .int ∈ G0 := mG 113 rfl rfl
set_option maxRecDepth 20000 in
theorem kq_oi : Cond.instanceMethod objectInit ∈ G0 := mG 95 rfl rfl
set_option maxRecDepth 20000 in
theorem kq_oc : Cond.code objectInit ⟨#[0xb1]⟩ 1 none ∈ G0 := mG 96 rfl rfl
def nwC : List Cond := [Cond.methodLinkNest RX_St 11 y_XMe_init "DecimalMachine", Cond.fieldLinkNest RX_Oc 15 "DecimalMachine$State" "memory" "LDecimalMachine$Memory;" "DecimalMachine", Cond.fieldLinkNest RX_De 19 "DecimalMachine$State" "memory" "LDecimalMachine$Memory;" "DecimalMachine", Cond.methodLinkNest RX_Pr 11 y_XIn_init "DecimalMachine", Cond.methodLinkNest RX_DM 9 y_XSt_init "DecimalMachine"]
theorem nc_0 : Cond.methodLinkNest RX_St 11 y_XMe_init "DecimalMachine" ∈ nwC := List.mem_of_getElem? (i := 0) rfl
theorem nc_1 : Cond.fieldLinkNest RX_Oc 15 "DecimalMachine$State" "memory" "LDecimalMachine$Memory;" "DecimalMachine" ∈ nwC := List.mem_of_getElem? (i := 1) rfl
theorem nc_2 : Cond.fieldLinkNest RX_De 19 "DecimalMachine$State" "memory" "LDecimalMachine$Memory;" "DecimalMachine" ∈ nwC := List.mem_of_getElem? (i := 2) rfl
theorem nc_3 : Cond.methodLinkNest RX_Pr 11 y_XIn_init "DecimalMachine" ∈ nwC := List.mem_of_getElem? (i := 3) rfl
theorem nc_4 : Cond.methodLinkNest RX_DM 9 y_XSt_init "DecimalMachine" ∈ nwC := List.mem_of_getElem? (i := 4) rfl
theorem nwC_ok : ∀ w ∈ nwC, zNest w = true := by decide +kernel
theorem nwC_in : ∀ w ∈ nwC, w ∈ lw_tbl := zInL _ [105, 114, 116, 158, 99] (by decide +kernel)
theorem nC_blind {av : List Value} {sz : Nat} {D : va_G} {cl : List vw_C} {ws : va_W} : FrameBlind (va_Pc av (fun U => U.heap.size = sz ∧ va_P D cl ws U.heap ∧ va_K D cl [] U ∧ va_D (fun _ => True) ws ∧ ∀ w ∈ nwC, va_Nw w U)) := by
  intro a U g mk q
  obtain ⟨q0, q1, qP, qK, qD, qN⟩ := q
  exact ⟨q0, q1, qP, va_K.moved (u := U) (U := U.calling g mk a) (Vm.Alike.refl U.vm) qK, qD, fun w hw => zNest_same (s := U) (U := U.calling g mk a) (nwC_ok w hw) rfl (qN w hw)⟩
