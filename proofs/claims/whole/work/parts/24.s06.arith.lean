/-! arithmetic of a register with a number: class and reference -/
theorem ok0 : okf 0 := Or.inl rfl
theorem ok8 : okf 8 := Or.inr (Or.inl rfl)
theorem ok10 : okf 10 := Or.inr (Or.inr rfl)
theorem and1_le (x : Int32) : (x &&& 1 ≤ 0) = (x &&& 1 = 0) := by
  obtain ⟨j, hj, e⟩ := pk_andE x (m := 1) 1 rfl
  rw [e]
  apply propext
  rw [show (0 : Int32) = nI 0 from rfl, nI_leI (by omega) (by omega), nI_eq (by omega) (by omega)]
  omega
theorem bd1_id {β : Type} (o : Option β) : bd1 o (fun x => some x) = o := by cases o <;> rfl
theorem pr_id {α β : Type} (e : α × β) : pr e (fun a b => (a, b)) = e := rfl
theorem sim_exact {u : XS} {v : MS} (hC : Core u v) (h13 : mF v 13 = 0) {i : Nat} (hi : i < 16) (y : Int64) : Sim (f_XAr_putSigned u (nI i) y) (f_MMo_exact v (nI i) y) u v := by
  simp only [f_XAr_putSigned, f_XSt_fixedOverflow, f_MMo_exact, nm, jn, pr, bd1, x_putR u _ rfl hi, cond_sign, m_sign, sign_64, ckIN (n := 16) rfl hi (by decide), nI_clamp (show i < 2 ^ 31 by omega)]
  have h3 : xF u 2 = mF v 3 := hC.2.2.1.2.1
  by_cases c : y = y.toInt32.toInt64
  · rw [if_pos c.symm, if_pos c]
    simp only [bI0, ↓reduceIte]
    exact Sim.mk ok0 h13 ((hC.reg i _).cc _ (sgn_3 _ _)) rfl rfl rfl
  · rw [if_neg (fun e => c e.symm), if_neg c]
    simp only [bI0, reduceCtorEq, ↓reduceIte, xsF_2, xF_F, xF_R, mF_F, mF_A, Nat.reduceEqDiff, and1_le, h3]
    by_cases d : mF v 3 &&& 1 = 0
    · rw [if_pos d, if_pos d]
      exact Sim.mk ok0 h13 ((hC.reg i _).cc _ (by decide)) rfl rfl rfl
    · rw [if_neg d, if_neg d]
      exact Sim.mk ok8 rfl (((hC.reg i _).cc _ (by decide)).fl _) rfl rfl rfl
theorem bare_lt (x : Int32) : ∃ m, m < 4294967296 ∧ x.toInt64 &&& 4294967295 = lN m := pf_andw x.toInt64
theorem sim_plain {u : XS} {v : MS} (hC : Core u v) (h13 : mF v 13 = 0) {i : Nat} (hi : i < 16) {n : Nat} (hn : n < 8589934593) : Sim (f_XAr_putUnsigned u (nI i) (lN n)) (f_MMo_plain v (nI i) (lN n)) u v := by
  simp only [f_XAr_putUnsigned, f_MMo_plain, nm, jn, x_putR u _ rfl hi, ckIN (n := 16) rfl hi (by decide), nI_clamp (show i < 2 ^ 31 by omega), show (32 : Int32) = nI 32 from rfl, wb_shr (n := n) (k := 32) (by omega) (by omega)]
  have e1 : (lN n ≤ 4294967295) = (n ≤ 4294967295) := propext (pk_lLE (b := 4294967295) (by omega) (by omega))
  have e2 : (lN (n / 2 ^ 32) ≤ 0) = (n ≤ 4294967295) := by
    apply propext
    rw [show (0 : Int64) = lN 0 from rfl, pk_lLE (by omega) (by omega)]
    omega
  simp only [e2, e1]
  by_cases c1 : n ≤ 4294967295
  · simp only [if_pos c1]
    by_cases c2 : (lN n).toInt32 = 0
    · simp only [if_pos c2]
      exact Sim.mk ok0 h13 ((hC.reg i _).cc _ (by decide)) rfl rfl rfl
    · simp only [if_neg c2]
      exact Sim.mk ok0 h13 ((hC.reg i _).cc _ (by decide)) rfl rfl rfl
  · simp only [if_neg c1]
    by_cases c2 : (lN n).toInt32 = 0
    · simp only [if_pos c2]
      exact Sim.mk ok0 h13 ((hC.reg i _).cc _ (by decide)) rfl rfl rfl
    · simp only [if_neg c2]
      exact Sim.mk ok0 h13 ((hC.reg i _).cc _ (by decide)) rfl rfl rfl
theorem sub_small {a b : Int64} (ha : -4611686018427387904 ≤ a.toInt ∧ a.toInt < 4611686018427387904) (hb : -4611686018427387904 ≤ b.toInt ∧ b.toInt < 4611686018427387904) : (a - b).toInt = a.toInt - b.toInt := by
  rw [Int64.toInt_sub]
  exact Int.bmod_eq_of_le (by omega) (by omega)
theorem sim_comp {u : XS} {v : MS} (hC : Core u v) (h13 : mF v 13 = 0) {a b : Int64} (ha : -4611686018427387904 ≤ a.toInt ∧ a.toInt < 4611686018427387904) (hb : -4611686018427387904 ≤ b.toInt ∧ b.toInt < 4611686018427387904) : Sim (f_XAr_compare u a b) (bd1 (f_MMo_order v a b) (fun x => some (msF v 1 x))) u v := by
  have e : (a - b).toInt = a.toInt - b.toInt := sub_small ha hb
  have e1 : (a - b = 0) = (a = b) := by
    apply propext
    rw [← Int64.toInt_inj, ← Int64.toInt_inj, e, show (0 : Int64).toInt = 0 from rfl]
    omega
  have e2 : (0 ≤ a - b) = (b ≤ a) := by
    apply propext
    rw [Int64.le_iff_toInt_le, Int64.le_iff_toInt_le, e, show (0 : Int64).toInt = 0 from rfl]
    omega
  simp only [f_XAr_compare, nm, cond_sign, f_MMo_order, e1, e2]
  by_cases c1 : a = b
  · simp only [if_pos c1, bd1]
    exact Sim.mk ok0 h13 (hC.cc _ (by decide)) rfl rfl rfl
  · simp only [if_neg c1]
    by_cases c2 : b ≤ a
    · simp only [if_pos c2, bd1]
      exact Sim.mk ok0 h13 (hC.cc _ (by decide)) rfl rfl rfl
    · simp only [if_neg c2, bd1]
      exact Sim.mk ok0 h13 (hC.cc _ (by decide)) rfl rfl rfl
theorem i32_small (x : Int32) : -4611686018427387904 ≤ x.toInt64.toInt ∧ x.toInt64.toInt < 4611686018427387904 := by
  rw [Int32.toInt_toInt64]
  have h1 := x.toInt_lt
  have h2 := x.le_toInt
  omega
theorem bare_small (x : Int32) : -4611686018427387904 ≤ (x.toInt64 &&& 4294967295).toInt ∧ (x.toInt64 &&& 4294967295).toInt < 4611686018427387904 := by
  obtain ⟨m, hm, e⟩ := bare_lt x
  rw [e, pk_lT (by omega)]
  omega
theorem sim_bits {u : XS} {v : MS} (hC : Core u v) (h13 : mF v 13 = 0) {i : Nat} (hi : i < 16) (y : Int32) : Sim (f_XAr_putBits u (nI i) y) (if y = 0 then some (msF (msA v 2 i y) 1 0) else some (msF (msA v 2 i y) 1 1)) u v := by
  simp only [f_XAr_putBits, nm, x_putR u _ rfl hi, cond_bits]
  by_cases c : y = 0
  · simp only [if_pos c]
    exact Sim.mk ok0 h13 ((hC.reg i _).cc _ (by decide)) rfl rfl rfl
  · simp only [if_neg c]
    exact Sim.mk ok0 h13 ((hC.reg i _).cc _ (by decide)) rfl rfl rfl
theorem sim_load {u : XS} {v : MS} (hC : Core u v) (h13 : mF v 13 = 0) {i : Nat} (hi : i < 16) (y : Int32) : Sim (f_XAr_load u (nI i) y) (some (msA v 2 i y)) u v := by
  simp only [f_XAr_load, nm, x_putR u _ rfl hi]
  exact Sim.mk ok0 h13 (hC.reg i _) rfl rfl rfl
theorem msA_at (v : MS) (p i : Nat) (y : Int32) : mA (msA v p i y) p i = y := by rw [mA_A, if_pos rfl, updE, if_pos rfl]
theorem sim_mult {u : XS} {v : MS} (hC : Core u v) (h13 : mF v 13 = 0) {i : Nat} (hi : i + 1 < 16) (y : Int32) : Sim (f_XAr_multiply u (nI i) y) (f_MMo_reckons v 92 (nI i) y) u v := by
  have hR : xR u = mA v 2 := hC.2.1
  have e1 : nI i + 1 = nI (i + 1) := nI_1 i
  simp +decide only [f_XAr_multiply, f_MMo_reckons, nm, jn, x_putR _ _ rfl (show i < 16 by omega), e1, x_putR _ _ rfl hi, x_val u rfl hi, ckIN (n := 16) (A := i) rfl (by omega) (by decide), ckIN (n := 16) (A := i + 1) rfl hi (by decide), nI_clamp (show i < 2 ^ 31 by omega), nI_clamp (show i + 1 < 2 ^ 31 by omega), ↓reduceIte, hR]
  exact Sim.mk ok0 h13 ((hC.reg i _).reg _ _) rfl rfl rfl
theorem fits_iff (y : Int64) : (y = y.toInt32.toInt64) ↔ (-2147483648 ≤ y.toInt ∧ y.toInt ≤ 2147483647) := by
  have h1 := y.toInt32.toInt_lt
  have h2 := y.toInt32.le_toInt
  constructor
  · intro h
    have : y.toInt = y.toInt32.toInt := by
      have := congrArg Int64.toInt h
      rw [Int32.toInt_toInt64] at this
      exact this
    omega
  · rintro ⟨ha, hb⟩
    apply Int64.toInt_inj.mp
    rw [Int32.toInt_toInt64, Int64.toInt_toInt32]
    exact (Int.bmod_eq_of_le (by omega) (by omega)).symm
theorem in_fits (v : MS) (y : Int64) : f_MMo_in v y (-2147483648) 2147483647 = some (decide (y = y.toInt32.toInt64)) := by
  simp only [f_MMo_in, fits_iff, Int64.lt_iff_toInt_lt, show (-2147483648 : Int64).toInt = -2147483648 from rfl, show (2147483647 : Int64).toInt = 2147483647 from rfl]
  split
  · congr 1; symm; simp only [decide_eq_false_iff_not]; omega
  · split
    · congr 1; symm; simp only [decide_eq_false_iff_not]; omega
    · congr 1; symm; simp only [decide_eq_true_eq]; omega
theorem ckN64_ok {β : Type} {y : Int32} {t : Option β} (h : ¬ y = 0) : ckN64 y.toInt64 t = t := by
  unfold ckN64
  rw [if_neg (z_nz64 h)]
/-- the reference looks whether a quotient has room; the class finds it as it divides -/
theorem m_div {v : MS} {s i : Nat} (h10 : mF v 10 = nI s) (hh : nI s >>> ((4 : Int32) &&& 31) = nI i) (hi : i < 16) (he : i % 2 = 0) (y : Int32) : f_MMo_divides v y = some (if y = 0 then false else decide (((mA v 2 (i)).toInt64 <<< (Int32.toInt64 32 &&& 63) ||| (mA v 2 (i + 1)).toInt64 &&& 4294967295) / y.toInt64 = (((mA v 2 (i)).toInt64 <<< (Int32.toInt64 32 &&& 63) ||| (mA v 2 (i + 1)).toInt64 &&& 4294967295) / y.toInt64).toInt32.toInt64)) := by
  have e1 : nI (i) &&& 1 = nI (i % 2) := pk_andN (by omega) 1 rfl
  have e2 : ¬ nI (i % 2) = 1 := by rw [he]; decide
  simp only [f_MMo_divides, hi_eq h10 hh, bd1, e1, if_neg e2, nm, nI_1, ckIN (n := 16) (A := i) rfl (by omega) (by decide), ckIN (n := 16) (A := i + 1) rfl (by omega) (by decide), nI_clamp (show i < 2 ^ 31 by omega), nI_clamp (show i + 1 < 2 ^ 31 by omega)]
  by_cases c : y = 0
  · rw [if_pos c, if_pos c]
  · rw [if_neg c, if_neg c, ckN64_ok c, in_fits]
    simp only [bI0]
    split
    · rename_i h; rw [h]
    · rename_i h; rw [Bool.not_eq_false] at h; rw [h]
theorem sim_divide {u : XS} {v : MS} (hC : Core u v) (h13 : mF v 13 = 0) {i : Nat} (hi : i + 1 < 16) {y : Int32} (hy : ¬ y = 0) (hf : ((mA v 2 i).toInt64 <<< (Int32.toInt64 32 &&& 63) ||| (mA v 2 (i + 1)).toInt64 &&& 4294967295) / y.toInt64 = (((mA v 2 i).toInt64 <<< (Int32.toInt64 32 &&& 63) ||| (mA v 2 (i + 1)).toInt64 &&& 4294967295) / y.toInt64).toInt32.toInt64) : Sim (f_XAr_divide u (nI i) y) (f_MMo_reckons v 93 (nI i) y) u v := by
  have hR : xR u = mA v 2 := hC.2.1
  have e1 : nI i + 1 = nI (i + 1) := nI_1 i
  simp +decide only [f_XAr_divide, f_MMo_reckons, f_MMo_bare, bd1, nm, jn, x_putR _ _ rfl (show i < 16 by omega), e1, x_putR _ _ rfl hi, x_val u rfl hi, x_val u rfl (show i < 16 by omega), ckIN (n := 16) (A := i) rfl (by omega) (by decide), ckIN (n := 16) (A := i + 1) rfl hi (by decide), nI_clamp (show i < 2 ^ 31 by omega), nI_clamp (show i + 1 < 2 ^ 31 by omega), ↓reduceIte, hR, if_neg hy, ckN64_ok hy, ← hf]
  exact Sim.mk ok0 h13 ((hC.reg i _).reg _ _) rfl rfl rfl
