/-! instructions of two octets -/
theorem le_nI {k c : Nat} (hk : k < 2147483648) (hc : c < 2147483648) : (nI k ≤ nI c) = (k ≤ c) := propext (nI_leI hk hc)
theorem lt_nI {k c : Nat} (hk : k < 2147483648) (hc : c < 2147483648) : (nI k < nI c) = (k < c) := propext (nI_ltI hk hc)
theorem eq_nI {k c : Nat} (hk : k < 2147483648) (hc : c < 2147483648) : (nI k = nI c) = (k = c) := propext (nI_eq hk hc)
theorem Dd.act {u : XS} {v : MS} {c s i j a1 a2 at0 : Nat} (h : Dd u v c s i j a1 a2 at0) : ∃ n, n ≤ 1024 ∧ xF u 0 = nI n ∧ xF u 10 = nI n ∧ (c < 64 → f_MMo_acts v = f_MMo_registers v (nI n)) ∧ (64 ≤ c → c < 128 → f_MMo_acts v = f_MMo_indexed v (nI n)) ∧ (128 ≤ c → c < 192 → f_MMo_acts v = f_MMo_others v (nI n)) ∧ (192 ≤ c → c < 240 → f_MMo_acts v = f_MMo_octets (msF v 2 (nI n))) ∧ (240 ≤ c → c < 244 → f_MMo_acts v = f_MMo_shifts (msF v 2 (nI n))) ∧ (244 ≤ c → f_MMo_acts v = f_MMo_digits (msF v 2 (nI n))) := by
  obtain ⟨hC, ⟨hc, hs, hi, hj, h1, h2⟩, ⟨hlo, hhi, hsij⟩, ⟨hx4, hm8⟩, ⟨hx5, hm10⟩, ⟨hx6, hx7⟩, -, -, -, ⟨h13, h0, hat⟩, z, hz, hle, hbh, hnx⟩ := h
  have e : (mF v 2 + mF v 9) &&& 16777215 = nI (at0 + z) := by
    rw [hat, hz, nI_add, pk_andN (by omega) 24 rfl, Nat.mod_eq_of_lt (by omega)]
  have l1 : ((64 : Int32) ≤ nI c) = (64 ≤ c) := le_nI (k := 64) (by decide) (by omega)
  have l2 : ((128 : Int32) ≤ nI c) = (128 ≤ c) := le_nI (k := 128) (by decide) (by omega)
  have l3 : ((192 : Int32) ≤ nI c) = (192 ≤ c) := le_nI (k := 192) (by decide) (by omega)
  have l4 : ((240 : Int32) ≤ nI c) = (240 ≤ c) := le_nI (k := 240) (by decide) (by omega)
  have l5 : ((244 : Int32) ≤ nI c) = (244 ≤ c) := le_nI (k := 244) (by decide) (by omega)
  refine ⟨at0 + z, hle, hnx, hbh, ?_⟩
  simp only [f_MMo_acts, nm, e, mF_F, hm8, Nat.reduceEqDiff, ↓reduceIte, l1, l2, l3, l4, l5, bd1_id]
  refine ⟨fun h => ?_, fun h h' => ?_, fun h h' => ?_, fun h h' => ?_, fun h h' => ?_, fun h => ?_⟩
  · rw [if_neg (by omega)]
  · rw [if_pos (by omega), if_neg (by omega)]
  · rw [if_pos (by omega), if_pos (by omega), if_neg (by omega)]
  · rw [if_pos (by omega), if_pos (by omega), if_pos (by omega), if_neg (by omega)]
  · rw [if_pos (by omega), if_pos (by omega), if_pos (by omega), if_pos (by omega), if_neg (by omega)]
  · rw [if_pos (by omega), if_pos (by omega), if_pos (by omega), if_pos (by omega), if_pos (by omega)]
theorem looks_rr {u : XS} {v : MS} {c s i j a1 a2 at0 : Nat} (h : Dd u v c s i j a1 a2 at0) (hc : c < 64) (h28 : c ≠ 28) (h29 : c ≠ 29) : f_MMo_looks v = some v := by
  obtain ⟨hC, ⟨-, hs, hi, hj, h1, h2⟩, ⟨hlo, hhi, hsij⟩, ⟨hx4, hm8⟩, ⟨hx5, hm10⟩, -⟩ := h
  have l1 : ((64 : Int32) ≤ nI c) = (64 ≤ c) := le_nI (k := 64) (by decide) (by omega)
  have l2 : (nI c = (28 : Int32)) = (c = 28) := eq_nI (c := 28) (by omega) (by decide)
  have l3 : (nI c = (29 : Int32)) = (c = 29) := eq_nI (c := 29) (by omega) (by decide)
  simp only [f_MMo_looks, nm, jn, bd1, f_MMo_low, f_MMo_high, hm8, l1, l2, l3, if_neg (show ¬ 64 ≤ c by omega), if_neg h28, if_neg h29, wrong_f]
/-- an instruction that stores its answer: behind it the class and the reference stand alike -/
theorem Sim.out {p : Int32 × XS} {u : XS} {v : MS} {r : Option MS} {n : Nat} (h : Sim p r u (msF v 2 (nI n))) (hl : f_MMo_looks v = some v) (h13 : mF v 13 = 0) (hr : f_MMo_acts v = r) (hn : xF u 0 = nI n) (hle : n ≤ 1024) : Out p v := by
  subst hr
  exact Out.ok hl h13 h.1 (h.done rfl hn rfl (by omega))
theorem abs_eq (y : Int32) : (if 0 < y.toInt64 then y.toInt64 else -y.toInt64) = if 0 ≤ y then y.toInt64 else -y.toInt64 := by
  by_cases c : y = 0
  · subst c; decide
  · have h : (0 < y.toInt64) = (0 ≤ y) := by
      apply propext
      have h1 : y.toInt ≠ 0 := fun e => c (Int32.toInt_inj.mp e)
      rw [Int64.lt_iff_toInt_lt, Int32.le_iff_toInt_le, Int32.toInt_toInt64, show (0 : Int64).toInt = 0 from rfl, show (0 : Int32).toInt = 0 from rfl]
      omega
    simp only [h]
theorem neg_64 {y : Int32} (h : 0 ≤ y) : (-y).toInt64 = -y.toInt64 := by
  have h0 : 0 ≤ y.toInt := by rw [Int32.le_iff_toInt_le] at h; exact h
  have h1 := y.toInt_lt
  apply Int64.toInt_inj.mp
  rw [Int32.toInt_toInt64, Int32.toInt_neg, Int64.toInt_neg, Int32.toInt_toInt64, Int.bmod_eq_of_le (by omega) (by omega), Int.bmod_eq_of_le (by omega) (by omega)]
theorem neg_neg64 (y : Int64) : - -y = y := by simp
theorem i64_i32 (y : Int32) : y.toInt64.toInt32 = y := by simp

theorem op_16 {u : XS} {v : MS} {s i j a1 a2 at0 : Nat} (h : Dd u v 16 s i j a1 a2 at0) : Out (f_XPr_perform u) v := by
  obtain ⟨n, hn, hnx, hbh, hact⟩ := h.act
  have hl := looks_rr h (by decide) (by decide) (by decide)
  have hact := hact.1 (by decide)
  obtain ⟨hC, ⟨-, hs, hi, hj, h1, h2⟩, ⟨hlo, hhi, hsij⟩, ⟨hx4, hm8⟩, ⟨hx5, hm10⟩, ⟨hx6, hx7⟩, -, -, -, ⟨h13, h0, hat⟩, -⟩ := h
  have hx4 : xF u 4 = 16 := hx4
  have hm8 : mF v 8 = 16 := hm8
  have hR : xR u = mA v 2 := hC.2.1

  have eX : f_XPr_perform u = f_XAr_apply u 16 (nI (i)) (mA v 2 (j)) := by
    simp +decide only [f_XPr_perform, f_XPr_performRegular, f_XAr_withRegister, f_XAr_lacksPair, prI, nmE, jnE, hx4, hx6, hx7, bI0, ↓reduceIte, x_val u rfl hj, hR]
  have eM : f_MMo_acts v = f_MMo_registers v (nI n) := hact
  rw [eX]
  refine Sim.out (n := n) (r := f_MMo_registers v (nI n)) ?_ hl h13 hact hnx hn
  simp +decide only [f_XAr_apply, nmE, prI, ↓reduceIte, hR, x_val u rfl hi, f_MMo_registers, f_MMo_low, f_MMo_high, nmE, jnE, bd1S, hm10, hm8, hlo, hhi, mF_F, mA_F, mF_A, Nat.reduceEqDiff, ↓reduceIte, ckIN (n := 16) (A := j) rfl (by omega) (by decide), ckIN (n := 16) (A := i) rfl (by omega) (by decide), nI_clamp (show j < 2 ^ 31 by omega), nI_clamp (show i < 2 ^ 31 by omega), abs_eq, bd1_id]
  by_cases c : 0 ≤ mA v 2 (j)
  · simp only [if_pos c]
    exact sim_exact (hC.mn _) h13 hi _
  · simp only [if_neg c]
    exact sim_exact (hC.mn _) h13 hi _
theorem op_17 {u : XS} {v : MS} {s i j a1 a2 at0 : Nat} (h : Dd u v 17 s i j a1 a2 at0) : Out (f_XPr_perform u) v := by
  obtain ⟨n, hn, hnx, hbh, hact⟩ := h.act
  have hl := looks_rr h (by decide) (by decide) (by decide)
  have hact := hact.1 (by decide)
  obtain ⟨hC, ⟨-, hs, hi, hj, h1, h2⟩, ⟨hlo, hhi, hsij⟩, ⟨hx4, hm8⟩, ⟨hx5, hm10⟩, ⟨hx6, hx7⟩, -, -, -, ⟨h13, h0, hat⟩, -⟩ := h
  have hx4 : xF u 4 = 17 := hx4
  have hm8 : mF v 8 = 17 := hm8
  have hR : xR u = mA v 2 := hC.2.1

  have eX : f_XPr_perform u = f_XAr_apply u 17 (nI (i)) (mA v 2 (j)) := by
    simp +decide only [f_XPr_perform, f_XPr_performRegular, f_XAr_withRegister, f_XAr_lacksPair, prI, nmE, jnE, hx4, hx6, hx7, bI0, ↓reduceIte, x_val u rfl hj, hR]
  have eM : f_MMo_acts v = f_MMo_registers v (nI n) := hact
  rw [eX]
  refine Sim.out (n := n) (r := f_MMo_registers v (nI n)) ?_ hl h13 hact hnx hn
  simp +decide only [f_XAr_apply, nmE, prI, ↓reduceIte, hR, x_val u rfl hi, f_MMo_registers, f_MMo_low, f_MMo_high, nmE, jnE, bd1S, hm10, hm8, hlo, hhi, mF_F, mA_F, mF_A, Nat.reduceEqDiff, ↓reduceIte, ckIN (n := 16) (A := j) rfl (by omega) (by decide), ckIN (n := 16) (A := i) rfl (by omega) (by decide), nI_clamp (show j < 2 ^ 31 by omega), nI_clamp (show i < 2 ^ 31 by omega), abs_eq, bd1_id]
  by_cases c : 0 ≤ mA v 2 (j)
  · simp only [if_pos c, neg_64 c]
    exact sim_exact (hC.mn _) h13 hi _
  · simp only [if_neg c, neg_neg64]
    exact sim_exact (hC.mn _) h13 hi _
theorem op_18 {u : XS} {v : MS} {s i j a1 a2 at0 : Nat} (h : Dd u v 18 s i j a1 a2 at0) : Out (f_XPr_perform u) v := by
  obtain ⟨n, hn, hnx, hbh, hact⟩ := h.act
  have hl := looks_rr h (by decide) (by decide) (by decide)
  have hact := hact.1 (by decide)
  obtain ⟨hC, ⟨-, hs, hi, hj, h1, h2⟩, ⟨hlo, hhi, hsij⟩, ⟨hx4, hm8⟩, ⟨hx5, hm10⟩, ⟨hx6, hx7⟩, -, -, -, ⟨h13, h0, hat⟩, -⟩ := h
  have hx4 : xF u 4 = 18 := hx4
  have hm8 : mF v 8 = 18 := hm8
  have hR : xR u = mA v 2 := hC.2.1

  have eX : f_XPr_perform u = f_XAr_apply u 18 (nI (i)) (mA v 2 (j)) := by
    simp +decide only [f_XPr_perform, f_XPr_performRegular, f_XAr_withRegister, f_XAr_lacksPair, prI, nmE, jnE, hx4, hx6, hx7, bI0, ↓reduceIte, x_val u rfl hj, hR]
  have eM : f_MMo_acts v = f_MMo_registers v (nI n) := hact
  rw [eX]
  refine Sim.out (n := n) (r := f_MMo_registers v (nI n)) ?_ hl h13 hact hnx hn
  simp +decide only [f_XAr_apply, nmE, prI, ↓reduceIte, hR, x_val u rfl hi, f_MMo_registers, f_MMo_low, f_MMo_high, nmE, jnE, bd1S, hm10, hm8, hlo, hhi, mF_F, mA_F, mF_A, Nat.reduceEqDiff, ↓reduceIte, ckIN (n := 16) (A := j) rfl (by omega) (by decide), ckIN (n := 16) (A := i) rfl (by omega) (by decide), nI_clamp (show j < 2 ^ 31 by omega), nI_clamp (show i < 2 ^ 31 by omega), f_XAr_putSigned, i64_i32, cond_sign, sign_64, m_sign, x_putR u _ rfl hi]
  exact Sim.mk ok0 h13 (((hC.mn _).reg _ _).cc _ (sgn_3 _ _)) rfl rfl rfl
theorem op_19 {u : XS} {v : MS} {s i j a1 a2 at0 : Nat} (h : Dd u v 19 s i j a1 a2 at0) : Out (f_XPr_perform u) v := by
  obtain ⟨n, hn, hnx, hbh, hact⟩ := h.act
  have hl := looks_rr h (by decide) (by decide) (by decide)
  have hact := hact.1 (by decide)
  obtain ⟨hC, ⟨-, hs, hi, hj, h1, h2⟩, ⟨hlo, hhi, hsij⟩, ⟨hx4, hm8⟩, ⟨hx5, hm10⟩, ⟨hx6, hx7⟩, -, -, -, ⟨h13, h0, hat⟩, -⟩ := h
  have hx4 : xF u 4 = 19 := hx4
  have hm8 : mF v 8 = 19 := hm8
  have hR : xR u = mA v 2 := hC.2.1

  have eX : f_XPr_perform u = f_XAr_apply u 19 (nI (i)) (mA v 2 (j)) := by
    simp +decide only [f_XPr_perform, f_XPr_performRegular, f_XAr_withRegister, f_XAr_lacksPair, prI, nmE, jnE, hx4, hx6, hx7, bI0, ↓reduceIte, x_val u rfl hj, hR]
  have eM : f_MMo_acts v = f_MMo_registers v (nI n) := hact
  rw [eX]
  refine Sim.out (n := n) (r := f_MMo_registers v (nI n)) ?_ hl h13 hact hnx hn
  simp +decide only [f_XAr_apply, nmE, prI, ↓reduceIte, hR, x_val u rfl hi, f_MMo_registers, f_MMo_low, f_MMo_high, nmE, jnE, bd1S, hm10, hm8, hlo, hhi, mF_F, mA_F, mF_A, Nat.reduceEqDiff, ↓reduceIte, ckIN (n := 16) (A := j) rfl (by omega) (by decide), ckIN (n := 16) (A := i) rfl (by omega) (by decide), nI_clamp (show j < 2 ^ 31 by omega), nI_clamp (show i < 2 ^ 31 by omega), bd1_id]
  exact sim_exact (hC.mn _) h13 hi _
theorem op_20 {u : XS} {v : MS} {s i j a1 a2 at0 : Nat} (h : Dd u v 20 s i j a1 a2 at0) : Out (f_XPr_perform u) v := by
  obtain ⟨n, hn, hnx, hbh, hact⟩ := h.act
  have hl := looks_rr h (by decide) (by decide) (by decide)
  have hact := hact.1 (by decide)
  obtain ⟨hC, ⟨-, hs, hi, hj, h1, h2⟩, ⟨hlo, hhi, hsij⟩, ⟨hx4, hm8⟩, ⟨hx5, hm10⟩, ⟨hx6, hx7⟩, -, -, -, ⟨h13, h0, hat⟩, -⟩ := h
  have hx4 : xF u 4 = 20 := hx4
  have hm8 : mF v 8 = 20 := hm8
  have hR : xR u = mA v 2 := hC.2.1

  have eX : f_XPr_perform u = f_XAr_apply u 20 (nI (i)) (mA v 2 (j)) := by
    simp +decide only [f_XPr_perform, f_XPr_performRegular, f_XAr_withRegister, f_XAr_lacksPair, prI, nmE, jnE, hx4, hx6, hx7, bI0, ↓reduceIte, x_val u rfl hj, hR]
  have eM : f_MMo_acts v = f_MMo_registers v (nI n) := hact
  rw [eX]
  refine Sim.out (n := n) (r := f_MMo_registers v (nI n)) ?_ hl h13 hact hnx hn
  simp +decide only [f_XAr_apply, nmE, prI, ↓reduceIte, hR, x_val u rfl hi, f_MMo_registers, f_MMo_low, f_MMo_high, nmE, jnE, bd1S, hm10, hm8, hlo, hhi, mF_F, mA_F, mF_A, Nat.reduceEqDiff, ↓reduceIte, ckIN (n := 16) (A := j) rfl (by omega) (by decide), ckIN (n := 16) (A := i) rfl (by omega) (by decide), nI_clamp (show j < 2 ^ 31 by omega), nI_clamp (show i < 2 ^ 31 by omega), bd1_id, f_MMo_reckons, msA_at, f_MMo_bare, Int32.reduceAdd]
  exact sim_bits (hC.mn _) h13 hi _
theorem op_21 {u : XS} {v : MS} {s i j a1 a2 at0 : Nat} (h : Dd u v 21 s i j a1 a2 at0) : Out (f_XPr_perform u) v := by
  obtain ⟨n, hn, hnx, hbh, hact⟩ := h.act
  have hl := looks_rr h (by decide) (by decide) (by decide)
  have hact := hact.1 (by decide)
  obtain ⟨hC, ⟨-, hs, hi, hj, h1, h2⟩, ⟨hlo, hhi, hsij⟩, ⟨hx4, hm8⟩, ⟨hx5, hm10⟩, ⟨hx6, hx7⟩, -, -, -, ⟨h13, h0, hat⟩, -⟩ := h
  have hx4 : xF u 4 = 21 := hx4
  have hm8 : mF v 8 = 21 := hm8
  have hR : xR u = mA v 2 := hC.2.1

  have eX : f_XPr_perform u = f_XAr_apply u 21 (nI (i)) (mA v 2 (j)) := by
    simp +decide only [f_XPr_perform, f_XPr_performRegular, f_XAr_withRegister, f_XAr_lacksPair, prI, nmE, jnE, hx4, hx6, hx7, bI0, ↓reduceIte, x_val u rfl hj, hR]
  have eM : f_MMo_acts v = f_MMo_registers v (nI n) := hact
  rw [eX]
  refine Sim.out (n := n) (r := f_MMo_registers v (nI n)) ?_ hl h13 hact hnx hn
  simp +decide only [f_XAr_apply, nmE, prI, ↓reduceIte, hR, x_val u rfl hi, f_MMo_registers, f_MMo_low, f_MMo_high, nmE, jnE, bd1S, hm10, hm8, hlo, hhi, mF_F, mA_F, mF_A, Nat.reduceEqDiff, ↓reduceIte, ckIN (n := 16) (A := j) rfl (by omega) (by decide), ckIN (n := 16) (A := i) rfl (by omega) (by decide), nI_clamp (show j < 2 ^ 31 by omega), nI_clamp (show i < 2 ^ 31 by omega), bd1_id, f_MMo_reckons, msA_at, f_MMo_bare, Int32.reduceAdd]
  exact sim_comp (hC.mn _) h13 (bare_small _) (bare_small _)
theorem op_22 {u : XS} {v : MS} {s i j a1 a2 at0 : Nat} (h : Dd u v 22 s i j a1 a2 at0) : Out (f_XPr_perform u) v := by
  obtain ⟨n, hn, hnx, hbh, hact⟩ := h.act
  have hl := looks_rr h (by decide) (by decide) (by decide)
  have hact := hact.1 (by decide)
  obtain ⟨hC, ⟨-, hs, hi, hj, h1, h2⟩, ⟨hlo, hhi, hsij⟩, ⟨hx4, hm8⟩, ⟨hx5, hm10⟩, ⟨hx6, hx7⟩, -, -, -, ⟨h13, h0, hat⟩, -⟩ := h
  have hx4 : xF u 4 = 22 := hx4
  have hm8 : mF v 8 = 22 := hm8
  have hR : xR u = mA v 2 := hC.2.1

  have eX : f_XPr_perform u = f_XAr_apply u 22 (nI (i)) (mA v 2 (j)) := by
    simp +decide only [f_XPr_perform, f_XPr_performRegular, f_XAr_withRegister, f_XAr_lacksPair, prI, nmE, jnE, hx4, hx6, hx7, bI0, ↓reduceIte, x_val u rfl hj, hR]
  have eM : f_MMo_acts v = f_MMo_registers v (nI n) := hact
  rw [eX]
  refine Sim.out (n := n) (r := f_MMo_registers v (nI n)) ?_ hl h13 hact hnx hn
  simp +decide only [f_XAr_apply, nmE, prI, ↓reduceIte, hR, x_val u rfl hi, f_MMo_registers, f_MMo_low, f_MMo_high, nmE, jnE, bd1S, hm10, hm8, hlo, hhi, mF_F, mA_F, mF_A, Nat.reduceEqDiff, ↓reduceIte, ckIN (n := 16) (A := j) rfl (by omega) (by decide), ckIN (n := 16) (A := i) rfl (by omega) (by decide), nI_clamp (show j < 2 ^ 31 by omega), nI_clamp (show i < 2 ^ 31 by omega), bd1_id, f_MMo_reckons, msA_at, f_MMo_bare, Int32.reduceAdd]
  exact sim_bits (hC.mn _) h13 hi _
theorem op_23 {u : XS} {v : MS} {s i j a1 a2 at0 : Nat} (h : Dd u v 23 s i j a1 a2 at0) : Out (f_XPr_perform u) v := by
  obtain ⟨n, hn, hnx, hbh, hact⟩ := h.act
  have hl := looks_rr h (by decide) (by decide) (by decide)
  have hact := hact.1 (by decide)
  obtain ⟨hC, ⟨-, hs, hi, hj, h1, h2⟩, ⟨hlo, hhi, hsij⟩, ⟨hx4, hm8⟩, ⟨hx5, hm10⟩, ⟨hx6, hx7⟩, -, -, -, ⟨h13, h0, hat⟩, -⟩ := h
  have hx4 : xF u 4 = 23 := hx4
  have hm8 : mF v 8 = 23 := hm8
  have hR : xR u = mA v 2 := hC.2.1

  have eX : f_XPr_perform u = f_XAr_apply u 23 (nI (i)) (mA v 2 (j)) := by
    simp +decide only [f_XPr_perform, f_XPr_performRegular, f_XAr_withRegister, f_XAr_lacksPair, prI, nmE, jnE, hx4, hx6, hx7, bI0, ↓reduceIte, x_val u rfl hj, hR]
  have eM : f_MMo_acts v = f_MMo_registers v (nI n) := hact
  rw [eX]
  refine Sim.out (n := n) (r := f_MMo_registers v (nI n)) ?_ hl h13 hact hnx hn
  simp +decide only [f_XAr_apply, nmE, prI, ↓reduceIte, hR, x_val u rfl hi, f_MMo_registers, f_MMo_low, f_MMo_high, nmE, jnE, bd1S, hm10, hm8, hlo, hhi, mF_F, mA_F, mF_A, Nat.reduceEqDiff, ↓reduceIte, ckIN (n := 16) (A := j) rfl (by omega) (by decide), ckIN (n := 16) (A := i) rfl (by omega) (by decide), nI_clamp (show j < 2 ^ 31 by omega), nI_clamp (show i < 2 ^ 31 by omega), bd1_id, f_MMo_reckons, msA_at, f_MMo_bare, Int32.reduceAdd]
  exact sim_bits (hC.mn _) h13 hi _
theorem op_24 {u : XS} {v : MS} {s i j a1 a2 at0 : Nat} (h : Dd u v 24 s i j a1 a2 at0) : Out (f_XPr_perform u) v := by
  obtain ⟨n, hn, hnx, hbh, hact⟩ := h.act
  have hl := looks_rr h (by decide) (by decide) (by decide)
  have hact := hact.1 (by decide)
  obtain ⟨hC, ⟨-, hs, hi, hj, h1, h2⟩, ⟨hlo, hhi, hsij⟩, ⟨hx4, hm8⟩, ⟨hx5, hm10⟩, ⟨hx6, hx7⟩, -, -, -, ⟨h13, h0, hat⟩, -⟩ := h
  have hx4 : xF u 4 = 24 := hx4
  have hm8 : mF v 8 = 24 := hm8
  have hR : xR u = mA v 2 := hC.2.1

  have eX : f_XPr_perform u = f_XAr_apply u 24 (nI (i)) (mA v 2 (j)) := by
    simp +decide only [f_XPr_perform, f_XPr_performRegular, f_XAr_withRegister, f_XAr_lacksPair, prI, nmE, jnE, hx4, hx6, hx7, bI0, ↓reduceIte, x_val u rfl hj, hR]
  have eM : f_MMo_acts v = f_MMo_registers v (nI n) := hact
  rw [eX]
  refine Sim.out (n := n) (r := f_MMo_registers v (nI n)) ?_ hl h13 hact hnx hn
  simp +decide only [f_XAr_apply, nmE, prI, ↓reduceIte, hR, x_val u rfl hi, f_MMo_registers, f_MMo_low, f_MMo_high, nmE, jnE, bd1S, hm10, hm8, hlo, hhi, mF_F, mA_F, mF_A, Nat.reduceEqDiff, ↓reduceIte, ckIN (n := 16) (A := j) rfl (by omega) (by decide), ckIN (n := 16) (A := i) rfl (by omega) (by decide), nI_clamp (show j < 2 ^ 31 by omega), nI_clamp (show i < 2 ^ 31 by omega), bd1_id, f_MMo_reckons, msA_at, f_MMo_bare, Int32.reduceAdd]
  exact sim_load (hC.mn _) h13 hi _
theorem op_25 {u : XS} {v : MS} {s i j a1 a2 at0 : Nat} (h : Dd u v 25 s i j a1 a2 at0) : Out (f_XPr_perform u) v := by
  obtain ⟨n, hn, hnx, hbh, hact⟩ := h.act
  have hl := looks_rr h (by decide) (by decide) (by decide)
  have hact := hact.1 (by decide)
  obtain ⟨hC, ⟨-, hs, hi, hj, h1, h2⟩, ⟨hlo, hhi, hsij⟩, ⟨hx4, hm8⟩, ⟨hx5, hm10⟩, ⟨hx6, hx7⟩, -, -, -, ⟨h13, h0, hat⟩, -⟩ := h
  have hx4 : xF u 4 = 25 := hx4
  have hm8 : mF v 8 = 25 := hm8
  have hR : xR u = mA v 2 := hC.2.1

  have eX : f_XPr_perform u = f_XAr_apply u 25 (nI (i)) (mA v 2 (j)) := by
    simp +decide only [f_XPr_perform, f_XPr_performRegular, f_XAr_withRegister, f_XAr_lacksPair, prI, nmE, jnE, hx4, hx6, hx7, bI0, ↓reduceIte, x_val u rfl hj, hR]
  have eM : f_MMo_acts v = f_MMo_registers v (nI n) := hact
  rw [eX]
  refine Sim.out (n := n) (r := f_MMo_registers v (nI n)) ?_ hl h13 hact hnx hn
  simp +decide only [f_XAr_apply, nmE, prI, ↓reduceIte, hR, x_val u rfl hi, f_MMo_registers, f_MMo_low, f_MMo_high, nmE, jnE, bd1S, hm10, hm8, hlo, hhi, mF_F, mA_F, mF_A, Nat.reduceEqDiff, ↓reduceIte, ckIN (n := 16) (A := j) rfl (by omega) (by decide), ckIN (n := 16) (A := i) rfl (by omega) (by decide), nI_clamp (show j < 2 ^ 31 by omega), nI_clamp (show i < 2 ^ 31 by omega), bd1_id, f_MMo_reckons, msA_at, f_MMo_bare, Int32.reduceAdd]
  exact sim_comp (hC.mn _) h13 (i32_small _) (i32_small _)
theorem op_26 {u : XS} {v : MS} {s i j a1 a2 at0 : Nat} (h : Dd u v 26 s i j a1 a2 at0) : Out (f_XPr_perform u) v := by
  obtain ⟨n, hn, hnx, hbh, hact⟩ := h.act
  have hl := looks_rr h (by decide) (by decide) (by decide)
  have hact := hact.1 (by decide)
  obtain ⟨hC, ⟨-, hs, hi, hj, h1, h2⟩, ⟨hlo, hhi, hsij⟩, ⟨hx4, hm8⟩, ⟨hx5, hm10⟩, ⟨hx6, hx7⟩, -, -, -, ⟨h13, h0, hat⟩, -⟩ := h
  have hx4 : xF u 4 = 26 := hx4
  have hm8 : mF v 8 = 26 := hm8
  have hR : xR u = mA v 2 := hC.2.1

  have eX : f_XPr_perform u = f_XAr_apply u 26 (nI (i)) (mA v 2 (j)) := by
    simp +decide only [f_XPr_perform, f_XPr_performRegular, f_XAr_withRegister, f_XAr_lacksPair, prI, nmE, jnE, hx4, hx6, hx7, bI0, ↓reduceIte, x_val u rfl hj, hR]
  have eM : f_MMo_acts v = f_MMo_registers v (nI n) := hact
  rw [eX]
  refine Sim.out (n := n) (r := f_MMo_registers v (nI n)) ?_ hl h13 hact hnx hn
  simp +decide only [f_XAr_apply, nmE, prI, ↓reduceIte, hR, x_val u rfl hi, f_MMo_registers, f_MMo_low, f_MMo_high, nmE, jnE, bd1S, hm10, hm8, hlo, hhi, mF_F, mA_F, mF_A, Nat.reduceEqDiff, ↓reduceIte, ckIN (n := 16) (A := j) rfl (by omega) (by decide), ckIN (n := 16) (A := i) rfl (by omega) (by decide), nI_clamp (show j < 2 ^ 31 by omega), nI_clamp (show i < 2 ^ 31 by omega), bd1_id, f_MMo_reckons, msA_at, f_MMo_bare, Int32.reduceAdd]
  exact sim_exact (hC.mn _) h13 hi _
theorem op_27 {u : XS} {v : MS} {s i j a1 a2 at0 : Nat} (h : Dd u v 27 s i j a1 a2 at0) : Out (f_XPr_perform u) v := by
  obtain ⟨n, hn, hnx, hbh, hact⟩ := h.act
  have hl := looks_rr h (by decide) (by decide) (by decide)
  have hact := hact.1 (by decide)
  obtain ⟨hC, ⟨-, hs, hi, hj, h1, h2⟩, ⟨hlo, hhi, hsij⟩, ⟨hx4, hm8⟩, ⟨hx5, hm10⟩, ⟨hx6, hx7⟩, -, -, -, ⟨h13, h0, hat⟩, -⟩ := h
  have hx4 : xF u 4 = 27 := hx4
  have hm8 : mF v 8 = 27 := hm8
  have hR : xR u = mA v 2 := hC.2.1

  have eX : f_XPr_perform u = f_XAr_apply u 27 (nI (i)) (mA v 2 (j)) := by
    simp +decide only [f_XPr_perform, f_XPr_performRegular, f_XAr_withRegister, f_XAr_lacksPair, prI, nmE, jnE, hx4, hx6, hx7, bI0, ↓reduceIte, x_val u rfl hj, hR]
  have eM : f_MMo_acts v = f_MMo_registers v (nI n) := hact
  rw [eX]
  refine Sim.out (n := n) (r := f_MMo_registers v (nI n)) ?_ hl h13 hact hnx hn
  simp +decide only [f_XAr_apply, nmE, prI, ↓reduceIte, hR, x_val u rfl hi, f_MMo_registers, f_MMo_low, f_MMo_high, nmE, jnE, bd1S, hm10, hm8, hlo, hhi, mF_F, mA_F, mF_A, Nat.reduceEqDiff, ↓reduceIte, ckIN (n := 16) (A := j) rfl (by omega) (by decide), ckIN (n := 16) (A := i) rfl (by omega) (by decide), nI_clamp (show j < 2 ^ 31 by omega), nI_clamp (show i < 2 ^ 31 by omega), bd1_id, f_MMo_reckons, msA_at, f_MMo_bare, Int32.reduceAdd]
  exact sim_exact (hC.mn _) h13 hi _
theorem op_30 {u : XS} {v : MS} {s i j a1 a2 at0 : Nat} (h : Dd u v 30 s i j a1 a2 at0) : Out (f_XPr_perform u) v := by
  obtain ⟨n, hn, hnx, hbh, hact⟩ := h.act
  have hl := looks_rr h (by decide) (by decide) (by decide)
  have hact := hact.1 (by decide)
  obtain ⟨hC, ⟨-, hs, hi, hj, h1, h2⟩, ⟨hlo, hhi, hsij⟩, ⟨hx4, hm8⟩, ⟨hx5, hm10⟩, ⟨hx6, hx7⟩, -, -, -, ⟨h13, h0, hat⟩, -⟩ := h
  have hx4 : xF u 4 = 30 := hx4
  have hm8 : mF v 8 = 30 := hm8
  have hR : xR u = mA v 2 := hC.2.1

  have eX : f_XPr_perform u = f_XAr_apply u 30 (nI (i)) (mA v 2 (j)) := by
    simp +decide only [f_XPr_perform, f_XPr_performRegular, f_XAr_withRegister, f_XAr_lacksPair, prI, nmE, jnE, hx4, hx6, hx7, bI0, ↓reduceIte, x_val u rfl hj, hR]
  have eM : f_MMo_acts v = f_MMo_registers v (nI n) := hact
  rw [eX]
  refine Sim.out (n := n) (r := f_MMo_registers v (nI n)) ?_ hl h13 hact hnx hn
  simp +decide only [f_XAr_apply, nmE, prI, ↓reduceIte, hR, x_val u rfl hi, f_MMo_registers, f_MMo_low, f_MMo_high, nmE, jnE, bd1S, hm10, hm8, hlo, hhi, mF_F, mA_F, mF_A, Nat.reduceEqDiff, ↓reduceIte, ckIN (n := 16) (A := j) rfl (by omega) (by decide), ckIN (n := 16) (A := i) rfl (by omega) (by decide), nI_clamp (show j < 2 ^ 31 by omega), nI_clamp (show i < 2 ^ 31 by omega), bd1_id, f_MMo_reckons, msA_at, f_MMo_bare, Int32.reduceAdd]
  obtain ⟨m1, hm1, e1⟩ := bare_lt (mA v 2 (i))
  obtain ⟨m2, hm2, e2⟩ := bare_lt (mA v 2 (j))
  rw [e1, e2, lN_add]
  exact sim_plain (hC.mn _) h13 hi (show _ < 8589934593 by omega)
theorem op_31 {u : XS} {v : MS} {s i j a1 a2 at0 : Nat} (h : Dd u v 31 s i j a1 a2 at0) : Out (f_XPr_perform u) v := by
  obtain ⟨n, hn, hnx, hbh, hact⟩ := h.act
  have hl := looks_rr h (by decide) (by decide) (by decide)
  have hact := hact.1 (by decide)
  obtain ⟨hC, ⟨-, hs, hi, hj, h1, h2⟩, ⟨hlo, hhi, hsij⟩, ⟨hx4, hm8⟩, ⟨hx5, hm10⟩, ⟨hx6, hx7⟩, -, -, -, ⟨h13, h0, hat⟩, -⟩ := h
  have hx4 : xF u 4 = 31 := hx4
  have hm8 : mF v 8 = 31 := hm8
  have hR : xR u = mA v 2 := hC.2.1

  have eX : f_XPr_perform u = f_XAr_apply u 31 (nI (i)) (mA v 2 (j)) := by
    simp +decide only [f_XPr_perform, f_XPr_performRegular, f_XAr_withRegister, f_XAr_lacksPair, prI, nmE, jnE, hx4, hx6, hx7, bI0, ↓reduceIte, x_val u rfl hj, hR]
  have eM : f_MMo_acts v = f_MMo_registers v (nI n) := hact
  rw [eX]
  refine Sim.out (n := n) (r := f_MMo_registers v (nI n)) ?_ hl h13 hact hnx hn
  simp +decide only [f_XAr_apply, nmE, prI, ↓reduceIte, hR, x_val u rfl hi, f_MMo_registers, f_MMo_low, f_MMo_high, nmE, jnE, bd1S, hm10, hm8, hlo, hhi, mF_F, mA_F, mF_A, Nat.reduceEqDiff, ↓reduceIte, ckIN (n := 16) (A := j) rfl (by omega) (by decide), ckIN (n := 16) (A := i) rfl (by omega) (by decide), nI_clamp (show j < 2 ^ 31 by omega), nI_clamp (show i < 2 ^ 31 by omega), bd1_id, f_MMo_reckons, msA_at, f_MMo_bare, Int32.reduceAdd]
  obtain ⟨m1, hm1, e1⟩ := bare_lt (mA v 2 (i))
  obtain ⟨m2, hm2, e2⟩ := bare_lt (mA v 2 (j) ^^^ -1)
  rw [e1, e2, lN_add, lN_1]
  exact sim_plain (hC.mn _) h13 hi (show _ < 8589934593 by omega)
