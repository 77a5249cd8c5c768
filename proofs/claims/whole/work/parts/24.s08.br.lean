/-! pairs of registers, branches -/
theorem Done.mk {p : Int32 × XS} {v1 v2 : MS} {t : Nat} (h13 : mF v2 13 = p.1) (hc : Core p.2 v2) (h0 : mF v2 0 = mF v1 0) (hx : xF p.2 0 = nI t) (hm : mF v2 2 = nI t) (ht : t < 16777216) : Done p v1 (some v2) := by
  refine ⟨v2, rfl, h13, hc, h0, by rw [hx, hm], ?_⟩
  rw [hx, nI_toInt (by omega)]
  omega
theorem mk24 (y : Int32) : ∃ t, t < 16777216 ∧ y &&& 16777215 = nI t := pk_andE y 24 rfl
theorem par (i : Nat) : (i % 2 = 0 ∧ nI i &&& 1 = 0) ∨ (i % 2 = 1 ∧ nI i &&& 1 = 1) ∨ 2147483648 ≤ i := by
  by_cases c : i < 2147483648
  · have h : nI i &&& 1 = nI (i % 2) := pk_andN (by omega) 1 rfl
    rcases Nat.mod_two_eq_zero_or_one i with e | e
    · exact Or.inl ⟨e, by rw [h, e]; rfl⟩
    · exact Or.inr (Or.inl ⟨e, by rw [h, e]; rfl⟩)
  · exact Or.inr (Or.inr (by omega))
theorem bc_eq : ∀ i, i < 16 → ∀ k, k < 4 → ((nI i &&& ((8 : Int32) >>> (nI k &&& 31))) = 0 ↔ ¬ ((nI i >>> (((3 : Int32) - nI k) &&& 31)) &&& 1) = 1) := by decide +kernel

theorem op_10 {u : XS} {v : MS} {s i j a1 a2 at0 : Nat} (h : Dd u v 10 s i j a1 a2 at0) : Out (f_XPr_perform u) v := by
  obtain ⟨n, hn, hnx, hbh, hact⟩ := h.act
  have hl := looks_rr h (by decide) (by decide) (by decide)
  have hact := hact.1 (by decide)
  obtain ⟨hC, ⟨-, hs, hi, hj, h1, h2⟩, ⟨hlo, hhi, hsij⟩, ⟨hx4, hm8⟩, ⟨hx5, hm10⟩, ⟨hx6, hx7⟩, hA2, hA1, hA12, ⟨h13, h0, hat⟩, -⟩ := h
  have hx4 : xF u 4 = 10 := hx4
  have hm8 : mF v 8 = 10 := hm8
  have hR : xR u = mA v 2 := hC.2.1
  have eX : f_XPr_perform u = (0, xsF u 3 (nI s)) := by simp +decide only [f_XPr_perform, prI, prE, nmE, jnE, hx4, hx5, hx6, hx7, bI0, ↓reduceIte, x_val _ rfl hi, x_val _ rfl hj, x_putR _ _ rfl hi, hR, xF_R, xF_F, xR_R, xR_F, hnx, hbh]
  have eM : f_MMo_acts v = some (msF (msF v 2 (nI n)) 4 (nI s)) := by rw [hact]; simp +decide only [f_MMo_registers, f_MMo_low, f_MMo_high, nmE, jnE, bd1S, hm10, hm8, hlo, hhi, mF_F, mA_F, mF_A, Nat.reduceEqDiff, ↓reduceIte, bd1_id, ckIN (n := 16) (A := j) rfl hj (by decide), ckIN (n := 16) (A := i) rfl hi (by decide), nI_clamp (show j < 2 ^ 31 by omega), nI_clamp (show i < 2 ^ 31 by omega)]
  rw [eX]
  refine Out.ok hl h13 ok0 ?_
  rw [eM]
  exact Done.mk (t := n) h13 ((hC.mn _).halt _ (by rw [nI_toInt (by omega)]; omega)) rfl hnx rfl (by omega)
theorem op_5 {u : XS} {v : MS} {s i j a1 a2 at0 : Nat} (h : Dd u v 5 s i j a1 a2 at0) : Out (f_XPr_perform u) v := by
  obtain ⟨n, hn, hnx, hbh, hact⟩ := h.act
  have hl := looks_rr h (by decide) (by decide) (by decide)
  have hact := hact.1 (by decide)
  obtain ⟨hC, ⟨-, hs, hi, hj, h1, h2⟩, ⟨hlo, hhi, hsij⟩, ⟨hx4, hm8⟩, ⟨hx5, hm10⟩, ⟨hx6, hx7⟩, hA2, hA1, hA12, ⟨h13, h0, hat⟩, -⟩ := h
  have hx4 : xF u 4 = 5 := hx4
  have hm8 : mF v 8 = 5 := hm8
  have hR : xR u = mA v 2 := hC.2.1
  obtain ⟨t, ht, et⟩ := mk24 (mA v 2 j)
  by_cases c : j = 0
  · have c1 : nI j = 0 := by rw [c]; rfl
    have c2 : nI j ≤ 0 := by rw [c]; decide
    have eX : f_XPr_perform u = (0, xsR u i (nI n)) := by simp +decide only [f_XPr_perform, prI, prE, nmE, jnE, hx4, hx5, hx6, hx7, bI0, ↓reduceIte, x_val _ rfl hi, x_val _ rfl hj, x_putR _ _ rfl hi, hR, xF_R, xF_F, xR_R, xR_F, hnx, hbh, f_XBr_perform, f_XBr_decide, if_pos c1]
    have eM : f_MMo_acts v = some (msA (msF v 2 (nI n)) 2 i (nI n)) := by rw [hact]; simp +decide only [f_MMo_registers, f_MMo_goes, bI0, f_MMo_low, f_MMo_high, nmE, jnE, bd1S, hm10, hm8, hlo, hhi, mF_F, mA_F, mF_A, Nat.reduceEqDiff, ↓reduceIte, bd1_id, ckIN (n := 16) (A := j) rfl hj (by decide), ckIN (n := 16) (A := i) rfl hi (by decide), nI_clamp (show j < 2 ^ 31 by omega), nI_clamp (show i < 2 ^ 31 by omega), if_pos c2]
    rw [eX]
    refine Out.ok hl h13 ok0 ?_
    rw [eM]
    exact Done.mk (t := n) h13 ((hC.mn _).reg _ _) rfl hnx rfl (by omega)
  · have c1 : ¬ nI j = 0 := nI_ne0 (by omega) (by omega)
    have c2 : ¬ nI j ≤ 0 := nI_nle (by omega) (by omega)
    have eX : f_XPr_perform u = (0, xsF (xsR u i (nI n)) 0 (nI t)) := by simp +decide only [f_XPr_perform, prI, prE, nmE, jnE, hx4, hx5, hx6, hx7, bI0, ↓reduceIte, x_val _ rfl hi, x_val _ rfl hj, x_putR _ _ rfl hi, hR, xF_R, xF_F, xR_R, xR_F, hnx, hbh, f_XBr_perform, f_XBr_decide, if_neg c1, et]
    have eM : f_MMo_acts v = some (msF (msA (msF v 2 (nI n)) 2 i (nI n)) 2 (nI t)) := by rw [hact]; simp +decide only [f_MMo_registers, f_MMo_goes, bI0, f_MMo_low, f_MMo_high, nmE, jnE, bd1S, hm10, hm8, hlo, hhi, mF_F, mA_F, mF_A, Nat.reduceEqDiff, ↓reduceIte, bd1_id, ckIN (n := 16) (A := j) rfl hj (by decide), ckIN (n := 16) (A := i) rfl hi (by decide), nI_clamp (show j < 2 ^ 31 by omega), nI_clamp (show i < 2 ^ 31 by omega), if_neg c2, et]
    rw [eX]
    refine Out.ok hl h13 ok0 ?_
    rw [eM]
    exact Done.mk (t := t) h13 ((((hC.mn _).reg _ _).xn _).mn _) rfl rfl rfl (by omega)
theorem op_6 {u : XS} {v : MS} {s i j a1 a2 at0 : Nat} (h : Dd u v 6 s i j a1 a2 at0) : Out (f_XPr_perform u) v := by
  obtain ⟨n, hn, hnx, hbh, hact⟩ := h.act
  have hl := looks_rr h (by decide) (by decide) (by decide)
  have hact := hact.1 (by decide)
  obtain ⟨hC, ⟨-, hs, hi, hj, h1, h2⟩, ⟨hlo, hhi, hsij⟩, ⟨hx4, hm8⟩, ⟨hx5, hm10⟩, ⟨hx6, hx7⟩, hA2, hA1, hA12, ⟨h13, h0, hat⟩, -⟩ := h
  have hx4 : xF u 4 = 6 := hx4
  have hm8 : mF v 8 = 6 := hm8
  have hR : xR u = mA v 2 := hC.2.1
  obtain ⟨t, ht, et⟩ := mk24 (mA v 2 j)
  by_cases d : mA v 2 i - 1 = 0
  · have eX : f_XPr_perform u = (0, xsR u i (mA v 2 i - 1)) := by simp +decide only [f_XPr_perform, prI, prE, nmE, jnE, hx4, hx5, hx6, hx7, bI0, ↓reduceIte, x_val _ rfl hi, x_val _ rfl hj, x_putR _ _ rfl hi, hR, xF_R, xF_F, xR_R, xR_F, hnx, hbh, f_XBr_perform, f_XBr_decide, updE, if_pos d]
    have eM : f_MMo_acts v = some (msA (msF v 2 (nI n)) 2 i (mA v 2 i - 1)) := by
      rw [hact]
      by_cases c : nI j ≤ 0
      · simp +decide only [f_MMo_registers, f_MMo_goes, bI0, f_MMo_low, f_MMo_high, nmE, jnE, bd1S, hm10, hm8, hlo, hhi, mF_F, mA_F, mF_A, Nat.reduceEqDiff, ↓reduceIte, bd1_id, ckIN (n := 16) (A := j) rfl hj (by decide), ckIN (n := 16) (A := i) rfl hi (by decide), nI_clamp (show j < 2 ^ 31 by omega), nI_clamp (show i < 2 ^ 31 by omega), if_pos c]
      · simp +decide only [f_MMo_registers, f_MMo_goes, bI0, f_MMo_low, f_MMo_high, nmE, jnE, bd1S, hm10, hm8, hlo, hhi, mF_F, mA_F, mF_A, Nat.reduceEqDiff, ↓reduceIte, bd1_id, ckIN (n := 16) (A := j) rfl hj (by decide), ckIN (n := 16) (A := i) rfl hi (by decide), nI_clamp (show j < 2 ^ 31 by omega), nI_clamp (show i < 2 ^ 31 by omega), if_neg c, msA_at, if_pos d]
    rw [eX]
    refine Out.ok hl h13 ok0 ?_
    rw [eM]
    exact Done.mk (t := n) h13 ((hC.mn _).reg _ _) rfl hnx rfl (by omega)
  by_cases c : j = 0
  · have c1 : nI j = 0 := by rw [c]; rfl
    have c2 : nI j ≤ 0 := by rw [c]; decide
    have eX : f_XPr_perform u = (0, xsR u i (mA v 2 i - 1)) := by simp +decide only [f_XPr_perform, prI, prE, nmE, jnE, hx4, hx5, hx6, hx7, bI0, ↓reduceIte, x_val _ rfl hi, x_val _ rfl hj, x_putR _ _ rfl hi, hR, xF_R, xF_F, xR_R, xR_F, hnx, hbh, f_XBr_perform, f_XBr_decide, updE, if_neg d, if_pos c1]
    have eM : f_MMo_acts v = some (msA (msF v 2 (nI n)) 2 i (mA v 2 i - 1)) := by rw [hact]; simp +decide only [f_MMo_registers, f_MMo_goes, bI0, f_MMo_low, f_MMo_high, nmE, jnE, bd1S, hm10, hm8, hlo, hhi, mF_F, mA_F, mF_A, Nat.reduceEqDiff, ↓reduceIte, bd1_id, ckIN (n := 16) (A := j) rfl hj (by decide), ckIN (n := 16) (A := i) rfl hi (by decide), nI_clamp (show j < 2 ^ 31 by omega), nI_clamp (show i < 2 ^ 31 by omega), if_pos c2]
    rw [eX]
    refine Out.ok hl h13 ok0 ?_
    rw [eM]
    exact Done.mk (t := n) h13 ((hC.mn _).reg _ _) rfl hnx rfl (by omega)
  · have c1 : ¬ nI j = 0 := nI_ne0 (by omega) (by omega)
    have c2 : ¬ nI j ≤ 0 := nI_nle (by omega) (by omega)
    have eX : f_XPr_perform u = (0, xsF (xsR u i (mA v 2 i - 1)) 0 (nI t)) := by simp +decide only [f_XPr_perform, prI, prE, nmE, jnE, hx4, hx5, hx6, hx7, bI0, ↓reduceIte, x_val _ rfl hi, x_val _ rfl hj, x_putR _ _ rfl hi, hR, xF_R, xF_F, xR_R, xR_F, hnx, hbh, f_XBr_perform, f_XBr_decide, updE, if_neg d, if_neg c1, et]
    have eM : f_MMo_acts v = some (msF (msA (msF v 2 (nI n)) 2 i (mA v 2 i - 1)) 2 (nI t)) := by rw [hact]; simp +decide only [f_MMo_registers, f_MMo_goes, bI0, f_MMo_low, f_MMo_high, nmE, jnE, bd1S, hm10, hm8, hlo, hhi, mF_F, mA_F, mF_A, Nat.reduceEqDiff, ↓reduceIte, bd1_id, ckIN (n := 16) (A := j) rfl hj (by decide), ckIN (n := 16) (A := i) rfl hi (by decide), nI_clamp (show j < 2 ^ 31 by omega), nI_clamp (show i < 2 ^ 31 by omega), if_neg c2, msA_at, if_neg d, et]
    rw [eX]
    refine Out.ok hl h13 ok0 ?_
    rw [eM]
    exact Done.mk (t := t) h13 ((((hC.mn _).reg _ _).xn _).mn _) rfl rfl rfl (by omega)
theorem op_7 {u : XS} {v : MS} {s i j a1 a2 at0 : Nat} (h : Dd u v 7 s i j a1 a2 at0) : Out (f_XPr_perform u) v := by
  obtain ⟨n, hn, hnx, hbh, hact⟩ := h.act
  have hl := looks_rr h (by decide) (by decide) (by decide)
  have hact := hact.1 (by decide)
  obtain ⟨hC, ⟨-, hs, hi, hj, h1, h2⟩, ⟨hlo, hhi, hsij⟩, ⟨hx4, hm8⟩, ⟨hx5, hm10⟩, ⟨hx6, hx7⟩, hA2, hA1, hA12, ⟨h13, h0, hat⟩, -⟩ := h
  have hx4 : xF u 4 = 7 := hx4
  have hm8 : mF v 8 = 7 := hm8
  have hR : xR u = mA v 2 := hC.2.1
  obtain ⟨t, ht, et⟩ := mk24 (mA v 2 j)
  obtain ⟨k, hk, ek⟩ := ex_nI (x := xF u 1) (N := 4) hC.2.2.2.2.1.1 (by have := hC.2.2.2.2.1.2; omega)
  have em : mF v 1 = nI k := by rw [← ek]; exact hC.2.2.1.1.symm
  have hq := bc_eq i hi k hk
  by_cases d : nI i &&& ((8 : Int32) >>> (nI k &&& 31)) = 0
  · have d2 := hq.mp d
    have eX : f_XPr_perform u = (0, u) := by simp +decide only [f_XPr_perform, prI, prE, nmE, jnE, hx4, hx5, hx6, hx7, bI0, ↓reduceIte, x_val _ rfl hi, x_val _ rfl hj, x_putR _ _ rfl hi, hR, xF_R, xF_F, xR_R, xR_F, hnx, hbh, f_XBr_perform, f_XBr_decide, ek, if_pos d]
    have eM : f_MMo_acts v = some (msF v 2 (nI n)) := by
      rw [hact]
      by_cases c : nI j ≤ 0
      · simp +decide only [f_MMo_registers, f_MMo_goes, bI0, f_MMo_low, f_MMo_high, nmE, jnE, bd1S, hm10, hm8, hlo, hhi, mF_F, mA_F, mF_A, Nat.reduceEqDiff, ↓reduceIte, bd1_id, ckIN (n := 16) (A := j) rfl hj (by decide), ckIN (n := 16) (A := i) rfl hi (by decide), nI_clamp (show j < 2 ^ 31 by omega), nI_clamp (show i < 2 ^ 31 by omega), if_pos c]
      · simp +decide only [f_MMo_registers, f_MMo_goes, f_MMo_holds, bI0, f_MMo_low, f_MMo_high, nmE, jnE, bd1S, hm10, hm8, hlo, hhi, mF_F, mA_F, mF_A, Nat.reduceEqDiff, ↓reduceIte, bd1_id, ckIN (n := 16) (A := j) rfl hj (by decide), ckIN (n := 16) (A := i) rfl hi (by decide), nI_clamp (show j < 2 ^ 31 by omega), nI_clamp (show i < 2 ^ 31 by omega), em, if_neg c, if_neg d2]
    rw [eX]
    refine Out.ok hl h13 ok0 ?_
    rw [eM]
    exact Done.mk (t := n) h13 (hC.mn _) rfl hnx rfl (by omega)
  have d2 := Classical.not_not.mp (fun e => d (hq.mpr e))
  by_cases c : j = 0
  · have c1 : nI j = 0 := by rw [c]; rfl
    have c2 : nI j ≤ 0 := by rw [c]; decide
    have eX : f_XPr_perform u = (0, u) := by simp +decide only [f_XPr_perform, prI, prE, nmE, jnE, hx4, hx5, hx6, hx7, bI0, ↓reduceIte, x_val _ rfl hi, x_val _ rfl hj, x_putR _ _ rfl hi, hR, xF_R, xF_F, xR_R, xR_F, hnx, hbh, f_XBr_perform, f_XBr_decide, ek, if_neg d, if_pos c1]
    have eM : f_MMo_acts v = some (msF v 2 (nI n)) := by rw [hact]; simp +decide only [f_MMo_registers, f_MMo_goes, bI0, f_MMo_low, f_MMo_high, nmE, jnE, bd1S, hm10, hm8, hlo, hhi, mF_F, mA_F, mF_A, Nat.reduceEqDiff, ↓reduceIte, bd1_id, ckIN (n := 16) (A := j) rfl hj (by decide), ckIN (n := 16) (A := i) rfl hi (by decide), nI_clamp (show j < 2 ^ 31 by omega), nI_clamp (show i < 2 ^ 31 by omega), if_pos c2]
    rw [eX]
    refine Out.ok hl h13 ok0 ?_
    rw [eM]
    exact Done.mk (t := n) h13 (hC.mn _) rfl hnx rfl (by omega)
  · have c1 : ¬ nI j = 0 := nI_ne0 (by omega) (by omega)
    have c2 : ¬ nI j ≤ 0 := nI_nle (by omega) (by omega)
    have eX : f_XPr_perform u = (0, xsF u 0 (nI t)) := by simp +decide only [f_XPr_perform, prI, prE, nmE, jnE, hx4, hx5, hx6, hx7, bI0, ↓reduceIte, x_val _ rfl hi, x_val _ rfl hj, x_putR _ _ rfl hi, hR, xF_R, xF_F, xR_R, xR_F, hnx, hbh, f_XBr_perform, f_XBr_decide, ek, if_neg d, if_neg c1, et]
    have eM : f_MMo_acts v = some (msF (msF v 2 (nI n)) 2 (nI t)) := by rw [hact]; simp +decide only [f_MMo_registers, f_MMo_goes, f_MMo_holds, bI0, f_MMo_low, f_MMo_high, nmE, jnE, bd1S, hm10, hm8, hlo, hhi, mF_F, mA_F, mF_A, Nat.reduceEqDiff, ↓reduceIte, bd1_id, ckIN (n := 16) (A := j) rfl hj (by decide), ckIN (n := 16) (A := i) rfl hi (by decide), nI_clamp (show j < 2 ^ 31 by omega), nI_clamp (show i < 2 ^ 31 by omega), em, if_neg c2, if_pos d2, et]
    rw [eX]
    refine Out.ok hl h13 ok0 ?_
    rw [eM]
    exact Done.mk (t := t) h13 (((hC.xn _).mn _).mn _) rfl rfl rfl (by omega)
theorem op_28 {u : XS} {v : MS} {s i j a1 a2 at0 : Nat} (h : Dd u v 28 s i j a1 a2 at0) : Out (f_XPr_perform u) v := by
  obtain ⟨n, hn, hnx, hbh, hact⟩ := h.act
  have hact := hact.1 (by decide)
  obtain ⟨hC, ⟨-, hs, hi, hj, h1, h2⟩, ⟨hlo, hhi, hsij⟩, ⟨hx4, hm8⟩, ⟨hx5, hm10⟩, ⟨hx6, hx7⟩, hA2, hA1, hA12, ⟨h13, h0, hat⟩, -⟩ := h
  have hx4 : xF u 4 = 28 := hx4
  have hm8 : mF v 8 = 28 := hm8
  have hR : xR u = mA v 2 := hC.2.1
  rcases par i with ⟨hp, ep⟩ | ⟨hp, ep⟩ | hp
  · have hl : f_MMo_looks v = some v := by simp +decide only [f_MMo_looks, wrong_f, f_MMo_low, f_MMo_high, nmE, jnE, bd1S, hm10, hm8, hlo, hhi, mF_F, mA_F, mF_A, Nat.reduceEqDiff, ↓reduceIte, bd1_id, ckIN (n := 16) (A := j) rfl hj (by decide), ckIN (n := 16) (A := i) rfl hi (by decide), nI_clamp (show j < 2 ^ 31 by omega), nI_clamp (show i < 2 ^ 31 by omega), ep]
    have eX : f_XPr_perform u = f_XAr_multiply u (nI i) (mA v 2 j) := by simp +decide only [f_XPr_perform, prI, prE, nmE, jnE, hx4, hx5, hx6, hx7, bI0, ↓reduceIte, x_val _ rfl hi, x_val _ rfl hj, x_putR _ _ rfl hi, hR, xF_R, xF_F, xR_R, xR_F, hnx, hbh, f_XPr_performRegular, f_XAr_withRegister, f_XAr_lacksPair, f_XAr_apply, ep]
    have eM : f_MMo_registers v (nI n) = f_MMo_reckons (msF v 2 (nI n)) 92 (nI i) (mA v 2 j) := by simp +decide only [f_MMo_registers, f_MMo_low, f_MMo_high, nmE, jnE, bd1S, hm10, hm8, hlo, hhi, mF_F, mA_F, mF_A, Nat.reduceEqDiff, ↓reduceIte, bd1_id, ckIN (n := 16) (A := j) rfl hj (by decide), ckIN (n := 16) (A := i) rfl hi (by decide), nI_clamp (show j < 2 ^ 31 by omega), nI_clamp (show i < 2 ^ 31 by omega), Int32.reduceAdd]
    rw [eX]
    exact Sim.out (sim_mult (hC.mn _) h13 (by omega) _) hl h13 (hact.trans eM) hnx hn
  · have hl : f_MMo_looks v = some (msF v 13 6) := by simp +decide only [f_MMo_looks, wrong_f, wrong_t v 6 h13, f_MMo_low, f_MMo_high, nmE, jnE, bd1S, hm10, hm8, hlo, hhi, mF_F, mA_F, mF_A, Nat.reduceEqDiff, ↓reduceIte, bd1_id, ckIN (n := 16) (A := j) rfl hj (by decide), ckIN (n := 16) (A := i) rfl hi (by decide), nI_clamp (show j < 2 ^ 31 by omega), nI_clamp (show i < 2 ^ 31 by omega), ep]
    have eX : f_XPr_perform u = (6, u) := by simp +decide only [f_XPr_perform, prI, prE, nmE, jnE, hx4, hx5, hx6, hx7, bI0, ↓reduceIte, x_val _ rfl hi, x_val _ rfl hj, x_putR _ _ rfl hi, hR, xF_R, xF_F, xR_R, xR_F, hnx, hbh, f_XPr_performRegular, f_XAr_withRegister, f_XAr_lacksPair, ep]
    rw [eX]
    exact Out.no hl rfl (by unfold nok; decide) hC
  · omega
theorem op_29 {u : XS} {v : MS} {s i j a1 a2 at0 : Nat} (h : Dd u v 29 s i j a1 a2 at0) : Out (f_XPr_perform u) v := by
  obtain ⟨n, hn, hnx, hbh, hact⟩ := h.act
  have hact := hact.1 (by decide)
  obtain ⟨hC, ⟨-, hs, hi, hj, h1, h2⟩, ⟨hlo, hhi, hsij⟩, ⟨hx4, hm8⟩, ⟨hx5, hm10⟩, ⟨hx6, hx7⟩, hA2, hA1, hA12, ⟨h13, h0, hat⟩, -⟩ := h
  have hx4 : xF u 4 = 29 := hx4
  have hm8 : mF v 8 = 29 := hm8
  have hR : xR u = mA v 2 := hC.2.1
  rcases par i with ⟨hp, ep⟩ | ⟨hp, ep⟩ | hp
  · have hd := m_div hm10 hhi hi hp (mA v 2 j)
    by_cases c : mA v 2 j = 0
    · have eX : f_XPr_perform u = (9, u) := by simp +decide only [f_XPr_perform, prI, prE, nmE, jnE, hx4, hx5, hx6, hx7, bI0, ↓reduceIte, x_val _ rfl hi, x_val _ rfl hj, x_putR _ _ rfl hi, hR, xF_R, xF_F, xR_R, xR_F, hnx, hbh, f_XPr_performRegular, f_XAr_withRegister, f_XAr_lacksPair, f_XAr_apply, f_XAr_divide, ep, if_pos c]
      have hl : f_MMo_looks v = some (msF v 13 9) := by simp +decide only [f_MMo_looks, wrong_f, wrong_t v 9 h13, f_MMo_low, f_MMo_high, nmE, jnE, bd1S, hm10, hm8, hlo, hhi, mF_F, mA_F, mF_A, Nat.reduceEqDiff, ↓reduceIte, bd1_id, ckIN (n := 16) (A := j) rfl hj (by decide), ckIN (n := 16) (A := i) rfl hi (by decide), nI_clamp (show j < 2 ^ 31 by omega), nI_clamp (show i < 2 ^ 31 by omega), ep, hd, if_pos c, bI0]
      rw [eX]
      exact Out.no hl rfl (by unfold nok; decide) hC
    · rw [if_neg c] at hd
      by_cases d : ((mA v 2 i).toInt64 <<< (Int32.toInt64 32 &&& 63) ||| (mA v 2 (i + 1)).toInt64 &&& 4294967295) / (mA v 2 j).toInt64 = (((mA v 2 i).toInt64 <<< (Int32.toInt64 32 &&& 63) ||| (mA v 2 (i + 1)).toInt64 &&& 4294967295) / (mA v 2 j).toInt64).toInt32.toInt64
      · rw [decide_eq_true d] at hd
        have hl : f_MMo_looks v = some v := by simp +decide only [f_MMo_looks, wrong_f, f_MMo_low, f_MMo_high, nmE, jnE, bd1S, hm10, hm8, hlo, hhi, mF_F, mA_F, mF_A, Nat.reduceEqDiff, ↓reduceIte, bd1_id, ckIN (n := 16) (A := j) rfl hj (by decide), ckIN (n := 16) (A := i) rfl hi (by decide), nI_clamp (show j < 2 ^ 31 by omega), nI_clamp (show i < 2 ^ 31 by omega), ep, hd, bI0]
        have eX : f_XPr_perform u = f_XAr_divide u (nI i) (mA v 2 j) := by simp +decide only [f_XPr_perform, prI, prE, nmE, jnE, hx4, hx5, hx6, hx7, bI0, ↓reduceIte, x_val _ rfl hi, x_val _ rfl hj, x_putR _ _ rfl hi, hR, xF_R, xF_F, xR_R, xR_F, hnx, hbh, f_XPr_performRegular, f_XAr_withRegister, f_XAr_lacksPair, f_XAr_apply, ep]
        have eM : f_MMo_registers v (nI n) = f_MMo_reckons (msF v 2 (nI n)) 93 (nI i) (mA v 2 j) := by simp +decide only [f_MMo_registers, f_MMo_low, f_MMo_high, nmE, jnE, bd1S, hm10, hm8, hlo, hhi, mF_F, mA_F, mF_A, Nat.reduceEqDiff, ↓reduceIte, bd1_id, ckIN (n := 16) (A := j) rfl hj (by decide), ckIN (n := 16) (A := i) rfl hi (by decide), nI_clamp (show j < 2 ^ 31 by omega), nI_clamp (show i < 2 ^ 31 by omega), Int32.reduceAdd]
        rw [eX]
        exact Sim.out (sim_divide (hC.mn _) h13 (by omega) c d) hl h13 (hact.trans eM) hnx hn
      · rw [decide_eq_false d] at hd
        have hi2 : i + 1 < 16 := by omega
        have eX : f_XPr_perform u = (9, u) := by simp +decide only [f_XPr_perform, prI, prE, nmE, jnE, hx4, hx5, hx6, hx7, bI0, ↓reduceIte, x_val _ rfl hi, x_val _ rfl hj, x_putR _ _ rfl hi, hR, xF_R, xF_F, xR_R, xR_F, hnx, hbh, f_XPr_performRegular, f_XAr_withRegister, f_XAr_lacksPair, f_XAr_apply, f_XAr_divide, ep, if_neg c, nI_1, x_val _ rfl hi2, if_neg d]
        have hl : f_MMo_looks v = some (msF v 13 9) := by simp +decide only [f_MMo_looks, wrong_f, wrong_t v 9 h13, f_MMo_low, f_MMo_high, nmE, jnE, bd1S, hm10, hm8, hlo, hhi, mF_F, mA_F, mF_A, Nat.reduceEqDiff, ↓reduceIte, bd1_id, ckIN (n := 16) (A := j) rfl hj (by decide), ckIN (n := 16) (A := i) rfl hi (by decide), nI_clamp (show j < 2 ^ 31 by omega), nI_clamp (show i < 2 ^ 31 by omega), ep, hd, bI0]
        rw [eX]
        exact Out.no hl rfl (by unfold nok; decide) hC
  · have hl : f_MMo_looks v = some (msF v 13 6) := by simp +decide only [f_MMo_looks, f_MMo_divides, wrong_f, wrong_t v 6 h13, f_MMo_low, f_MMo_high, nmE, jnE, bd1S, hm10, hm8, hlo, hhi, mF_F, mA_F, mF_A, Nat.reduceEqDiff, ↓reduceIte, bd1_id, ckIN (n := 16) (A := j) rfl hj (by decide), ckIN (n := 16) (A := i) rfl hi (by decide), nI_clamp (show j < 2 ^ 31 by omega), nI_clamp (show i < 2 ^ 31 by omega), ep, bI0]
    have eX : f_XPr_perform u = (6, u) := by simp +decide only [f_XPr_perform, prI, prE, nmE, jnE, hx4, hx5, hx6, hx7, bI0, ↓reduceIte, x_val _ rfl hi, x_val _ rfl hj, x_putR _ _ rfl hi, hR, xF_R, xF_F, xR_R, xR_F, hnx, hbh, f_XPr_performRegular, f_XAr_withRegister, f_XAr_lacksPair, ep]
    rw [eX]
    exact Out.no hl rfl (by unfold nok; decide) hC
  · omega
