/-! instructions of four octets with an index -/
theorem in_lit (v : MS) (x : Int32) (lo hi : Int64) : f_MMo_in v x.toInt64 lo hi = if x.toInt64 < lo then some false else if hi < x.toInt64 then some false else some true := rfl
theorem msA_MM (v : MS) (g : Nat → Int32) : mA (msMM v g) 1 = g := rfl
theorem mF_MM (v : MS) (g : Nat → Int32) : mF (msMM v g) = mF v := rfl
theorem xF_MM (u : XS) (g : Nat → Int32) : xF (xsMM u g) = xF u := rfl
theorem op_65 {u : XS} {v : MS} {s i j a1 a2 at0 : Nat} (h : Dd u v 65 s i j a1 a2 at0) : Out (f_XPr_perform u) v := by
  obtain ⟨n, hn, hnx, hbh, hact⟩ := h.act
  have hact := hact.2.1 (by decide) (by decide)
  obtain ⟨hC, ⟨-, hs, hi, hj, h1, h2⟩, ⟨hlo, hhi, hsij⟩, ⟨hx4, hm8⟩, ⟨hx5, hm10⟩, ⟨hx6, hx7⟩, hA2, hA1, hA12, ⟨h13, h0, hat⟩, -⟩ := h
  have hx4 : xF u 4 = 65 := hx4
  have hm8 : mF v 8 = 65 := hm8
  have hR : xR u = mA v 2 := hC.2.1
  obtain ⟨hx9, hm12⟩ := hA2 (by decide)
  have hl : f_MMo_looks v = some v := by simp +decide only [f_MMo_looks, f_MMo_looksAtWord, f_MMo_width, in_lit, bI0, wrong_f, f_MMo_low, f_MMo_high, nmE, jnE, bd1S, hm10, hm8, hlo, hhi, mF_F, mA_F, mF_A, Nat.reduceEqDiff, ↓reduceIte, bd1_id, ckIN (n := 16) (A := j) rfl hj (by decide), ckIN (n := 16) (A := i) rfl hi (by decide), nI_clamp (show j < 2 ^ 31 by omega), nI_clamp (show i < 2 ^ 31 by omega), hm12, ite_self]
  have eX : f_XPr_perform u = (0, xsR u i (nI a2)) := by simp +decide only [f_XPr_perform, prI, prE, nmE, jnE, hx4, hx5, hx6, hx7, bI0, ↓reduceIte, x_val _ rfl hi, x_val _ rfl hj, x_putR _ _ rfl hi, hR, xF_R, xF_F, xR_R, xR_F, hnx, hbh, hx9, f_XTr_perform]
  have eM : f_MMo_acts v = some (msA (msF v 2 (nI n)) 2 i (nI a2)) := by rw [hact]; simp +decide only [f_MMo_indexed, f_MMo_width, in_lit, f_MMo_goes, bI0, f_MMo_low, f_MMo_high, nmE, jnE, bd1S, hm10, hm8, hlo, hhi, mF_F, mA_F, mF_A, Nat.reduceEqDiff, ↓reduceIte, bd1_id, ckIN (n := 16) (A := j) rfl hj (by decide), ckIN (n := 16) (A := i) rfl hi (by decide), nI_clamp (show j < 2 ^ 31 by omega), nI_clamp (show i < 2 ^ 31 by omega), hm12]
  rw [eX]
  refine Out.ok hl h13 ok0 ?_
  rw [eM]
  exact Done.mk (t := n) h13 ((hC.mn _).reg _ _) rfl hnx rfl (by omega)
theorem op_69 {u : XS} {v : MS} {s i j a1 a2 at0 : Nat} (h : Dd u v 69 s i j a1 a2 at0) : Out (f_XPr_perform u) v := by
  obtain ⟨n, hn, hnx, hbh, hact⟩ := h.act
  have hact := hact.2.1 (by decide) (by decide)
  obtain ⟨hC, ⟨-, hs, hi, hj, h1, h2⟩, ⟨hlo, hhi, hsij⟩, ⟨hx4, hm8⟩, ⟨hx5, hm10⟩, ⟨hx6, hx7⟩, hA2, hA1, hA12, ⟨h13, h0, hat⟩, -⟩ := h
  have hx4 : xF u 4 = 69 := hx4
  have hm8 : mF v 8 = 69 := hm8
  have hR : xR u = mA v 2 := hC.2.1
  obtain ⟨hx9, hm12⟩ := hA2 (by decide)
  have hl : f_MMo_looks v = some v := by simp +decide only [f_MMo_looks, f_MMo_looksAtWord, f_MMo_width, in_lit, bI0, wrong_f, f_MMo_low, f_MMo_high, nmE, jnE, bd1S, hm10, hm8, hlo, hhi, mF_F, mA_F, mF_A, Nat.reduceEqDiff, ↓reduceIte, bd1_id, ckIN (n := 16) (A := j) rfl hj (by decide), ckIN (n := 16) (A := i) rfl hi (by decide), nI_clamp (show j < 2 ^ 31 by omega), nI_clamp (show i < 2 ^ 31 by omega), hm12, ite_self]
  have ea : nI a2 &&& 16777215 = nI a2 := by rw [pk_andN (by omega) 24 rfl, Nat.mod_eq_of_lt (by omega)]
  have eX : f_XPr_perform u = (0, xsF (xsR u i (nI n)) 0 (nI a2)) := by simp +decide only [f_XPr_perform, prI, prE, nmE, jnE, hx4, hx5, hx6, hx7, bI0, ↓reduceIte, x_val _ rfl hi, x_val _ rfl hj, x_putR _ _ rfl hi, hR, xF_R, xF_F, xR_R, xR_F, hnx, hbh, hx9, f_XBr_perform, f_XBr_decide]
  have eM : f_MMo_acts v = some (msF (msA (msF v 2 (nI n)) 2 i (nI n)) 2 (nI a2)) := by rw [hact]; simp +decide only [f_MMo_indexed, f_MMo_width, in_lit, f_MMo_goes, bI0, f_MMo_low, f_MMo_high, nmE, jnE, bd1S, hm10, hm8, hlo, hhi, mF_F, mA_F, mF_A, Nat.reduceEqDiff, ↓reduceIte, bd1_id, ckIN (n := 16) (A := j) rfl hj (by decide), ckIN (n := 16) (A := i) rfl hi (by decide), nI_clamp (show j < 2 ^ 31 by omega), nI_clamp (show i < 2 ^ 31 by omega), hm12, ea]
  rw [eX]
  refine Out.ok hl h13 ok0 ?_
  rw [eM]
  exact Done.mk (t := a2) h13 ((((hC.mn _).reg _ _).xn _).mn _) rfl rfl rfl (by omega)
theorem op_70 {u : XS} {v : MS} {s i j a1 a2 at0 : Nat} (h : Dd u v 70 s i j a1 a2 at0) : Out (f_XPr_perform u) v := by
  obtain ⟨n, hn, hnx, hbh, hact⟩ := h.act
  have hact := hact.2.1 (by decide) (by decide)
  obtain ⟨hC, ⟨-, hs, hi, hj, h1, h2⟩, ⟨hlo, hhi, hsij⟩, ⟨hx4, hm8⟩, ⟨hx5, hm10⟩, ⟨hx6, hx7⟩, hA2, hA1, hA12, ⟨h13, h0, hat⟩, -⟩ := h
  have hx4 : xF u 4 = 70 := hx4
  have hm8 : mF v 8 = 70 := hm8
  have hR : xR u = mA v 2 := hC.2.1
  obtain ⟨hx9, hm12⟩ := hA2 (by decide)
  have hl : f_MMo_looks v = some v := by simp +decide only [f_MMo_looks, f_MMo_looksAtWord, f_MMo_width, in_lit, bI0, wrong_f, f_MMo_low, f_MMo_high, nmE, jnE, bd1S, hm10, hm8, hlo, hhi, mF_F, mA_F, mF_A, Nat.reduceEqDiff, ↓reduceIte, bd1_id, ckIN (n := 16) (A := j) rfl hj (by decide), ckIN (n := 16) (A := i) rfl hi (by decide), nI_clamp (show j < 2 ^ 31 by omega), nI_clamp (show i < 2 ^ 31 by omega), hm12, ite_self]
  have ea : nI a2 &&& 16777215 = nI a2 := by rw [pk_andN (by omega) 24 rfl, Nat.mod_eq_of_lt (by omega)]
  by_cases d : mA v 2 i - 1 = 0
  · have eX : f_XPr_perform u = (0, xsR u i (mA v 2 i - 1)) := by simp +decide only [f_XPr_perform, prI, prE, nmE, jnE, hx4, hx5, hx6, hx7, bI0, ↓reduceIte, x_val _ rfl hi, x_val _ rfl hj, x_putR _ _ rfl hi, hR, xF_R, xF_F, xR_R, xR_F, hnx, hbh, hx9, f_XBr_perform, f_XBr_decide, updE, if_pos d]
    have eM : f_MMo_acts v = some (msA (msF v 2 (nI n)) 2 i (mA v 2 i - 1)) := by rw [hact]; simp +decide only [f_MMo_indexed, f_MMo_width, in_lit, f_MMo_goes, bI0, f_MMo_low, f_MMo_high, nmE, jnE, bd1S, hm10, hm8, hlo, hhi, mF_F, mA_F, mF_A, Nat.reduceEqDiff, ↓reduceIte, bd1_id, ckIN (n := 16) (A := j) rfl hj (by decide), ckIN (n := 16) (A := i) rfl hi (by decide), nI_clamp (show j < 2 ^ 31 by omega), nI_clamp (show i < 2 ^ 31 by omega), hm12, msA_at, if_pos d]
    rw [eX]
    refine Out.ok hl h13 ok0 ?_
    rw [eM]
    exact Done.mk (t := n) h13 ((hC.mn _).reg _ _) rfl hnx rfl (by omega)
  · have eX : f_XPr_perform u = (0, xsF (xsR u i (mA v 2 i - 1)) 0 (nI a2)) := by simp +decide only [f_XPr_perform, prI, prE, nmE, jnE, hx4, hx5, hx6, hx7, bI0, ↓reduceIte, x_val _ rfl hi, x_val _ rfl hj, x_putR _ _ rfl hi, hR, xF_R, xF_F, xR_R, xR_F, hnx, hbh, hx9, f_XBr_perform, f_XBr_decide, updE, if_neg d]
    have eM : f_MMo_acts v = some (msF (msA (msF v 2 (nI n)) 2 i (mA v 2 i - 1)) 2 (nI a2)) := by rw [hact]; simp +decide only [f_MMo_indexed, f_MMo_width, in_lit, f_MMo_goes, bI0, f_MMo_low, f_MMo_high, nmE, jnE, bd1S, hm10, hm8, hlo, hhi, mF_F, mA_F, mF_A, Nat.reduceEqDiff, ↓reduceIte, bd1_id, ckIN (n := 16) (A := j) rfl hj (by decide), ckIN (n := 16) (A := i) rfl hi (by decide), nI_clamp (show j < 2 ^ 31 by omega), nI_clamp (show i < 2 ^ 31 by omega), hm12, msA_at, if_neg d, ea]
    rw [eX]
    refine Out.ok hl h13 ok0 ?_
    rw [eM]
    exact Done.mk (t := a2) h13 ((((hC.mn _).reg _ _).xn _).mn _) rfl rfl rfl (by omega)
theorem op_71 {u : XS} {v : MS} {s i j a1 a2 at0 : Nat} (h : Dd u v 71 s i j a1 a2 at0) : Out (f_XPr_perform u) v := by
  obtain ⟨n, hn, hnx, hbh, hact⟩ := h.act
  have hact := hact.2.1 (by decide) (by decide)
  obtain ⟨hC, ⟨-, hs, hi, hj, h1, h2⟩, ⟨hlo, hhi, hsij⟩, ⟨hx4, hm8⟩, ⟨hx5, hm10⟩, ⟨hx6, hx7⟩, hA2, hA1, hA12, ⟨h13, h0, hat⟩, -⟩ := h
  have hx4 : xF u 4 = 71 := hx4
  have hm8 : mF v 8 = 71 := hm8
  have hR : xR u = mA v 2 := hC.2.1
  obtain ⟨hx9, hm12⟩ := hA2 (by decide)
  have hl : f_MMo_looks v = some v := by simp +decide only [f_MMo_looks, f_MMo_looksAtWord, f_MMo_width, in_lit, bI0, wrong_f, f_MMo_low, f_MMo_high, nmE, jnE, bd1S, hm10, hm8, hlo, hhi, mF_F, mA_F, mF_A, Nat.reduceEqDiff, ↓reduceIte, bd1_id, ckIN (n := 16) (A := j) rfl hj (by decide), ckIN (n := 16) (A := i) rfl hi (by decide), nI_clamp (show j < 2 ^ 31 by omega), nI_clamp (show i < 2 ^ 31 by omega), hm12, ite_self]
  have ea : nI a2 &&& 16777215 = nI a2 := by rw [pk_andN (by omega) 24 rfl, Nat.mod_eq_of_lt (by omega)]
  obtain ⟨k, hk, ek⟩ := ex_nI (x := xF u 1) (N := 4) hC.2.2.2.2.1.1 (by have := hC.2.2.2.2.1.2; omega)
  have em : mF v 1 = nI k := by rw [← ek]; exact hC.2.2.1.1.symm
  have hq := bc_eq i hi k hk
  by_cases d : nI i &&& ((8 : Int32) >>> (nI k &&& 31)) = 0
  · have d2 := hq.mp d
    have eX : f_XPr_perform u = (0, u) := by simp +decide only [f_XPr_perform, prI, prE, nmE, jnE, hx4, hx5, hx6, hx7, bI0, ↓reduceIte, x_val _ rfl hi, x_val _ rfl hj, x_putR _ _ rfl hi, hR, xF_R, xF_F, xR_R, xR_F, hnx, hbh, hx9, f_XBr_perform, f_XBr_decide, ek, if_pos d]
    have eM : f_MMo_acts v = some (msF v 2 (nI n)) := by rw [hact]; simp +decide only [f_MMo_indexed, f_MMo_width, in_lit, f_MMo_goes, bI0, f_MMo_low, f_MMo_high, nmE, jnE, bd1S, hm10, hm8, hlo, hhi, mF_F, mA_F, mF_A, Nat.reduceEqDiff, ↓reduceIte, bd1_id, ckIN (n := 16) (A := j) rfl hj (by decide), ckIN (n := 16) (A := i) rfl hi (by decide), nI_clamp (show j < 2 ^ 31 by omega), nI_clamp (show i < 2 ^ 31 by omega), hm12, f_MMo_holds, em, if_neg d2]
    rw [eX]
    refine Out.ok hl h13 ok0 ?_
    rw [eM]
    exact Done.mk (t := n) h13 (hC.mn _) rfl hnx rfl (by omega)
  · have d2 := Classical.not_not.mp (fun e => d (hq.mpr e))
    have eX : f_XPr_perform u = (0, xsF u 0 (nI a2)) := by simp +decide only [f_XPr_perform, prI, prE, nmE, jnE, hx4, hx5, hx6, hx7, bI0, ↓reduceIte, x_val _ rfl hi, x_val _ rfl hj, x_putR _ _ rfl hi, hR, xF_R, xF_F, xR_R, xR_F, hnx, hbh, hx9, f_XBr_perform, f_XBr_decide, ek, if_neg d]
    have eM : f_MMo_acts v = some (msF (msF v 2 (nI n)) 2 (nI a2)) := by rw [hact]; simp +decide only [f_MMo_indexed, f_MMo_width, in_lit, f_MMo_goes, bI0, f_MMo_low, f_MMo_high, nmE, jnE, bd1S, hm10, hm8, hlo, hhi, mF_F, mA_F, mF_A, Nat.reduceEqDiff, ↓reduceIte, bd1_id, ckIN (n := 16) (A := j) rfl hj (by decide), ckIN (n := 16) (A := i) rfl hi (by decide), nI_clamp (show j < 2 ^ 31 by omega), nI_clamp (show i < 2 ^ 31 by omega), hm12, f_MMo_holds, em, if_pos d2, ea]
    rw [eX]
    refine Out.ok hl h13 ok0 ?_
    rw [eM]
    exact Done.mk (t := a2) h13 (((hC.xn _).mn _).mn _) rfl rfl rfl (by omega)
theorem op_66 {u : XS} {v : MS} {s i j a1 a2 at0 : Nat} (h : Dd u v 66 s i j a1 a2 at0) : Out (f_XPr_perform u) v := by
  obtain ⟨n, hn, hnx, hbh, hact⟩ := h.act
  have hact := hact.2.1 (by decide) (by decide)
  obtain ⟨hC, ⟨-, hs, hi, hj, h1, h2⟩, ⟨hlo, hhi, hsij⟩, ⟨hx4, hm8⟩, ⟨hx5, hm10⟩, ⟨hx6, hx7⟩, hA2, hA1, hA12, ⟨h13, h0, hat⟩, -⟩ := h
  have hx4 : xF u 4 = 66 := hx4
  have hm8 : mF v 8 = 66 := hm8
  have hR : xR u = mA v 2 := hC.2.1
  obtain ⟨hx9, hm12⟩ := hA2 (by decide)
  obtain ⟨b, hb, hxb, hmb⟩ := hC.nb
  have lh := fun w => lies_holds w u (nI a2) (n := 1) (N := 1) rfl (by decide)
  obtain ⟨g1, hh | ⟨hh, hA⟩⟩ := al_1 u h2
  · have hl : f_MMo_looks v = some (msF v 13 5) := by simp +decide only [f_MMo_looks, f_MMo_looksAtWord, f_MMo_width, in_lit, bI0, wrong_f, f_MMo_low, f_MMo_high, nmE, jnE, bd1S, hm10, hm8, hlo, hhi, mF_F, mA_F, mF_A, Nat.reduceEqDiff, ↓reduceIte, bd1_id, ckIN (n := 16) (A := j) rfl hj (by decide), ckIN (n := 16) (A := i) rfl hi (by decide), nI_clamp (show j < 2 ^ 31 by omega), nI_clamp (show i < 2 ^ 31 by omega), hm12, ite_self, wrong_t v 5 h13, wrong_5, lh, hh]
    have eX : f_XPr_perform u = (5, u) := by simp +decide only [f_XPr_perform, prI, prE, nmE, jnE, hx4, hx5, hx6, hx7, bI0, ↓reduceIte, x_val _ rfl hi, x_val _ rfl hj, x_putR _ _ rfl hi, hR, xF_R, xF_F, xR_R, xR_F, hnx, hbh, hx9, f_XTr_perform, f_XTr_store, f_XMe_faultOf, g1, hh]
    rw [eX]
    exact Out.no hl rfl (by unfold nok; decide) hC
  · have hl : f_MMo_looks v = some v := by simp +decide only [f_MMo_looks, f_MMo_looksAtWord, f_MMo_width, in_lit, bI0, wrong_f, f_MMo_low, f_MMo_high, nmE, jnE, bd1S, hm10, hm8, hlo, hhi, mF_F, mA_F, mF_A, Nat.reduceEqDiff, ↓reduceIte, bd1_id, ckIN (n := 16) (A := j) rfl hj (by decide), ckIN (n := 16) (A := i) rfl hi (by decide), nI_clamp (show j < 2 ^ 31 by omega), nI_clamp (show i < 2 ^ 31 by omega), hm12, ite_self, lh, hh]
    have eX : f_XPr_perform u = (0, xsMM u (stM (xM u) a2 1 (mA v 2 i).toInt64.toInt)) := by simp +decide only [f_XPr_perform, prI, prE, nmE, jnE, hx4, hx5, hx6, hx7, bI0, ↓reduceIte, x_val _ rfl hi, x_val _ rfl hj, x_putR _ _ rfl hi, hR, xF_R, xF_F, xR_R, xR_F, hnx, hbh, hx9, f_XTr_perform, f_XTr_store, f_XMe_faultOf, g1, hh, x_store u _ (n := 1) (A := a2) (N := 1) rfl rfl hA]
    have eM : f_MMo_acts v = some (msMM (msF v 2 (nI n)) (stM (mA v 1) a2 1 (mA v 2 i).toInt64.toInt)) := by rw [hact]; simp +decide only [f_MMo_indexed, f_MMo_width, in_lit, f_MMo_goes, bI0, f_MMo_low, f_MMo_high, nmE, jnE, bd1S, hm10, hm8, hlo, hhi, mF_F, mA_F, mF_A, Nat.reduceEqDiff, ↓reduceIte, bd1_id, ckIN (n := 16) (A := j) rfl hj (by decide), ckIN (n := 16) (A := i) rfl hi (by decide), nI_clamp (show j < 2 ^ 31 by omega), nI_clamp (show i < 2 ^ 31 by omega), hm12, m_store _ _ (n := 1) (A := a2) (N := 1) rfl rfl hA (by decide)]
    rw [eX]
    refine Out.ok hl h13 ok0 ?_
    rw [eM, ← hC.1]
    exact Done.mk (t := n) h13 ((hC.mn _).mem (oct_st hC.2.2.2.1 _ _ _)) rfl hnx rfl (by omega)
theorem op_64 {u : XS} {v : MS} {s i j a1 a2 at0 : Nat} (h : Dd u v 64 s i j a1 a2 at0) : Out (f_XPr_perform u) v := by
  obtain ⟨n, hn, hnx, hbh, hact⟩ := h.act
  have hact := hact.2.1 (by decide) (by decide)
  obtain ⟨hC, ⟨-, hs, hi, hj, h1, h2⟩, ⟨hlo, hhi, hsij⟩, ⟨hx4, hm8⟩, ⟨hx5, hm10⟩, ⟨hx6, hx7⟩, hA2, hA1, hA12, ⟨h13, h0, hat⟩, -⟩ := h
  have hx4 : xF u 4 = 64 := hx4
  have hm8 : mF v 8 = 64 := hm8
  have hR : xR u = mA v 2 := hC.2.1
  obtain ⟨hx9, hm12⟩ := hA2 (by decide)
  obtain ⟨b, hb, hxb, hmb⟩ := hC.nb
  have lh := fun w => lies_holds w u (nI a2) (n := 2) (N := 2) rfl (by decide)
  rcases al_2 u h2 with ⟨g1, g2⟩ | ⟨g1, g2, hh⟩ | ⟨g1, g2, hh, hA⟩
  · have hl : f_MMo_looks v = some (msF v 13 6) := by simp +decide only [f_MMo_looks, f_MMo_looksAtWord, f_MMo_width, in_lit, bI0, wrong_f, f_MMo_low, f_MMo_high, nmE, jnE, bd1S, hm10, hm8, hlo, hhi, mF_F, mA_F, mF_A, Nat.reduceEqDiff, ↓reduceIte, bd1_id, ckIN (n := 16) (A := j) rfl hj (by decide), ckIN (n := 16) (A := i) rfl hi (by decide), nI_clamp (show j < 2 ^ 31 by omega), nI_clamp (show i < 2 ^ 31 by omega), hm12, ite_self, wrong_t v 6 h13, wrong_6, lh, if_neg g2, ckN32_ok (show ¬ (2 : Int32) = 0 by decide)]
    have eX : f_XPr_perform u = (6, u) := by simp +decide only [f_XPr_perform, prI, prE, nmE, jnE, hx4, hx5, hx6, hx7, bI0, ↓reduceIte, x_val _ rfl hi, x_val _ rfl hj, x_putR _ _ rfl hi, hR, xF_R, xF_F, xR_R, xR_F, hnx, hbh, hx9, f_XTr_perform, f_XTr_store, f_XMe_faultOf, if_neg g1]
    rw [eX]
    exact Out.no hl rfl (by unfold nok; decide) hC
  · have hl : f_MMo_looks v = some (msF v 13 5) := by simp +decide only [f_MMo_looks, f_MMo_looksAtWord, f_MMo_width, in_lit, bI0, wrong_f, f_MMo_low, f_MMo_high, nmE, jnE, bd1S, hm10, hm8, hlo, hhi, mF_F, mA_F, mF_A, Nat.reduceEqDiff, ↓reduceIte, bd1_id, ckIN (n := 16) (A := j) rfl hj (by decide), ckIN (n := 16) (A := i) rfl hi (by decide), nI_clamp (show j < 2 ^ 31 by omega), nI_clamp (show i < 2 ^ 31 by omega), hm12, ite_self, wrong_t v 5 h13, wrong_5, lh, hh, if_pos g2, ckN32_ok (show ¬ (2 : Int32) = 0 by decide)]
    have eX : f_XPr_perform u = (5, u) := by simp +decide only [f_XPr_perform, prI, prE, nmE, jnE, hx4, hx5, hx6, hx7, bI0, ↓reduceIte, x_val _ rfl hi, x_val _ rfl hj, x_putR _ _ rfl hi, hR, xF_R, xF_F, xR_R, xR_F, hnx, hbh, hx9, f_XTr_perform, f_XTr_store, f_XMe_faultOf, g1, hh]
    rw [eX]
    exact Out.no hl rfl (by unfold nok; decide) hC
  · have hl : f_MMo_looks v = some v := by simp +decide only [f_MMo_looks, f_MMo_looksAtWord, f_MMo_width, in_lit, bI0, wrong_f, f_MMo_low, f_MMo_high, nmE, jnE, bd1S, hm10, hm8, hlo, hhi, mF_F, mA_F, mF_A, Nat.reduceEqDiff, ↓reduceIte, bd1_id, ckIN (n := 16) (A := j) rfl hj (by decide), ckIN (n := 16) (A := i) rfl hi (by decide), nI_clamp (show j < 2 ^ 31 by omega), nI_clamp (show i < 2 ^ 31 by omega), hm12, ite_self, lh, hh, if_pos g2, ckN32_ok (show ¬ (2 : Int32) = 0 by decide)]
    have eX : f_XPr_perform u = (0, xsMM u (stM (xM u) a2 2 (mA v 2 i).toInt64.toInt)) := by simp +decide only [f_XPr_perform, prI, prE, nmE, jnE, hx4, hx5, hx6, hx7, bI0, ↓reduceIte, x_val _ rfl hi, x_val _ rfl hj, x_putR _ _ rfl hi, hR, xF_R, xF_F, xR_R, xR_F, hnx, hbh, hx9, f_XTr_perform, f_XTr_store, f_XMe_faultOf, g1, hh, x_store u _ (n := 2) (A := a2) (N := 2) rfl rfl hA]
    have eM : f_MMo_acts v = some (msMM (msF v 2 (nI n)) (stM (mA v 1) a2 2 (mA v 2 i).toInt64.toInt)) := by rw [hact]; simp +decide only [f_MMo_indexed, f_MMo_width, in_lit, f_MMo_goes, bI0, f_MMo_low, f_MMo_high, nmE, jnE, bd1S, hm10, hm8, hlo, hhi, mF_F, mA_F, mF_A, Nat.reduceEqDiff, ↓reduceIte, bd1_id, ckIN (n := 16) (A := j) rfl hj (by decide), ckIN (n := 16) (A := i) rfl hi (by decide), nI_clamp (show j < 2 ^ 31 by omega), nI_clamp (show i < 2 ^ 31 by omega), hm12, m_store _ _ (n := 2) (A := a2) (N := 2) rfl rfl hA (by decide)]
    rw [eX]
    refine Out.ok hl h13 ok0 ?_
    rw [eM, ← hC.1]
    exact Done.mk (t := n) h13 ((hC.mn _).mem (oct_st hC.2.2.2.1 _ _ _)) rfl hnx rfl (by omega)
theorem op_80 {u : XS} {v : MS} {s i j a1 a2 at0 : Nat} (h : Dd u v 80 s i j a1 a2 at0) : Out (f_XPr_perform u) v := by
  obtain ⟨n, hn, hnx, hbh, hact⟩ := h.act
  have hact := hact.2.1 (by decide) (by decide)
  obtain ⟨hC, ⟨-, hs, hi, hj, h1, h2⟩, ⟨hlo, hhi, hsij⟩, ⟨hx4, hm8⟩, ⟨hx5, hm10⟩, ⟨hx6, hx7⟩, hA2, hA1, hA12, ⟨h13, h0, hat⟩, -⟩ := h
  have hx4 : xF u 4 = 80 := hx4
  have hm8 : mF v 8 = 80 := hm8
  have hR : xR u = mA v 2 := hC.2.1
  obtain ⟨hx9, hm12⟩ := hA2 (by decide)
  obtain ⟨b, hb, hxb, hmb⟩ := hC.nb
  have lh := fun w => lies_holds w u (nI a2) (n := 4) (N := 4) rfl (by decide)
  rcases al_4 u h2 with ⟨g1, g2⟩ | ⟨g1, g2, hh⟩ | ⟨g1, g2, hh, hA⟩
  · have hl : f_MMo_looks v = some (msF v 13 6) := by simp +decide only [f_MMo_looks, f_MMo_looksAtWord, f_MMo_width, in_lit, bI0, wrong_f, f_MMo_low, f_MMo_high, nmE, jnE, bd1S, hm10, hm8, hlo, hhi, mF_F, mA_F, mF_A, Nat.reduceEqDiff, ↓reduceIte, bd1_id, ckIN (n := 16) (A := j) rfl hj (by decide), ckIN (n := 16) (A := i) rfl hi (by decide), nI_clamp (show j < 2 ^ 31 by omega), nI_clamp (show i < 2 ^ 31 by omega), hm12, ite_self, wrong_t v 6 h13, wrong_6, lh, if_neg g2, ckN32_ok (show ¬ (4 : Int32) = 0 by decide)]
    have eX : f_XPr_perform u = (6, u) := by simp +decide only [f_XPr_perform, prI, prE, nmE, jnE, hx4, hx5, hx6, hx7, bI0, ↓reduceIte, x_val _ rfl hi, x_val _ rfl hj, x_putR _ _ rfl hi, hR, xF_R, xF_F, xR_R, xR_F, hnx, hbh, hx9, f_XTr_perform, f_XTr_store, f_XMe_faultOf, if_neg g1]
    rw [eX]
    exact Out.no hl rfl (by unfold nok; decide) hC
  · have hl : f_MMo_looks v = some (msF v 13 5) := by simp +decide only [f_MMo_looks, f_MMo_looksAtWord, f_MMo_width, in_lit, bI0, wrong_f, f_MMo_low, f_MMo_high, nmE, jnE, bd1S, hm10, hm8, hlo, hhi, mF_F, mA_F, mF_A, Nat.reduceEqDiff, ↓reduceIte, bd1_id, ckIN (n := 16) (A := j) rfl hj (by decide), ckIN (n := 16) (A := i) rfl hi (by decide), nI_clamp (show j < 2 ^ 31 by omega), nI_clamp (show i < 2 ^ 31 by omega), hm12, ite_self, wrong_t v 5 h13, wrong_5, lh, hh, if_pos g2, ckN32_ok (show ¬ (4 : Int32) = 0 by decide)]
    have eX : f_XPr_perform u = (5, u) := by simp +decide only [f_XPr_perform, prI, prE, nmE, jnE, hx4, hx5, hx6, hx7, bI0, ↓reduceIte, x_val _ rfl hi, x_val _ rfl hj, x_putR _ _ rfl hi, hR, xF_R, xF_F, xR_R, xR_F, hnx, hbh, hx9, f_XTr_perform, f_XTr_store, f_XMe_faultOf, g1, hh]
    rw [eX]
    exact Out.no hl rfl (by unfold nok; decide) hC
  · have hl : f_MMo_looks v = some v := by simp +decide only [f_MMo_looks, f_MMo_looksAtWord, f_MMo_width, in_lit, bI0, wrong_f, f_MMo_low, f_MMo_high, nmE, jnE, bd1S, hm10, hm8, hlo, hhi, mF_F, mA_F, mF_A, Nat.reduceEqDiff, ↓reduceIte, bd1_id, ckIN (n := 16) (A := j) rfl hj (by decide), ckIN (n := 16) (A := i) rfl hi (by decide), nI_clamp (show j < 2 ^ 31 by omega), nI_clamp (show i < 2 ^ 31 by omega), hm12, ite_self, lh, hh, if_pos g2, ckN32_ok (show ¬ (4 : Int32) = 0 by decide)]
    have eX : f_XPr_perform u = (0, xsMM u (stM (xM u) a2 4 (mA v 2 i).toInt64.toInt)) := by simp +decide only [f_XPr_perform, prI, prE, nmE, jnE, hx4, hx5, hx6, hx7, bI0, ↓reduceIte, x_val _ rfl hi, x_val _ rfl hj, x_putR _ _ rfl hi, hR, xF_R, xF_F, xR_R, xR_F, hnx, hbh, hx9, f_XTr_perform, f_XTr_store, f_XMe_faultOf, g1, hh, x_store u _ (n := 4) (A := a2) (N := 4) rfl rfl hA]
    have eM : f_MMo_acts v = some (msMM (msF v 2 (nI n)) (stM (mA v 1) a2 4 (mA v 2 i).toInt64.toInt)) := by rw [hact]; simp +decide only [f_MMo_indexed, f_MMo_width, in_lit, f_MMo_goes, bI0, f_MMo_low, f_MMo_high, nmE, jnE, bd1S, hm10, hm8, hlo, hhi, mF_F, mA_F, mF_A, Nat.reduceEqDiff, ↓reduceIte, bd1_id, ckIN (n := 16) (A := j) rfl hj (by decide), ckIN (n := 16) (A := i) rfl hi (by decide), nI_clamp (show j < 2 ^ 31 by omega), nI_clamp (show i < 2 ^ 31 by omega), hm12, m_store _ _ (n := 4) (A := a2) (N := 4) rfl rfl hA (by decide)]
    rw [eX]
    refine Out.ok hl h13 ok0 ?_
    rw [eM, ← hC.1]
    exact Done.mk (t := n) h13 ((hC.mn _).mem (oct_st hC.2.2.2.1 _ _ _)) rfl hnx rfl (by omega)
theorem op_67 {u : XS} {v : MS} {s i j a1 a2 at0 : Nat} (h : Dd u v 67 s i j a1 a2 at0) : Out (f_XPr_perform u) v := by
  obtain ⟨n, hn, hnx, hbh, hact⟩ := h.act
  have hact := hact.2.1 (by decide) (by decide)
  obtain ⟨hC, ⟨-, hs, hi, hj, h1, h2⟩, ⟨hlo, hhi, hsij⟩, ⟨hx4, hm8⟩, ⟨hx5, hm10⟩, ⟨hx6, hx7⟩, hA2, hA1, hA12, ⟨h13, h0, hat⟩, -⟩ := h
  have hx4 : xF u 4 = 67 := hx4
  have hm8 : mF v 8 = 67 := hm8
  have hR : xR u = mA v 2 := hC.2.1
  obtain ⟨hx9, hm12⟩ := hA2 (by decide)
  obtain ⟨b, hb, hxb, hmb⟩ := hC.nb
  have lh := fun w => lies_holds w u (nI a2) (n := 1) (N := 1) rfl (by decide)
  obtain ⟨g1, hh | ⟨hh, hA⟩⟩ := al_1 u h2
  · have hl : f_MMo_looks v = some (msF v 13 5) := by simp +decide only [f_MMo_looks, f_MMo_looksAtWord, f_MMo_width, in_lit, bI0, wrong_f, f_MMo_low, f_MMo_high, nmE, jnE, bd1S, hm10, hm8, hlo, hhi, mF_F, mA_F, mF_A, Nat.reduceEqDiff, ↓reduceIte, bd1_id, ckIN (n := 16) (A := j) rfl hj (by decide), ckIN (n := 16) (A := i) rfl hi (by decide), nI_clamp (show j < 2 ^ 31 by omega), nI_clamp (show i < 2 ^ 31 by omega), hm12, ite_self, wrong_t v 5 h13, wrong_5, lh, hh]
    have eX : f_XPr_perform u = (5, u) := by simp +decide only [f_XPr_perform, prI, prE, nmE, jnE, hx4, hx5, hx6, hx7, bI0, ↓reduceIte, x_val _ rfl hi, x_val _ rfl hj, x_putR _ _ rfl hi, hR, xF_R, xF_F, xR_R, xR_F, hnx, hbh, hx9, f_XTr_perform, f_XTr_insert, hh]
    rw [eX]
    exact Out.no hl rfl (by unfold nok; decide) hC
  · have hl : f_MMo_looks v = some v := by simp +decide only [f_MMo_looks, f_MMo_looksAtWord, f_MMo_width, in_lit, bI0, wrong_f, f_MMo_low, f_MMo_high, nmE, jnE, bd1S, hm10, hm8, hlo, hhi, mF_F, mA_F, mF_A, Nat.reduceEqDiff, ↓reduceIte, bd1_id, ckIN (n := 16) (A := j) rfl hj (by decide), ckIN (n := 16) (A := i) rfl hi (by decide), nI_clamp (show j < 2 ^ 31 by omega), nI_clamp (show i < 2 ^ 31 by omega), hm12, ite_self, lh, hh]
    have eX : f_XPr_perform u = (0, xsR u i (mA v 2 i &&& -256 ||| nI (b a2))) := by simp +decide only [f_XPr_perform, prI, prE, nmE, jnE, hx4, hx5, hx6, hx7, bI0, ↓reduceIte, x_val _ rfl hi, x_val _ rfl hj, x_putR _ _ rfl hi, hR, xF_R, xF_F, xR_R, xR_F, hnx, hbh, hx9, f_XTr_perform, f_XTr_insert, hh, getN u (A := a2) rfl hA, hxb]
    have eM : f_MMo_acts v = some (msA (msF v 2 (nI n)) 2 i (mA v 2 i &&& -256 ||| nI (b a2))) := by rw [hact]; simp +decide only [f_MMo_indexed, f_MMo_width, in_lit, f_MMo_goes, bI0, f_MMo_low, f_MMo_high, nmE, jnE, bd1S, hm10, hm8, hlo, hhi, mF_F, mA_F, mF_A, Nat.reduceEqDiff, ↓reduceIte, bd1_id, ckIN (n := 16) (A := j) rfl hj (by decide), ckIN (n := 16) (A := i) rfl hi (by decide), nI_clamp (show j < 2 ^ 31 by omega), nI_clamp (show i < 2 ^ 31 by omega), hm12, m_take (msF v 2 (nI n)) hb hmb (n := 1) (A := a2) (N := 1) rfl rfl hA (by decide), tk_1, lN_i]
    rw [eX]
    refine Out.ok hl h13 ok0 ?_
    rw [eM]
    exact Done.mk (t := n) h13 ((hC.mn _).reg _ _) rfl hnx rfl (by omega)
theorem op_72 {u : XS} {v : MS} {s i j a1 a2 at0 : Nat} (h : Dd u v 72 s i j a1 a2 at0) : Out (f_XPr_perform u) v := by
  obtain ⟨n, hn, hnx, hbh, hact⟩ := h.act
  have hact := hact.2.1 (by decide) (by decide)
  obtain ⟨hC, ⟨-, hs, hi, hj, h1, h2⟩, ⟨hlo, hhi, hsij⟩, ⟨hx4, hm8⟩, ⟨hx5, hm10⟩, ⟨hx6, hx7⟩, hA2, hA1, hA12, ⟨h13, h0, hat⟩, -⟩ := h
  have hx4 : xF u 4 = 72 := hx4
  have hm8 : mF v 8 = 72 := hm8
  have hR : xR u = mA v 2 := hC.2.1
  obtain ⟨hx9, hm12⟩ := hA2 (by decide)
  obtain ⟨b, hb, hxb, hmb⟩ := hC.nb
  have cs : (72 : Int32) - 48 = 24 := by decide
  have lh := fun w => lies_holds w u (nI a2) (n := 2) (N := 2) rfl (by decide)
  rcases al_2 u h2 with ⟨g1, g2⟩ | ⟨g1, g2, hh⟩ | ⟨g1, g2, hh, hA⟩
  · have hl : f_MMo_looks v = some (msF v 13 6) := by simp +decide only [f_MMo_looks, f_MMo_looksAtWord, f_MMo_width, in_lit, bI0, wrong_f, f_MMo_low, f_MMo_high, nmE, jnE, bd1S, hm10, hm8, hlo, hhi, mF_F, mA_F, mF_A, Nat.reduceEqDiff, ↓reduceIte, bd1_id, ckIN (n := 16) (A := j) rfl hj (by decide), ckIN (n := 16) (A := i) rfl hi (by decide), nI_clamp (show j < 2 ^ 31 by omega), nI_clamp (show i < 2 ^ 31 by omega), hm12, ite_self, wrong_t v 6 h13, wrong_6, lh, if_neg g2, ckN32_ok (show ¬ (2 : Int32) = 0 by decide)]
    have eX : f_XPr_perform u = (6, u) := by simp +decide only [f_XPr_perform, prI, prE, nmE, jnE, hx4, hx5, hx6, hx7, bI0, ↓reduceIte, x_val _ rfl hi, x_val _ rfl hj, x_putR _ _ rfl hi, hR, xF_R, xF_F, xR_R, xR_F, hnx, hbh, hx9, f_XAr_withHalf, f_XMe_faultOf, if_neg g1]
    rw [eX]
    exact Out.no hl rfl (by unfold nok; decide) hC
  · have hl : f_MMo_looks v = some (msF v 13 5) := by simp +decide only [f_MMo_looks, f_MMo_looksAtWord, f_MMo_width, in_lit, bI0, wrong_f, f_MMo_low, f_MMo_high, nmE, jnE, bd1S, hm10, hm8, hlo, hhi, mF_F, mA_F, mF_A, Nat.reduceEqDiff, ↓reduceIte, bd1_id, ckIN (n := 16) (A := j) rfl hj (by decide), ckIN (n := 16) (A := i) rfl hi (by decide), nI_clamp (show j < 2 ^ 31 by omega), nI_clamp (show i < 2 ^ 31 by omega), hm12, ite_self, wrong_t v 5 h13, wrong_5, lh, hh, if_pos g2, ckN32_ok (show ¬ (2 : Int32) = 0 by decide)]
    have eX : f_XPr_perform u = (5, u) := by simp +decide only [f_XPr_perform, prI, prE, nmE, jnE, hx4, hx5, hx6, hx7, bI0, ↓reduceIte, x_val _ rfl hi, x_val _ rfl hj, x_putR _ _ rfl hi, hR, xF_R, xF_F, xR_R, xR_F, hnx, hbh, hx9, f_XAr_withHalf, f_XMe_faultOf, g1, hh]
    rw [eX]
    exact Out.no hl rfl (by unfold nok; decide) hC
  · have hl : f_MMo_looks v = some v := by simp +decide only [f_MMo_looks, f_MMo_looksAtWord, f_MMo_width, in_lit, bI0, wrong_f, f_MMo_low, f_MMo_high, nmE, jnE, bd1S, hm10, hm8, hlo, hhi, mF_F, mA_F, mF_A, Nat.reduceEqDiff, ↓reduceIte, bd1_id, ckIN (n := 16) (A := j) rfl hj (by decide), ckIN (n := 16) (A := i) rfl hi (by decide), nI_clamp (show j < 2 ^ 31 by omega), nI_clamp (show i < 2 ^ 31 by omega), hm12, ite_self, lh, hh, if_pos g2, ckN32_ok (show ¬ (2 : Int32) = 0 by decide)]
    have ht := m_take (msF v 2 (nI n)) hb hmb (a := nI a2) (n := 2) (A := a2) (N := 2) rfl rfl hA (by decide)
    refine Sim.out (n := n) (r := f_MMo_indexed v (nI n)) ?_ hl h13 hact hnx hn
    simp +decide only [f_XPr_perform, prI, prE, nmE, jnE, hx4, hx5, hx6, hx7, bI0, ↓reduceIte, x_val _ rfl hi, x_val _ rfl hj, x_putR _ _ rfl hi, hR, xF_R, xF_F, xR_R, xR_F, hnx, hbh, hx9, f_MMo_indexed, f_MMo_width, in_lit, f_MMo_goes, bI0, f_MMo_low, f_MMo_high, nmE, jnE, bd1S, hm10, hm8, hlo, hhi, mF_F, mA_F, mF_A, Nat.reduceEqDiff, ↓reduceIte, bd1_id, ckIN (n := 16) (A := j) rfl hj (by decide), ckIN (n := 16) (A := i) rfl hi (by decide), nI_clamp (show j < 2 ^ 31 by omega), nI_clamp (show i < 2 ^ 31 by omega), hm12, f_XAr_withHalf, f_XMe_faultOf, g1, hh, x_half u hb hxb rfl hA, f_XAr_apply, cs, ht, lN_i]
    exact sim_load (hC.mn _) h13 hi _
theorem op_73 {u : XS} {v : MS} {s i j a1 a2 at0 : Nat} (h : Dd u v 73 s i j a1 a2 at0) : Out (f_XPr_perform u) v := by
  obtain ⟨n, hn, hnx, hbh, hact⟩ := h.act
  have hact := hact.2.1 (by decide) (by decide)
  obtain ⟨hC, ⟨-, hs, hi, hj, h1, h2⟩, ⟨hlo, hhi, hsij⟩, ⟨hx4, hm8⟩, ⟨hx5, hm10⟩, ⟨hx6, hx7⟩, hA2, hA1, hA12, ⟨h13, h0, hat⟩, -⟩ := h
  have hx4 : xF u 4 = 73 := hx4
  have hm8 : mF v 8 = 73 := hm8
  have hR : xR u = mA v 2 := hC.2.1
  obtain ⟨hx9, hm12⟩ := hA2 (by decide)
  obtain ⟨b, hb, hxb, hmb⟩ := hC.nb
  have cs : (73 : Int32) - 48 = 25 := by decide
  have lh := fun w => lies_holds w u (nI a2) (n := 2) (N := 2) rfl (by decide)
  rcases al_2 u h2 with ⟨g1, g2⟩ | ⟨g1, g2, hh⟩ | ⟨g1, g2, hh, hA⟩
  · have hl : f_MMo_looks v = some (msF v 13 6) := by simp +decide only [f_MMo_looks, f_MMo_looksAtWord, f_MMo_width, in_lit, bI0, wrong_f, f_MMo_low, f_MMo_high, nmE, jnE, bd1S, hm10, hm8, hlo, hhi, mF_F, mA_F, mF_A, Nat.reduceEqDiff, ↓reduceIte, bd1_id, ckIN (n := 16) (A := j) rfl hj (by decide), ckIN (n := 16) (A := i) rfl hi (by decide), nI_clamp (show j < 2 ^ 31 by omega), nI_clamp (show i < 2 ^ 31 by omega), hm12, ite_self, wrong_t v 6 h13, wrong_6, lh, if_neg g2, ckN32_ok (show ¬ (2 : Int32) = 0 by decide)]
    have eX : f_XPr_perform u = (6, u) := by simp +decide only [f_XPr_perform, prI, prE, nmE, jnE, hx4, hx5, hx6, hx7, bI0, ↓reduceIte, x_val _ rfl hi, x_val _ rfl hj, x_putR _ _ rfl hi, hR, xF_R, xF_F, xR_R, xR_F, hnx, hbh, hx9, f_XAr_withHalf, f_XMe_faultOf, if_neg g1]
    rw [eX]
    exact Out.no hl rfl (by unfold nok; decide) hC
  · have hl : f_MMo_looks v = some (msF v 13 5) := by simp +decide only [f_MMo_looks, f_MMo_looksAtWord, f_MMo_width, in_lit, bI0, wrong_f, f_MMo_low, f_MMo_high, nmE, jnE, bd1S, hm10, hm8, hlo, hhi, mF_F, mA_F, mF_A, Nat.reduceEqDiff, ↓reduceIte, bd1_id, ckIN (n := 16) (A := j) rfl hj (by decide), ckIN (n := 16) (A := i) rfl hi (by decide), nI_clamp (show j < 2 ^ 31 by omega), nI_clamp (show i < 2 ^ 31 by omega), hm12, ite_self, wrong_t v 5 h13, wrong_5, lh, hh, if_pos g2, ckN32_ok (show ¬ (2 : Int32) = 0 by decide)]
    have eX : f_XPr_perform u = (5, u) := by simp +decide only [f_XPr_perform, prI, prE, nmE, jnE, hx4, hx5, hx6, hx7, bI0, ↓reduceIte, x_val _ rfl hi, x_val _ rfl hj, x_putR _ _ rfl hi, hR, xF_R, xF_F, xR_R, xR_F, hnx, hbh, hx9, f_XAr_withHalf, f_XMe_faultOf, g1, hh]
    rw [eX]
    exact Out.no hl rfl (by unfold nok; decide) hC
  · have hl : f_MMo_looks v = some v := by simp +decide only [f_MMo_looks, f_MMo_looksAtWord, f_MMo_width, in_lit, bI0, wrong_f, f_MMo_low, f_MMo_high, nmE, jnE, bd1S, hm10, hm8, hlo, hhi, mF_F, mA_F, mF_A, Nat.reduceEqDiff, ↓reduceIte, bd1_id, ckIN (n := 16) (A := j) rfl hj (by decide), ckIN (n := 16) (A := i) rfl hi (by decide), nI_clamp (show j < 2 ^ 31 by omega), nI_clamp (show i < 2 ^ 31 by omega), hm12, ite_self, lh, hh, if_pos g2, ckN32_ok (show ¬ (2 : Int32) = 0 by decide)]
    have ht := m_take (msF v 2 (nI n)) hb hmb (a := nI a2) (n := 2) (A := a2) (N := 2) rfl rfl hA (by decide)
    refine Sim.out (n := n) (r := f_MMo_indexed v (nI n)) ?_ hl h13 hact hnx hn
    simp +decide only [f_XPr_perform, prI, prE, nmE, jnE, hx4, hx5, hx6, hx7, bI0, ↓reduceIte, x_val _ rfl hi, x_val _ rfl hj, x_putR _ _ rfl hi, hR, xF_R, xF_F, xR_R, xR_F, hnx, hbh, hx9, f_MMo_indexed, f_MMo_width, in_lit, f_MMo_goes, bI0, f_MMo_low, f_MMo_high, nmE, jnE, bd1S, hm10, hm8, hlo, hhi, mF_F, mA_F, mF_A, Nat.reduceEqDiff, ↓reduceIte, bd1_id, ckIN (n := 16) (A := j) rfl hj (by decide), ckIN (n := 16) (A := i) rfl hi (by decide), nI_clamp (show j < 2 ^ 31 by omega), nI_clamp (show i < 2 ^ 31 by omega), hm12, f_XAr_withHalf, f_XMe_faultOf, g1, hh, x_half u hb hxb rfl hA, f_XAr_apply, cs, ht, lN_i]
    exact sim_comp (hC.mn _) h13 (i32_small _) (i32_small _)
theorem op_74 {u : XS} {v : MS} {s i j a1 a2 at0 : Nat} (h : Dd u v 74 s i j a1 a2 at0) : Out (f_XPr_perform u) v := by
  obtain ⟨n, hn, hnx, hbh, hact⟩ := h.act
  have hact := hact.2.1 (by decide) (by decide)
  obtain ⟨hC, ⟨-, hs, hi, hj, h1, h2⟩, ⟨hlo, hhi, hsij⟩, ⟨hx4, hm8⟩, ⟨hx5, hm10⟩, ⟨hx6, hx7⟩, hA2, hA1, hA12, ⟨h13, h0, hat⟩, -⟩ := h
  have hx4 : xF u 4 = 74 := hx4
  have hm8 : mF v 8 = 74 := hm8
  have hR : xR u = mA v 2 := hC.2.1
  obtain ⟨hx9, hm12⟩ := hA2 (by decide)
  obtain ⟨b, hb, hxb, hmb⟩ := hC.nb
  have cs : (74 : Int32) - 48 = 26 := by decide
  have lh := fun w => lies_holds w u (nI a2) (n := 2) (N := 2) rfl (by decide)
  rcases al_2 u h2 with ⟨g1, g2⟩ | ⟨g1, g2, hh⟩ | ⟨g1, g2, hh, hA⟩
  · have hl : f_MMo_looks v = some (msF v 13 6) := by simp +decide only [f_MMo_looks, f_MMo_looksAtWord, f_MMo_width, in_lit, bI0, wrong_f, f_MMo_low, f_MMo_high, nmE, jnE, bd1S, hm10, hm8, hlo, hhi, mF_F, mA_F, mF_A, Nat.reduceEqDiff, ↓reduceIte, bd1_id, ckIN (n := 16) (A := j) rfl hj (by decide), ckIN (n := 16) (A := i) rfl hi (by decide), nI_clamp (show j < 2 ^ 31 by omega), nI_clamp (show i < 2 ^ 31 by omega), hm12, ite_self, wrong_t v 6 h13, wrong_6, lh, if_neg g2, ckN32_ok (show ¬ (2 : Int32) = 0 by decide)]
    have eX : f_XPr_perform u = (6, u) := by simp +decide only [f_XPr_perform, prI, prE, nmE, jnE, hx4, hx5, hx6, hx7, bI0, ↓reduceIte, x_val _ rfl hi, x_val _ rfl hj, x_putR _ _ rfl hi, hR, xF_R, xF_F, xR_R, xR_F, hnx, hbh, hx9, f_XAr_withHalf, f_XMe_faultOf, if_neg g1]
    rw [eX]
    exact Out.no hl rfl (by unfold nok; decide) hC
  · have hl : f_MMo_looks v = some (msF v 13 5) := by simp +decide only [f_MMo_looks, f_MMo_looksAtWord, f_MMo_width, in_lit, bI0, wrong_f, f_MMo_low, f_MMo_high, nmE, jnE, bd1S, hm10, hm8, hlo, hhi, mF_F, mA_F, mF_A, Nat.reduceEqDiff, ↓reduceIte, bd1_id, ckIN (n := 16) (A := j) rfl hj (by decide), ckIN (n := 16) (A := i) rfl hi (by decide), nI_clamp (show j < 2 ^ 31 by omega), nI_clamp (show i < 2 ^ 31 by omega), hm12, ite_self, wrong_t v 5 h13, wrong_5, lh, hh, if_pos g2, ckN32_ok (show ¬ (2 : Int32) = 0 by decide)]
    have eX : f_XPr_perform u = (5, u) := by simp +decide only [f_XPr_perform, prI, prE, nmE, jnE, hx4, hx5, hx6, hx7, bI0, ↓reduceIte, x_val _ rfl hi, x_val _ rfl hj, x_putR _ _ rfl hi, hR, xF_R, xF_F, xR_R, xR_F, hnx, hbh, hx9, f_XAr_withHalf, f_XMe_faultOf, g1, hh]
    rw [eX]
    exact Out.no hl rfl (by unfold nok; decide) hC
  · have hl : f_MMo_looks v = some v := by simp +decide only [f_MMo_looks, f_MMo_looksAtWord, f_MMo_width, in_lit, bI0, wrong_f, f_MMo_low, f_MMo_high, nmE, jnE, bd1S, hm10, hm8, hlo, hhi, mF_F, mA_F, mF_A, Nat.reduceEqDiff, ↓reduceIte, bd1_id, ckIN (n := 16) (A := j) rfl hj (by decide), ckIN (n := 16) (A := i) rfl hi (by decide), nI_clamp (show j < 2 ^ 31 by omega), nI_clamp (show i < 2 ^ 31 by omega), hm12, ite_self, lh, hh, if_pos g2, ckN32_ok (show ¬ (2 : Int32) = 0 by decide)]
    have ht := m_take (msF v 2 (nI n)) hb hmb (a := nI a2) (n := 2) (A := a2) (N := 2) rfl rfl hA (by decide)
    refine Sim.out (n := n) (r := f_MMo_indexed v (nI n)) ?_ hl h13 hact hnx hn
    simp +decide only [f_XPr_perform, prI, prE, nmE, jnE, hx4, hx5, hx6, hx7, bI0, ↓reduceIte, x_val _ rfl hi, x_val _ rfl hj, x_putR _ _ rfl hi, hR, xF_R, xF_F, xR_R, xR_F, hnx, hbh, hx9, f_MMo_indexed, f_MMo_width, in_lit, f_MMo_goes, bI0, f_MMo_low, f_MMo_high, nmE, jnE, bd1S, hm10, hm8, hlo, hhi, mF_F, mA_F, mF_A, Nat.reduceEqDiff, ↓reduceIte, bd1_id, ckIN (n := 16) (A := j) rfl hj (by decide), ckIN (n := 16) (A := i) rfl hi (by decide), nI_clamp (show j < 2 ^ 31 by omega), nI_clamp (show i < 2 ^ 31 by omega), hm12, f_XAr_withHalf, f_XMe_faultOf, g1, hh, x_half u hb hxb rfl hA, f_XAr_apply, cs, ht, lN_i]
    exact sim_exact (hC.mn _) h13 hi _
theorem op_75 {u : XS} {v : MS} {s i j a1 a2 at0 : Nat} (h : Dd u v 75 s i j a1 a2 at0) : Out (f_XPr_perform u) v := by
  obtain ⟨n, hn, hnx, hbh, hact⟩ := h.act
  have hact := hact.2.1 (by decide) (by decide)
  obtain ⟨hC, ⟨-, hs, hi, hj, h1, h2⟩, ⟨hlo, hhi, hsij⟩, ⟨hx4, hm8⟩, ⟨hx5, hm10⟩, ⟨hx6, hx7⟩, hA2, hA1, hA12, ⟨h13, h0, hat⟩, -⟩ := h
  have hx4 : xF u 4 = 75 := hx4
  have hm8 : mF v 8 = 75 := hm8
  have hR : xR u = mA v 2 := hC.2.1
  obtain ⟨hx9, hm12⟩ := hA2 (by decide)
  obtain ⟨b, hb, hxb, hmb⟩ := hC.nb
  have cs : (75 : Int32) - 48 = 27 := by decide
  have lh := fun w => lies_holds w u (nI a2) (n := 2) (N := 2) rfl (by decide)
  rcases al_2 u h2 with ⟨g1, g2⟩ | ⟨g1, g2, hh⟩ | ⟨g1, g2, hh, hA⟩
  · have hl : f_MMo_looks v = some (msF v 13 6) := by simp +decide only [f_MMo_looks, f_MMo_looksAtWord, f_MMo_width, in_lit, bI0, wrong_f, f_MMo_low, f_MMo_high, nmE, jnE, bd1S, hm10, hm8, hlo, hhi, mF_F, mA_F, mF_A, Nat.reduceEqDiff, ↓reduceIte, bd1_id, ckIN (n := 16) (A := j) rfl hj (by decide), ckIN (n := 16) (A := i) rfl hi (by decide), nI_clamp (show j < 2 ^ 31 by omega), nI_clamp (show i < 2 ^ 31 by omega), hm12, ite_self, wrong_t v 6 h13, wrong_6, lh, if_neg g2, ckN32_ok (show ¬ (2 : Int32) = 0 by decide)]
    have eX : f_XPr_perform u = (6, u) := by simp +decide only [f_XPr_perform, prI, prE, nmE, jnE, hx4, hx5, hx6, hx7, bI0, ↓reduceIte, x_val _ rfl hi, x_val _ rfl hj, x_putR _ _ rfl hi, hR, xF_R, xF_F, xR_R, xR_F, hnx, hbh, hx9, f_XAr_withHalf, f_XMe_faultOf, if_neg g1]
    rw [eX]
    exact Out.no hl rfl (by unfold nok; decide) hC
  · have hl : f_MMo_looks v = some (msF v 13 5) := by simp +decide only [f_MMo_looks, f_MMo_looksAtWord, f_MMo_width, in_lit, bI0, wrong_f, f_MMo_low, f_MMo_high, nmE, jnE, bd1S, hm10, hm8, hlo, hhi, mF_F, mA_F, mF_A, Nat.reduceEqDiff, ↓reduceIte, bd1_id, ckIN (n := 16) (A := j) rfl hj (by decide), ckIN (n := 16) (A := i) rfl hi (by decide), nI_clamp (show j < 2 ^ 31 by omega), nI_clamp (show i < 2 ^ 31 by omega), hm12, ite_self, wrong_t v 5 h13, wrong_5, lh, hh, if_pos g2, ckN32_ok (show ¬ (2 : Int32) = 0 by decide)]
    have eX : f_XPr_perform u = (5, u) := by simp +decide only [f_XPr_perform, prI, prE, nmE, jnE, hx4, hx5, hx6, hx7, bI0, ↓reduceIte, x_val _ rfl hi, x_val _ rfl hj, x_putR _ _ rfl hi, hR, xF_R, xF_F, xR_R, xR_F, hnx, hbh, hx9, f_XAr_withHalf, f_XMe_faultOf, g1, hh]
    rw [eX]
    exact Out.no hl rfl (by unfold nok; decide) hC
  · have hl : f_MMo_looks v = some v := by simp +decide only [f_MMo_looks, f_MMo_looksAtWord, f_MMo_width, in_lit, bI0, wrong_f, f_MMo_low, f_MMo_high, nmE, jnE, bd1S, hm10, hm8, hlo, hhi, mF_F, mA_F, mF_A, Nat.reduceEqDiff, ↓reduceIte, bd1_id, ckIN (n := 16) (A := j) rfl hj (by decide), ckIN (n := 16) (A := i) rfl hi (by decide), nI_clamp (show j < 2 ^ 31 by omega), nI_clamp (show i < 2 ^ 31 by omega), hm12, ite_self, lh, hh, if_pos g2, ckN32_ok (show ¬ (2 : Int32) = 0 by decide)]
    have ht := m_take (msF v 2 (nI n)) hb hmb (a := nI a2) (n := 2) (A := a2) (N := 2) rfl rfl hA (by decide)
    refine Sim.out (n := n) (r := f_MMo_indexed v (nI n)) ?_ hl h13 hact hnx hn
    simp +decide only [f_XPr_perform, prI, prE, nmE, jnE, hx4, hx5, hx6, hx7, bI0, ↓reduceIte, x_val _ rfl hi, x_val _ rfl hj, x_putR _ _ rfl hi, hR, xF_R, xF_F, xR_R, xR_F, hnx, hbh, hx9, f_MMo_indexed, f_MMo_width, in_lit, f_MMo_goes, bI0, f_MMo_low, f_MMo_high, nmE, jnE, bd1S, hm10, hm8, hlo, hhi, mF_F, mA_F, mF_A, Nat.reduceEqDiff, ↓reduceIte, bd1_id, ckIN (n := 16) (A := j) rfl hj (by decide), ckIN (n := 16) (A := i) rfl hi (by decide), nI_clamp (show j < 2 ^ 31 by omega), nI_clamp (show i < 2 ^ 31 by omega), hm12, f_XAr_withHalf, f_XMe_faultOf, g1, hh, x_half u hb hxb rfl hA, f_XAr_apply, cs, ht, lN_i]
    exact sim_exact (hC.mn _) h13 hi _
theorem op_76 {u : XS} {v : MS} {s i j a1 a2 at0 : Nat} (h : Dd u v 76 s i j a1 a2 at0) : Out (f_XPr_perform u) v := by
  obtain ⟨n, hn, hnx, hbh, hact⟩ := h.act
  have hact := hact.2.1 (by decide) (by decide)
  obtain ⟨hC, ⟨-, hs, hi, hj, h1, h2⟩, ⟨hlo, hhi, hsij⟩, ⟨hx4, hm8⟩, ⟨hx5, hm10⟩, ⟨hx6, hx7⟩, hA2, hA1, hA12, ⟨h13, h0, hat⟩, -⟩ := h
  have hx4 : xF u 4 = 76 := hx4
  have hm8 : mF v 8 = 76 := hm8
  have hR : xR u = mA v 2 := hC.2.1
  obtain ⟨hx9, hm12⟩ := hA2 (by decide)
  obtain ⟨b, hb, hxb, hmb⟩ := hC.nb
  have cs : (76 : Int32) - 48 = 28 := by decide
  have lh := fun w => lies_holds w u (nI a2) (n := 2) (N := 2) rfl (by decide)
  rcases al_2 u h2 with ⟨g1, g2⟩ | ⟨g1, g2, hh⟩ | ⟨g1, g2, hh, hA⟩
  · have hl : f_MMo_looks v = some (msF v 13 6) := by simp +decide only [f_MMo_looks, f_MMo_looksAtWord, f_MMo_width, in_lit, bI0, wrong_f, f_MMo_low, f_MMo_high, nmE, jnE, bd1S, hm10, hm8, hlo, hhi, mF_F, mA_F, mF_A, Nat.reduceEqDiff, ↓reduceIte, bd1_id, ckIN (n := 16) (A := j) rfl hj (by decide), ckIN (n := 16) (A := i) rfl hi (by decide), nI_clamp (show j < 2 ^ 31 by omega), nI_clamp (show i < 2 ^ 31 by omega), hm12, ite_self, wrong_t v 6 h13, wrong_6, lh, if_neg g2, ckN32_ok (show ¬ (2 : Int32) = 0 by decide)]
    have eX : f_XPr_perform u = (6, u) := by simp +decide only [f_XPr_perform, prI, prE, nmE, jnE, hx4, hx5, hx6, hx7, bI0, ↓reduceIte, x_val _ rfl hi, x_val _ rfl hj, x_putR _ _ rfl hi, hR, xF_R, xF_F, xR_R, xR_F, hnx, hbh, hx9, f_XAr_withHalf, f_XMe_faultOf, if_neg g1]
    rw [eX]
    exact Out.no hl rfl (by unfold nok; decide) hC
  · have hl : f_MMo_looks v = some (msF v 13 5) := by simp +decide only [f_MMo_looks, f_MMo_looksAtWord, f_MMo_width, in_lit, bI0, wrong_f, f_MMo_low, f_MMo_high, nmE, jnE, bd1S, hm10, hm8, hlo, hhi, mF_F, mA_F, mF_A, Nat.reduceEqDiff, ↓reduceIte, bd1_id, ckIN (n := 16) (A := j) rfl hj (by decide), ckIN (n := 16) (A := i) rfl hi (by decide), nI_clamp (show j < 2 ^ 31 by omega), nI_clamp (show i < 2 ^ 31 by omega), hm12, ite_self, wrong_t v 5 h13, wrong_5, lh, hh, if_pos g2, ckN32_ok (show ¬ (2 : Int32) = 0 by decide)]
    have eX : f_XPr_perform u = (5, u) := by simp +decide only [f_XPr_perform, prI, prE, nmE, jnE, hx4, hx5, hx6, hx7, bI0, ↓reduceIte, x_val _ rfl hi, x_val _ rfl hj, x_putR _ _ rfl hi, hR, xF_R, xF_F, xR_R, xR_F, hnx, hbh, hx9, f_XAr_withHalf, f_XMe_faultOf, g1, hh]
    rw [eX]
    exact Out.no hl rfl (by unfold nok; decide) hC
  · have hl : f_MMo_looks v = some v := by simp +decide only [f_MMo_looks, f_MMo_looksAtWord, f_MMo_width, in_lit, bI0, wrong_f, f_MMo_low, f_MMo_high, nmE, jnE, bd1S, hm10, hm8, hlo, hhi, mF_F, mA_F, mF_A, Nat.reduceEqDiff, ↓reduceIte, bd1_id, ckIN (n := 16) (A := j) rfl hj (by decide), ckIN (n := 16) (A := i) rfl hi (by decide), nI_clamp (show j < 2 ^ 31 by omega), nI_clamp (show i < 2 ^ 31 by omega), hm12, ite_self, lh, hh, if_pos g2, ckN32_ok (show ¬ (2 : Int32) = 0 by decide)]
    have ht := m_take (msF v 2 (nI n)) hb hmb (a := nI a2) (n := 2) (A := a2) (N := 2) rfl rfl hA (by decide)
    refine Sim.out (n := n) (r := f_MMo_indexed v (nI n)) ?_ hl h13 hact hnx hn
    simp +decide only [f_XPr_perform, prI, prE, nmE, jnE, hx4, hx5, hx6, hx7, bI0, ↓reduceIte, x_val _ rfl hi, x_val _ rfl hj, x_putR _ _ rfl hi, hR, xF_R, xF_F, xR_R, xR_F, hnx, hbh, hx9, f_MMo_indexed, f_MMo_width, in_lit, f_MMo_goes, bI0, f_MMo_low, f_MMo_high, nmE, jnE, bd1S, hm10, hm8, hlo, hhi, mF_F, mA_F, mF_A, Nat.reduceEqDiff, ↓reduceIte, bd1_id, ckIN (n := 16) (A := j) rfl hj (by decide), ckIN (n := 16) (A := i) rfl hi (by decide), nI_clamp (show j < 2 ^ 31 by omega), nI_clamp (show i < 2 ^ 31 by omega), hm12, f_XAr_withHalf, f_XMe_faultOf, g1, hh, x_half u hb hxb rfl hA, f_XAr_apply, cs, ht, lN_i]
    exact Sim.mk ok0 h13 ((hC.mn _).reg _ _) rfl rfl rfl
theorem op_84 {u : XS} {v : MS} {s i j a1 a2 at0 : Nat} (h : Dd u v 84 s i j a1 a2 at0) : Out (f_XPr_perform u) v := by
  obtain ⟨n, hn, hnx, hbh, hact⟩ := h.act
  have hact := hact.2.1 (by decide) (by decide)
  obtain ⟨hC, ⟨-, hs, hi, hj, h1, h2⟩, ⟨hlo, hhi, hsij⟩, ⟨hx4, hm8⟩, ⟨hx5, hm10⟩, ⟨hx6, hx7⟩, hA2, hA1, hA12, ⟨h13, h0, hat⟩, -⟩ := h
  have hx4 : xF u 4 = 84 := hx4
  have hm8 : mF v 8 = 84 := hm8
  have hR : xR u = mA v 2 := hC.2.1
  obtain ⟨hx9, hm12⟩ := hA2 (by decide)
  obtain ⟨b, hb, hxb, hmb⟩ := hC.nb
  have lh := fun w => lies_holds w u (nI a2) (n := 4) (N := 4) rfl (by decide)
  have cs : (84 : Int32) - 64 = 20 := by decide
  rcases al_4 u h2 with ⟨g1, g2⟩ | ⟨g1, g2, hh⟩ | ⟨g1, g2, hh, hA⟩
  · have hl : f_MMo_looks v = some (msF v 13 6) := by simp +decide only [f_MMo_looks, f_MMo_looksAtWord, f_MMo_width, in_lit, bI0, wrong_f, f_MMo_low, f_MMo_high, nmE, jnE, bd1S, hm10, hm8, hlo, hhi, mF_F, mA_F, mF_A, Nat.reduceEqDiff, ↓reduceIte, bd1_id, ckIN (n := 16) (A := j) rfl hj (by decide), ckIN (n := 16) (A := i) rfl hi (by decide), nI_clamp (show j < 2 ^ 31 by omega), nI_clamp (show i < 2 ^ 31 by omega), hm12, ite_self, wrong_t v 6 h13, wrong_6, lh, if_neg g2, ckN32_ok (show ¬ (4 : Int32) = 0 by decide)]
    have eX : f_XPr_perform u = (6, u) := by simp +decide only [f_XPr_perform, prI, prE, nmE, jnE, hx4, hx5, hx6, hx7, bI0, ↓reduceIte, x_val _ rfl hi, x_val _ rfl hj, x_putR _ _ rfl hi, hR, xF_R, xF_F, xR_R, xR_F, hnx, hbh, hx9, f_XPr_performRegular, f_XAr_withWord, f_XAr_lacksPair, f_XMe_faultOf, cs, if_neg g1]
    rw [eX]
    exact Out.no hl rfl (by unfold nok; decide) hC
  · have hl : f_MMo_looks v = some (msF v 13 5) := by simp +decide only [f_MMo_looks, f_MMo_looksAtWord, f_MMo_width, in_lit, bI0, wrong_f, f_MMo_low, f_MMo_high, nmE, jnE, bd1S, hm10, hm8, hlo, hhi, mF_F, mA_F, mF_A, Nat.reduceEqDiff, ↓reduceIte, bd1_id, ckIN (n := 16) (A := j) rfl hj (by decide), ckIN (n := 16) (A := i) rfl hi (by decide), nI_clamp (show j < 2 ^ 31 by omega), nI_clamp (show i < 2 ^ 31 by omega), hm12, ite_self, wrong_t v 5 h13, wrong_5, lh, hh, if_pos g2, ckN32_ok (show ¬ (4 : Int32) = 0 by decide)]
    have eX : f_XPr_perform u = (5, u) := by simp +decide only [f_XPr_perform, prI, prE, nmE, jnE, hx4, hx5, hx6, hx7, bI0, ↓reduceIte, x_val _ rfl hi, x_val _ rfl hj, x_putR _ _ rfl hi, hR, xF_R, xF_F, xR_R, xR_F, hnx, hbh, hx9, f_XPr_performRegular, f_XAr_withWord, f_XAr_lacksPair, f_XMe_faultOf, cs, g1, hh]
    rw [eX]
    exact Out.no hl rfl (by unfold nok; decide) hC
  · have hl : f_MMo_looks v = some v := by simp +decide only [f_MMo_looks, f_MMo_looksAtWord, f_MMo_width, in_lit, bI0, wrong_f, f_MMo_low, f_MMo_high, nmE, jnE, bd1S, hm10, hm8, hlo, hhi, mF_F, mA_F, mF_A, Nat.reduceEqDiff, ↓reduceIte, bd1_id, ckIN (n := 16) (A := j) rfl hj (by decide), ckIN (n := 16) (A := i) rfl hi (by decide), nI_clamp (show j < 2 ^ 31 by omega), nI_clamp (show i < 2 ^ 31 by omega), hm12, ite_self, lh, hh, if_pos g2, ckN32_ok (show ¬ (4 : Int32) = 0 by decide)]
    have ht := m_take (msF v 2 (nI n)) hb hmb (a := nI a2) (n := 4) (A := a2) (N := 4) rfl rfl hA (by decide)
    refine Sim.out (n := n) (r := f_MMo_indexed v (nI n)) ?_ hl h13 hact hnx hn
    simp +decide only [f_XPr_perform, prI, prE, nmE, jnE, hx4, hx5, hx6, hx7, bI0, ↓reduceIte, x_val _ rfl hi, x_val _ rfl hj, x_putR _ _ rfl hi, hR, xF_R, xF_F, xR_R, xR_F, hnx, hbh, hx9, f_MMo_indexed, f_MMo_width, in_lit, f_MMo_goes, bI0, f_MMo_low, f_MMo_high, nmE, jnE, bd1S, hm10, hm8, hlo, hhi, mF_F, mA_F, mF_A, Nat.reduceEqDiff, ↓reduceIte, bd1_id, ckIN (n := 16) (A := j) rfl hj (by decide), ckIN (n := 16) (A := i) rfl hi (by decide), nI_clamp (show j < 2 ^ 31 by omega), nI_clamp (show i < 2 ^ 31 by omega), hm12, f_XPr_performRegular, f_XAr_withWord, f_XAr_lacksPair, f_XMe_faultOf, cs, g1, hh, x_word u hb hxb rfl hA, f_XAr_apply, ht, lN_i, f_MMo_reckons, msA_at, f_MMo_bare]
    exact sim_bits (hC.mn _) h13 hi _
theorem op_85 {u : XS} {v : MS} {s i j a1 a2 at0 : Nat} (h : Dd u v 85 s i j a1 a2 at0) : Out (f_XPr_perform u) v := by
  obtain ⟨n, hn, hnx, hbh, hact⟩ := h.act
  have hact := hact.2.1 (by decide) (by decide)
  obtain ⟨hC, ⟨-, hs, hi, hj, h1, h2⟩, ⟨hlo, hhi, hsij⟩, ⟨hx4, hm8⟩, ⟨hx5, hm10⟩, ⟨hx6, hx7⟩, hA2, hA1, hA12, ⟨h13, h0, hat⟩, -⟩ := h
  have hx4 : xF u 4 = 85 := hx4
  have hm8 : mF v 8 = 85 := hm8
  have hR : xR u = mA v 2 := hC.2.1
  obtain ⟨hx9, hm12⟩ := hA2 (by decide)
  obtain ⟨b, hb, hxb, hmb⟩ := hC.nb
  have lh := fun w => lies_holds w u (nI a2) (n := 4) (N := 4) rfl (by decide)
  have cs : (85 : Int32) - 64 = 21 := by decide
  rcases al_4 u h2 with ⟨g1, g2⟩ | ⟨g1, g2, hh⟩ | ⟨g1, g2, hh, hA⟩
  · have hl : f_MMo_looks v = some (msF v 13 6) := by simp +decide only [f_MMo_looks, f_MMo_looksAtWord, f_MMo_width, in_lit, bI0, wrong_f, f_MMo_low, f_MMo_high, nmE, jnE, bd1S, hm10, hm8, hlo, hhi, mF_F, mA_F, mF_A, Nat.reduceEqDiff, ↓reduceIte, bd1_id, ckIN (n := 16) (A := j) rfl hj (by decide), ckIN (n := 16) (A := i) rfl hi (by decide), nI_clamp (show j < 2 ^ 31 by omega), nI_clamp (show i < 2 ^ 31 by omega), hm12, ite_self, wrong_t v 6 h13, wrong_6, lh, if_neg g2, ckN32_ok (show ¬ (4 : Int32) = 0 by decide)]
    have eX : f_XPr_perform u = (6, u) := by simp +decide only [f_XPr_perform, prI, prE, nmE, jnE, hx4, hx5, hx6, hx7, bI0, ↓reduceIte, x_val _ rfl hi, x_val _ rfl hj, x_putR _ _ rfl hi, hR, xF_R, xF_F, xR_R, xR_F, hnx, hbh, hx9, f_XPr_performRegular, f_XAr_withWord, f_XAr_lacksPair, f_XMe_faultOf, cs, if_neg g1]
    rw [eX]
    exact Out.no hl rfl (by unfold nok; decide) hC
  · have hl : f_MMo_looks v = some (msF v 13 5) := by simp +decide only [f_MMo_looks, f_MMo_looksAtWord, f_MMo_width, in_lit, bI0, wrong_f, f_MMo_low, f_MMo_high, nmE, jnE, bd1S, hm10, hm8, hlo, hhi, mF_F, mA_F, mF_A, Nat.reduceEqDiff, ↓reduceIte, bd1_id, ckIN (n := 16) (A := j) rfl hj (by decide), ckIN (n := 16) (A := i) rfl hi (by decide), nI_clamp (show j < 2 ^ 31 by omega), nI_clamp (show i < 2 ^ 31 by omega), hm12, ite_self, wrong_t v 5 h13, wrong_5, lh, hh, if_pos g2, ckN32_ok (show ¬ (4 : Int32) = 0 by decide)]
    have eX : f_XPr_perform u = (5, u) := by simp +decide only [f_XPr_perform, prI, prE, nmE, jnE, hx4, hx5, hx6, hx7, bI0, ↓reduceIte, x_val _ rfl hi, x_val _ rfl hj, x_putR _ _ rfl hi, hR, xF_R, xF_F, xR_R, xR_F, hnx, hbh, hx9, f_XPr_performRegular, f_XAr_withWord, f_XAr_lacksPair, f_XMe_faultOf, cs, g1, hh]
    rw [eX]
    exact Out.no hl rfl (by unfold nok; decide) hC
  · have hl : f_MMo_looks v = some v := by simp +decide only [f_MMo_looks, f_MMo_looksAtWord, f_MMo_width, in_lit, bI0, wrong_f, f_MMo_low, f_MMo_high, nmE, jnE, bd1S, hm10, hm8, hlo, hhi, mF_F, mA_F, mF_A, Nat.reduceEqDiff, ↓reduceIte, bd1_id, ckIN (n := 16) (A := j) rfl hj (by decide), ckIN (n := 16) (A := i) rfl hi (by decide), nI_clamp (show j < 2 ^ 31 by omega), nI_clamp (show i < 2 ^ 31 by omega), hm12, ite_self, lh, hh, if_pos g2, ckN32_ok (show ¬ (4 : Int32) = 0 by decide)]
    have ht := m_take (msF v 2 (nI n)) hb hmb (a := nI a2) (n := 4) (A := a2) (N := 4) rfl rfl hA (by decide)
    refine Sim.out (n := n) (r := f_MMo_indexed v (nI n)) ?_ hl h13 hact hnx hn
    simp +decide only [f_XPr_perform, prI, prE, nmE, jnE, hx4, hx5, hx6, hx7, bI0, ↓reduceIte, x_val _ rfl hi, x_val _ rfl hj, x_putR _ _ rfl hi, hR, xF_R, xF_F, xR_R, xR_F, hnx, hbh, hx9, f_MMo_indexed, f_MMo_width, in_lit, f_MMo_goes, bI0, f_MMo_low, f_MMo_high, nmE, jnE, bd1S, hm10, hm8, hlo, hhi, mF_F, mA_F, mF_A, Nat.reduceEqDiff, ↓reduceIte, bd1_id, ckIN (n := 16) (A := j) rfl hj (by decide), ckIN (n := 16) (A := i) rfl hi (by decide), nI_clamp (show j < 2 ^ 31 by omega), nI_clamp (show i < 2 ^ 31 by omega), hm12, f_XPr_performRegular, f_XAr_withWord, f_XAr_lacksPair, f_XMe_faultOf, cs, g1, hh, x_word u hb hxb rfl hA, f_XAr_apply, ht, lN_i, f_MMo_reckons, msA_at, f_MMo_bare]
    exact sim_comp (hC.mn _) h13 (bare_small _) (bare_small _)
theorem op_86 {u : XS} {v : MS} {s i j a1 a2 at0 : Nat} (h : Dd u v 86 s i j a1 a2 at0) : Out (f_XPr_perform u) v := by
  obtain ⟨n, hn, hnx, hbh, hact⟩ := h.act
  have hact := hact.2.1 (by decide) (by decide)
  obtain ⟨hC, ⟨-, hs, hi, hj, h1, h2⟩, ⟨hlo, hhi, hsij⟩, ⟨hx4, hm8⟩, ⟨hx5, hm10⟩, ⟨hx6, hx7⟩, hA2, hA1, hA12, ⟨h13, h0, hat⟩, -⟩ := h
  have hx4 : xF u 4 = 86 := hx4
  have hm8 : mF v 8 = 86 := hm8
  have hR : xR u = mA v 2 := hC.2.1
  obtain ⟨hx9, hm12⟩ := hA2 (by decide)
  obtain ⟨b, hb, hxb, hmb⟩ := hC.nb
  have lh := fun w => lies_holds w u (nI a2) (n := 4) (N := 4) rfl (by decide)
  have cs : (86 : Int32) - 64 = 22 := by decide
  rcases al_4 u h2 with ⟨g1, g2⟩ | ⟨g1, g2, hh⟩ | ⟨g1, g2, hh, hA⟩
  · have hl : f_MMo_looks v = some (msF v 13 6) := by simp +decide only [f_MMo_looks, f_MMo_looksAtWord, f_MMo_width, in_lit, bI0, wrong_f, f_MMo_low, f_MMo_high, nmE, jnE, bd1S, hm10, hm8, hlo, hhi, mF_F, mA_F, mF_A, Nat.reduceEqDiff, ↓reduceIte, bd1_id, ckIN (n := 16) (A := j) rfl hj (by decide), ckIN (n := 16) (A := i) rfl hi (by decide), nI_clamp (show j < 2 ^ 31 by omega), nI_clamp (show i < 2 ^ 31 by omega), hm12, ite_self, wrong_t v 6 h13, wrong_6, lh, if_neg g2, ckN32_ok (show ¬ (4 : Int32) = 0 by decide)]
    have eX : f_XPr_perform u = (6, u) := by simp +decide only [f_XPr_perform, prI, prE, nmE, jnE, hx4, hx5, hx6, hx7, bI0, ↓reduceIte, x_val _ rfl hi, x_val _ rfl hj, x_putR _ _ rfl hi, hR, xF_R, xF_F, xR_R, xR_F, hnx, hbh, hx9, f_XPr_performRegular, f_XAr_withWord, f_XAr_lacksPair, f_XMe_faultOf, cs, if_neg g1]
    rw [eX]
    exact Out.no hl rfl (by unfold nok; decide) hC
  · have hl : f_MMo_looks v = some (msF v 13 5) := by simp +decide only [f_MMo_looks, f_MMo_looksAtWord, f_MMo_width, in_lit, bI0, wrong_f, f_MMo_low, f_MMo_high, nmE, jnE, bd1S, hm10, hm8, hlo, hhi, mF_F, mA_F, mF_A, Nat.reduceEqDiff, ↓reduceIte, bd1_id, ckIN (n := 16) (A := j) rfl hj (by decide), ckIN (n := 16) (A := i) rfl hi (by decide), nI_clamp (show j < 2 ^ 31 by omega), nI_clamp (show i < 2 ^ 31 by omega), hm12, ite_self, wrong_t v 5 h13, wrong_5, lh, hh, if_pos g2, ckN32_ok (show ¬ (4 : Int32) = 0 by decide)]
    have eX : f_XPr_perform u = (5, u) := by simp +decide only [f_XPr_perform, prI, prE, nmE, jnE, hx4, hx5, hx6, hx7, bI0, ↓reduceIte, x_val _ rfl hi, x_val _ rfl hj, x_putR _ _ rfl hi, hR, xF_R, xF_F, xR_R, xR_F, hnx, hbh, hx9, f_XPr_performRegular, f_XAr_withWord, f_XAr_lacksPair, f_XMe_faultOf, cs, g1, hh]
    rw [eX]
    exact Out.no hl rfl (by unfold nok; decide) hC
  · have hl : f_MMo_looks v = some v := by simp +decide only [f_MMo_looks, f_MMo_looksAtWord, f_MMo_width, in_lit, bI0, wrong_f, f_MMo_low, f_MMo_high, nmE, jnE, bd1S, hm10, hm8, hlo, hhi, mF_F, mA_F, mF_A, Nat.reduceEqDiff, ↓reduceIte, bd1_id, ckIN (n := 16) (A := j) rfl hj (by decide), ckIN (n := 16) (A := i) rfl hi (by decide), nI_clamp (show j < 2 ^ 31 by omega), nI_clamp (show i < 2 ^ 31 by omega), hm12, ite_self, lh, hh, if_pos g2, ckN32_ok (show ¬ (4 : Int32) = 0 by decide)]
    have ht := m_take (msF v 2 (nI n)) hb hmb (a := nI a2) (n := 4) (A := a2) (N := 4) rfl rfl hA (by decide)
    refine Sim.out (n := n) (r := f_MMo_indexed v (nI n)) ?_ hl h13 hact hnx hn
    simp +decide only [f_XPr_perform, prI, prE, nmE, jnE, hx4, hx5, hx6, hx7, bI0, ↓reduceIte, x_val _ rfl hi, x_val _ rfl hj, x_putR _ _ rfl hi, hR, xF_R, xF_F, xR_R, xR_F, hnx, hbh, hx9, f_MMo_indexed, f_MMo_width, in_lit, f_MMo_goes, bI0, f_MMo_low, f_MMo_high, nmE, jnE, bd1S, hm10, hm8, hlo, hhi, mF_F, mA_F, mF_A, Nat.reduceEqDiff, ↓reduceIte, bd1_id, ckIN (n := 16) (A := j) rfl hj (by decide), ckIN (n := 16) (A := i) rfl hi (by decide), nI_clamp (show j < 2 ^ 31 by omega), nI_clamp (show i < 2 ^ 31 by omega), hm12, f_XPr_performRegular, f_XAr_withWord, f_XAr_lacksPair, f_XMe_faultOf, cs, g1, hh, x_word u hb hxb rfl hA, f_XAr_apply, ht, lN_i, f_MMo_reckons, msA_at, f_MMo_bare]
    exact sim_bits (hC.mn _) h13 hi _
theorem op_87 {u : XS} {v : MS} {s i j a1 a2 at0 : Nat} (h : Dd u v 87 s i j a1 a2 at0) : Out (f_XPr_perform u) v := by
  obtain ⟨n, hn, hnx, hbh, hact⟩ := h.act
  have hact := hact.2.1 (by decide) (by decide)
  obtain ⟨hC, ⟨-, hs, hi, hj, h1, h2⟩, ⟨hlo, hhi, hsij⟩, ⟨hx4, hm8⟩, ⟨hx5, hm10⟩, ⟨hx6, hx7⟩, hA2, hA1, hA12, ⟨h13, h0, hat⟩, -⟩ := h
  have hx4 : xF u 4 = 87 := hx4
  have hm8 : mF v 8 = 87 := hm8
  have hR : xR u = mA v 2 := hC.2.1
  obtain ⟨hx9, hm12⟩ := hA2 (by decide)
  obtain ⟨b, hb, hxb, hmb⟩ := hC.nb
  have lh := fun w => lies_holds w u (nI a2) (n := 4) (N := 4) rfl (by decide)
  have cs : (87 : Int32) - 64 = 23 := by decide
  rcases al_4 u h2 with ⟨g1, g2⟩ | ⟨g1, g2, hh⟩ | ⟨g1, g2, hh, hA⟩
  · have hl : f_MMo_looks v = some (msF v 13 6) := by simp +decide only [f_MMo_looks, f_MMo_looksAtWord, f_MMo_width, in_lit, bI0, wrong_f, f_MMo_low, f_MMo_high, nmE, jnE, bd1S, hm10, hm8, hlo, hhi, mF_F, mA_F, mF_A, Nat.reduceEqDiff, ↓reduceIte, bd1_id, ckIN (n := 16) (A := j) rfl hj (by decide), ckIN (n := 16) (A := i) rfl hi (by decide), nI_clamp (show j < 2 ^ 31 by omega), nI_clamp (show i < 2 ^ 31 by omega), hm12, ite_self, wrong_t v 6 h13, wrong_6, lh, if_neg g2, ckN32_ok (show ¬ (4 : Int32) = 0 by decide)]
    have eX : f_XPr_perform u = (6, u) := by simp +decide only [f_XPr_perform, prI, prE, nmE, jnE, hx4, hx5, hx6, hx7, bI0, ↓reduceIte, x_val _ rfl hi, x_val _ rfl hj, x_putR _ _ rfl hi, hR, xF_R, xF_F, xR_R, xR_F, hnx, hbh, hx9, f_XPr_performRegular, f_XAr_withWord, f_XAr_lacksPair, f_XMe_faultOf, cs, if_neg g1]
    rw [eX]
    exact Out.no hl rfl (by unfold nok; decide) hC
  · have hl : f_MMo_looks v = some (msF v 13 5) := by simp +decide only [f_MMo_looks, f_MMo_looksAtWord, f_MMo_width, in_lit, bI0, wrong_f, f_MMo_low, f_MMo_high, nmE, jnE, bd1S, hm10, hm8, hlo, hhi, mF_F, mA_F, mF_A, Nat.reduceEqDiff, ↓reduceIte, bd1_id, ckIN (n := 16) (A := j) rfl hj (by decide), ckIN (n := 16) (A := i) rfl hi (by decide), nI_clamp (show j < 2 ^ 31 by omega), nI_clamp (show i < 2 ^ 31 by omega), hm12, ite_self, wrong_t v 5 h13, wrong_5, lh, hh, if_pos g2, ckN32_ok (show ¬ (4 : Int32) = 0 by decide)]
    have eX : f_XPr_perform u = (5, u) := by simp +decide only [f_XPr_perform, prI, prE, nmE, jnE, hx4, hx5, hx6, hx7, bI0, ↓reduceIte, x_val _ rfl hi, x_val _ rfl hj, x_putR _ _ rfl hi, hR, xF_R, xF_F, xR_R, xR_F, hnx, hbh, hx9, f_XPr_performRegular, f_XAr_withWord, f_XAr_lacksPair, f_XMe_faultOf, cs, g1, hh]
    rw [eX]
    exact Out.no hl rfl (by unfold nok; decide) hC
  · have hl : f_MMo_looks v = some v := by simp +decide only [f_MMo_looks, f_MMo_looksAtWord, f_MMo_width, in_lit, bI0, wrong_f, f_MMo_low, f_MMo_high, nmE, jnE, bd1S, hm10, hm8, hlo, hhi, mF_F, mA_F, mF_A, Nat.reduceEqDiff, ↓reduceIte, bd1_id, ckIN (n := 16) (A := j) rfl hj (by decide), ckIN (n := 16) (A := i) rfl hi (by decide), nI_clamp (show j < 2 ^ 31 by omega), nI_clamp (show i < 2 ^ 31 by omega), hm12, ite_self, lh, hh, if_pos g2, ckN32_ok (show ¬ (4 : Int32) = 0 by decide)]
    have ht := m_take (msF v 2 (nI n)) hb hmb (a := nI a2) (n := 4) (A := a2) (N := 4) rfl rfl hA (by decide)
    refine Sim.out (n := n) (r := f_MMo_indexed v (nI n)) ?_ hl h13 hact hnx hn
    simp +decide only [f_XPr_perform, prI, prE, nmE, jnE, hx4, hx5, hx6, hx7, bI0, ↓reduceIte, x_val _ rfl hi, x_val _ rfl hj, x_putR _ _ rfl hi, hR, xF_R, xF_F, xR_R, xR_F, hnx, hbh, hx9, f_MMo_indexed, f_MMo_width, in_lit, f_MMo_goes, bI0, f_MMo_low, f_MMo_high, nmE, jnE, bd1S, hm10, hm8, hlo, hhi, mF_F, mA_F, mF_A, Nat.reduceEqDiff, ↓reduceIte, bd1_id, ckIN (n := 16) (A := j) rfl hj (by decide), ckIN (n := 16) (A := i) rfl hi (by decide), nI_clamp (show j < 2 ^ 31 by omega), nI_clamp (show i < 2 ^ 31 by omega), hm12, f_XPr_performRegular, f_XAr_withWord, f_XAr_lacksPair, f_XMe_faultOf, cs, g1, hh, x_word u hb hxb rfl hA, f_XAr_apply, ht, lN_i, f_MMo_reckons, msA_at, f_MMo_bare]
    exact sim_bits (hC.mn _) h13 hi _
theorem op_88 {u : XS} {v : MS} {s i j a1 a2 at0 : Nat} (h : Dd u v 88 s i j a1 a2 at0) : Out (f_XPr_perform u) v := by
  obtain ⟨n, hn, hnx, hbh, hact⟩ := h.act
  have hact := hact.2.1 (by decide) (by decide)
  obtain ⟨hC, ⟨-, hs, hi, hj, h1, h2⟩, ⟨hlo, hhi, hsij⟩, ⟨hx4, hm8⟩, ⟨hx5, hm10⟩, ⟨hx6, hx7⟩, hA2, hA1, hA12, ⟨h13, h0, hat⟩, -⟩ := h
  have hx4 : xF u 4 = 88 := hx4
  have hm8 : mF v 8 = 88 := hm8
  have hR : xR u = mA v 2 := hC.2.1
  obtain ⟨hx9, hm12⟩ := hA2 (by decide)
  obtain ⟨b, hb, hxb, hmb⟩ := hC.nb
  have lh := fun w => lies_holds w u (nI a2) (n := 4) (N := 4) rfl (by decide)
  have cs : (88 : Int32) - 64 = 24 := by decide
  rcases al_4 u h2 with ⟨g1, g2⟩ | ⟨g1, g2, hh⟩ | ⟨g1, g2, hh, hA⟩
  · have hl : f_MMo_looks v = some (msF v 13 6) := by simp +decide only [f_MMo_looks, f_MMo_looksAtWord, f_MMo_width, in_lit, bI0, wrong_f, f_MMo_low, f_MMo_high, nmE, jnE, bd1S, hm10, hm8, hlo, hhi, mF_F, mA_F, mF_A, Nat.reduceEqDiff, ↓reduceIte, bd1_id, ckIN (n := 16) (A := j) rfl hj (by decide), ckIN (n := 16) (A := i) rfl hi (by decide), nI_clamp (show j < 2 ^ 31 by omega), nI_clamp (show i < 2 ^ 31 by omega), hm12, ite_self, wrong_t v 6 h13, wrong_6, lh, if_neg g2, ckN32_ok (show ¬ (4 : Int32) = 0 by decide)]
    have eX : f_XPr_perform u = (6, u) := by simp +decide only [f_XPr_perform, prI, prE, nmE, jnE, hx4, hx5, hx6, hx7, bI0, ↓reduceIte, x_val _ rfl hi, x_val _ rfl hj, x_putR _ _ rfl hi, hR, xF_R, xF_F, xR_R, xR_F, hnx, hbh, hx9, f_XPr_performRegular, f_XAr_withWord, f_XAr_lacksPair, f_XMe_faultOf, cs, if_neg g1]
    rw [eX]
    exact Out.no hl rfl (by unfold nok; decide) hC
  · have hl : f_MMo_looks v = some (msF v 13 5) := by simp +decide only [f_MMo_looks, f_MMo_looksAtWord, f_MMo_width, in_lit, bI0, wrong_f, f_MMo_low, f_MMo_high, nmE, jnE, bd1S, hm10, hm8, hlo, hhi, mF_F, mA_F, mF_A, Nat.reduceEqDiff, ↓reduceIte, bd1_id, ckIN (n := 16) (A := j) rfl hj (by decide), ckIN (n := 16) (A := i) rfl hi (by decide), nI_clamp (show j < 2 ^ 31 by omega), nI_clamp (show i < 2 ^ 31 by omega), hm12, ite_self, wrong_t v 5 h13, wrong_5, lh, hh, if_pos g2, ckN32_ok (show ¬ (4 : Int32) = 0 by decide)]
    have eX : f_XPr_perform u = (5, u) := by simp +decide only [f_XPr_perform, prI, prE, nmE, jnE, hx4, hx5, hx6, hx7, bI0, ↓reduceIte, x_val _ rfl hi, x_val _ rfl hj, x_putR _ _ rfl hi, hR, xF_R, xF_F, xR_R, xR_F, hnx, hbh, hx9, f_XPr_performRegular, f_XAr_withWord, f_XAr_lacksPair, f_XMe_faultOf, cs, g1, hh]
    rw [eX]
    exact Out.no hl rfl (by unfold nok; decide) hC
  · have hl : f_MMo_looks v = some v := by simp +decide only [f_MMo_looks, f_MMo_looksAtWord, f_MMo_width, in_lit, bI0, wrong_f, f_MMo_low, f_MMo_high, nmE, jnE, bd1S, hm10, hm8, hlo, hhi, mF_F, mA_F, mF_A, Nat.reduceEqDiff, ↓reduceIte, bd1_id, ckIN (n := 16) (A := j) rfl hj (by decide), ckIN (n := 16) (A := i) rfl hi (by decide), nI_clamp (show j < 2 ^ 31 by omega), nI_clamp (show i < 2 ^ 31 by omega), hm12, ite_self, lh, hh, if_pos g2, ckN32_ok (show ¬ (4 : Int32) = 0 by decide)]
    have ht := m_take (msF v 2 (nI n)) hb hmb (a := nI a2) (n := 4) (A := a2) (N := 4) rfl rfl hA (by decide)
    refine Sim.out (n := n) (r := f_MMo_indexed v (nI n)) ?_ hl h13 hact hnx hn
    simp +decide only [f_XPr_perform, prI, prE, nmE, jnE, hx4, hx5, hx6, hx7, bI0, ↓reduceIte, x_val _ rfl hi, x_val _ rfl hj, x_putR _ _ rfl hi, hR, xF_R, xF_F, xR_R, xR_F, hnx, hbh, hx9, f_MMo_indexed, f_MMo_width, in_lit, f_MMo_goes, bI0, f_MMo_low, f_MMo_high, nmE, jnE, bd1S, hm10, hm8, hlo, hhi, mF_F, mA_F, mF_A, Nat.reduceEqDiff, ↓reduceIte, bd1_id, ckIN (n := 16) (A := j) rfl hj (by decide), ckIN (n := 16) (A := i) rfl hi (by decide), nI_clamp (show j < 2 ^ 31 by omega), nI_clamp (show i < 2 ^ 31 by omega), hm12, f_XPr_performRegular, f_XAr_withWord, f_XAr_lacksPair, f_XMe_faultOf, cs, g1, hh, x_word u hb hxb rfl hA, f_XAr_apply, ht, lN_i, f_MMo_reckons, msA_at, f_MMo_bare]
    exact sim_load (hC.mn _) h13 hi _
theorem op_89 {u : XS} {v : MS} {s i j a1 a2 at0 : Nat} (h : Dd u v 89 s i j a1 a2 at0) : Out (f_XPr_perform u) v := by
  obtain ⟨n, hn, hnx, hbh, hact⟩ := h.act
  have hact := hact.2.1 (by decide) (by decide)
  obtain ⟨hC, ⟨-, hs, hi, hj, h1, h2⟩, ⟨hlo, hhi, hsij⟩, ⟨hx4, hm8⟩, ⟨hx5, hm10⟩, ⟨hx6, hx7⟩, hA2, hA1, hA12, ⟨h13, h0, hat⟩, -⟩ := h
  have hx4 : xF u 4 = 89 := hx4
  have hm8 : mF v 8 = 89 := hm8
  have hR : xR u = mA v 2 := hC.2.1
  obtain ⟨hx9, hm12⟩ := hA2 (by decide)
  obtain ⟨b, hb, hxb, hmb⟩ := hC.nb
  have lh := fun w => lies_holds w u (nI a2) (n := 4) (N := 4) rfl (by decide)
  have cs : (89 : Int32) - 64 = 25 := by decide
  rcases al_4 u h2 with ⟨g1, g2⟩ | ⟨g1, g2, hh⟩ | ⟨g1, g2, hh, hA⟩
  · have hl : f_MMo_looks v = some (msF v 13 6) := by simp +decide only [f_MMo_looks, f_MMo_looksAtWord, f_MMo_width, in_lit, bI0, wrong_f, f_MMo_low, f_MMo_high, nmE, jnE, bd1S, hm10, hm8, hlo, hhi, mF_F, mA_F, mF_A, Nat.reduceEqDiff, ↓reduceIte, bd1_id, ckIN (n := 16) (A := j) rfl hj (by decide), ckIN (n := 16) (A := i) rfl hi (by decide), nI_clamp (show j < 2 ^ 31 by omega), nI_clamp (show i < 2 ^ 31 by omega), hm12, ite_self, wrong_t v 6 h13, wrong_6, lh, if_neg g2, ckN32_ok (show ¬ (4 : Int32) = 0 by decide)]
    have eX : f_XPr_perform u = (6, u) := by simp +decide only [f_XPr_perform, prI, prE, nmE, jnE, hx4, hx5, hx6, hx7, bI0, ↓reduceIte, x_val _ rfl hi, x_val _ rfl hj, x_putR _ _ rfl hi, hR, xF_R, xF_F, xR_R, xR_F, hnx, hbh, hx9, f_XPr_performRegular, f_XAr_withWord, f_XAr_lacksPair, f_XMe_faultOf, cs, if_neg g1]
    rw [eX]
    exact Out.no hl rfl (by unfold nok; decide) hC
  · have hl : f_MMo_looks v = some (msF v 13 5) := by simp +decide only [f_MMo_looks, f_MMo_looksAtWord, f_MMo_width, in_lit, bI0, wrong_f, f_MMo_low, f_MMo_high, nmE, jnE, bd1S, hm10, hm8, hlo, hhi, mF_F, mA_F, mF_A, Nat.reduceEqDiff, ↓reduceIte, bd1_id, ckIN (n := 16) (A := j) rfl hj (by decide), ckIN (n := 16) (A := i) rfl hi (by decide), nI_clamp (show j < 2 ^ 31 by omega), nI_clamp (show i < 2 ^ 31 by omega), hm12, ite_self, wrong_t v 5 h13, wrong_5, lh, hh, if_pos g2, ckN32_ok (show ¬ (4 : Int32) = 0 by decide)]
    have eX : f_XPr_perform u = (5, u) := by simp +decide only [f_XPr_perform, prI, prE, nmE, jnE, hx4, hx5, hx6, hx7, bI0, ↓reduceIte, x_val _ rfl hi, x_val _ rfl hj, x_putR _ _ rfl hi, hR, xF_R, xF_F, xR_R, xR_F, hnx, hbh, hx9, f_XPr_performRegular, f_XAr_withWord, f_XAr_lacksPair, f_XMe_faultOf, cs, g1, hh]
    rw [eX]
    exact Out.no hl rfl (by unfold nok; decide) hC
  · have hl : f_MMo_looks v = some v := by simp +decide only [f_MMo_looks, f_MMo_looksAtWord, f_MMo_width, in_lit, bI0, wrong_f, f_MMo_low, f_MMo_high, nmE, jnE, bd1S, hm10, hm8, hlo, hhi, mF_F, mA_F, mF_A, Nat.reduceEqDiff, ↓reduceIte, bd1_id, ckIN (n := 16) (A := j) rfl hj (by decide), ckIN (n := 16) (A := i) rfl hi (by decide), nI_clamp (show j < 2 ^ 31 by omega), nI_clamp (show i < 2 ^ 31 by omega), hm12, ite_self, lh, hh, if_pos g2, ckN32_ok (show ¬ (4 : Int32) = 0 by decide)]
    have ht := m_take (msF v 2 (nI n)) hb hmb (a := nI a2) (n := 4) (A := a2) (N := 4) rfl rfl hA (by decide)
    refine Sim.out (n := n) (r := f_MMo_indexed v (nI n)) ?_ hl h13 hact hnx hn
    simp +decide only [f_XPr_perform, prI, prE, nmE, jnE, hx4, hx5, hx6, hx7, bI0, ↓reduceIte, x_val _ rfl hi, x_val _ rfl hj, x_putR _ _ rfl hi, hR, xF_R, xF_F, xR_R, xR_F, hnx, hbh, hx9, f_MMo_indexed, f_MMo_width, in_lit, f_MMo_goes, bI0, f_MMo_low, f_MMo_high, nmE, jnE, bd1S, hm10, hm8, hlo, hhi, mF_F, mA_F, mF_A, Nat.reduceEqDiff, ↓reduceIte, bd1_id, ckIN (n := 16) (A := j) rfl hj (by decide), ckIN (n := 16) (A := i) rfl hi (by decide), nI_clamp (show j < 2 ^ 31 by omega), nI_clamp (show i < 2 ^ 31 by omega), hm12, f_XPr_performRegular, f_XAr_withWord, f_XAr_lacksPair, f_XMe_faultOf, cs, g1, hh, x_word u hb hxb rfl hA, f_XAr_apply, ht, lN_i, f_MMo_reckons, msA_at, f_MMo_bare]
    exact sim_comp (hC.mn _) h13 (i32_small _) (i32_small _)
theorem op_90 {u : XS} {v : MS} {s i j a1 a2 at0 : Nat} (h : Dd u v 90 s i j a1 a2 at0) : Out (f_XPr_perform u) v := by
  obtain ⟨n, hn, hnx, hbh, hact⟩ := h.act
  have hact := hact.2.1 (by decide) (by decide)
  obtain ⟨hC, ⟨-, hs, hi, hj, h1, h2⟩, ⟨hlo, hhi, hsij⟩, ⟨hx4, hm8⟩, ⟨hx5, hm10⟩, ⟨hx6, hx7⟩, hA2, hA1, hA12, ⟨h13, h0, hat⟩, -⟩ := h
  have hx4 : xF u 4 = 90 := hx4
  have hm8 : mF v 8 = 90 := hm8
  have hR : xR u = mA v 2 := hC.2.1
  obtain ⟨hx9, hm12⟩ := hA2 (by decide)
  obtain ⟨b, hb, hxb, hmb⟩ := hC.nb
  have lh := fun w => lies_holds w u (nI a2) (n := 4) (N := 4) rfl (by decide)
  have cs : (90 : Int32) - 64 = 26 := by decide
  rcases al_4 u h2 with ⟨g1, g2⟩ | ⟨g1, g2, hh⟩ | ⟨g1, g2, hh, hA⟩
  · have hl : f_MMo_looks v = some (msF v 13 6) := by simp +decide only [f_MMo_looks, f_MMo_looksAtWord, f_MMo_width, in_lit, bI0, wrong_f, f_MMo_low, f_MMo_high, nmE, jnE, bd1S, hm10, hm8, hlo, hhi, mF_F, mA_F, mF_A, Nat.reduceEqDiff, ↓reduceIte, bd1_id, ckIN (n := 16) (A := j) rfl hj (by decide), ckIN (n := 16) (A := i) rfl hi (by decide), nI_clamp (show j < 2 ^ 31 by omega), nI_clamp (show i < 2 ^ 31 by omega), hm12, ite_self, wrong_t v 6 h13, wrong_6, lh, if_neg g2, ckN32_ok (show ¬ (4 : Int32) = 0 by decide)]
    have eX : f_XPr_perform u = (6, u) := by simp +decide only [f_XPr_perform, prI, prE, nmE, jnE, hx4, hx5, hx6, hx7, bI0, ↓reduceIte, x_val _ rfl hi, x_val _ rfl hj, x_putR _ _ rfl hi, hR, xF_R, xF_F, xR_R, xR_F, hnx, hbh, hx9, f_XPr_performRegular, f_XAr_withWord, f_XAr_lacksPair, f_XMe_faultOf, cs, if_neg g1]
    rw [eX]
    exact Out.no hl rfl (by unfold nok; decide) hC
  · have hl : f_MMo_looks v = some (msF v 13 5) := by simp +decide only [f_MMo_looks, f_MMo_looksAtWord, f_MMo_width, in_lit, bI0, wrong_f, f_MMo_low, f_MMo_high, nmE, jnE, bd1S, hm10, hm8, hlo, hhi, mF_F, mA_F, mF_A, Nat.reduceEqDiff, ↓reduceIte, bd1_id, ckIN (n := 16) (A := j) rfl hj (by decide), ckIN (n := 16) (A := i) rfl hi (by decide), nI_clamp (show j < 2 ^ 31 by omega), nI_clamp (show i < 2 ^ 31 by omega), hm12, ite_self, wrong_t v 5 h13, wrong_5, lh, hh, if_pos g2, ckN32_ok (show ¬ (4 : Int32) = 0 by decide)]
    have eX : f_XPr_perform u = (5, u) := by simp +decide only [f_XPr_perform, prI, prE, nmE, jnE, hx4, hx5, hx6, hx7, bI0, ↓reduceIte, x_val _ rfl hi, x_val _ rfl hj, x_putR _ _ rfl hi, hR, xF_R, xF_F, xR_R, xR_F, hnx, hbh, hx9, f_XPr_performRegular, f_XAr_withWord, f_XAr_lacksPair, f_XMe_faultOf, cs, g1, hh]
    rw [eX]
    exact Out.no hl rfl (by unfold nok; decide) hC
  · have hl : f_MMo_looks v = some v := by simp +decide only [f_MMo_looks, f_MMo_looksAtWord, f_MMo_width, in_lit, bI0, wrong_f, f_MMo_low, f_MMo_high, nmE, jnE, bd1S, hm10, hm8, hlo, hhi, mF_F, mA_F, mF_A, Nat.reduceEqDiff, ↓reduceIte, bd1_id, ckIN (n := 16) (A := j) rfl hj (by decide), ckIN (n := 16) (A := i) rfl hi (by decide), nI_clamp (show j < 2 ^ 31 by omega), nI_clamp (show i < 2 ^ 31 by omega), hm12, ite_self, lh, hh, if_pos g2, ckN32_ok (show ¬ (4 : Int32) = 0 by decide)]
    have ht := m_take (msF v 2 (nI n)) hb hmb (a := nI a2) (n := 4) (A := a2) (N := 4) rfl rfl hA (by decide)
    refine Sim.out (n := n) (r := f_MMo_indexed v (nI n)) ?_ hl h13 hact hnx hn
    simp +decide only [f_XPr_perform, prI, prE, nmE, jnE, hx4, hx5, hx6, hx7, bI0, ↓reduceIte, x_val _ rfl hi, x_val _ rfl hj, x_putR _ _ rfl hi, hR, xF_R, xF_F, xR_R, xR_F, hnx, hbh, hx9, f_MMo_indexed, f_MMo_width, in_lit, f_MMo_goes, bI0, f_MMo_low, f_MMo_high, nmE, jnE, bd1S, hm10, hm8, hlo, hhi, mF_F, mA_F, mF_A, Nat.reduceEqDiff, ↓reduceIte, bd1_id, ckIN (n := 16) (A := j) rfl hj (by decide), ckIN (n := 16) (A := i) rfl hi (by decide), nI_clamp (show j < 2 ^ 31 by omega), nI_clamp (show i < 2 ^ 31 by omega), hm12, f_XPr_performRegular, f_XAr_withWord, f_XAr_lacksPair, f_XMe_faultOf, cs, g1, hh, x_word u hb hxb rfl hA, f_XAr_apply, ht, lN_i, f_MMo_reckons, msA_at, f_MMo_bare]
    exact sim_exact (hC.mn _) h13 hi _
theorem op_91 {u : XS} {v : MS} {s i j a1 a2 at0 : Nat} (h : Dd u v 91 s i j a1 a2 at0) : Out (f_XPr_perform u) v := by
  obtain ⟨n, hn, hnx, hbh, hact⟩ := h.act
  have hact := hact.2.1 (by decide) (by decide)
  obtain ⟨hC, ⟨-, hs, hi, hj, h1, h2⟩, ⟨hlo, hhi, hsij⟩, ⟨hx4, hm8⟩, ⟨hx5, hm10⟩, ⟨hx6, hx7⟩, hA2, hA1, hA12, ⟨h13, h0, hat⟩, -⟩ := h
  have hx4 : xF u 4 = 91 := hx4
  have hm8 : mF v 8 = 91 := hm8
  have hR : xR u = mA v 2 := hC.2.1
  obtain ⟨hx9, hm12⟩ := hA2 (by decide)
  obtain ⟨b, hb, hxb, hmb⟩ := hC.nb
  have lh := fun w => lies_holds w u (nI a2) (n := 4) (N := 4) rfl (by decide)
  have cs : (91 : Int32) - 64 = 27 := by decide
  rcases al_4 u h2 with ⟨g1, g2⟩ | ⟨g1, g2, hh⟩ | ⟨g1, g2, hh, hA⟩
  · have hl : f_MMo_looks v = some (msF v 13 6) := by simp +decide only [f_MMo_looks, f_MMo_looksAtWord, f_MMo_width, in_lit, bI0, wrong_f, f_MMo_low, f_MMo_high, nmE, jnE, bd1S, hm10, hm8, hlo, hhi, mF_F, mA_F, mF_A, Nat.reduceEqDiff, ↓reduceIte, bd1_id, ckIN (n := 16) (A := j) rfl hj (by decide), ckIN (n := 16) (A := i) rfl hi (by decide), nI_clamp (show j < 2 ^ 31 by omega), nI_clamp (show i < 2 ^ 31 by omega), hm12, ite_self, wrong_t v 6 h13, wrong_6, lh, if_neg g2, ckN32_ok (show ¬ (4 : Int32) = 0 by decide)]
    have eX : f_XPr_perform u = (6, u) := by simp +decide only [f_XPr_perform, prI, prE, nmE, jnE, hx4, hx5, hx6, hx7, bI0, ↓reduceIte, x_val _ rfl hi, x_val _ rfl hj, x_putR _ _ rfl hi, hR, xF_R, xF_F, xR_R, xR_F, hnx, hbh, hx9, f_XPr_performRegular, f_XAr_withWord, f_XAr_lacksPair, f_XMe_faultOf, cs, if_neg g1]
    rw [eX]
    exact Out.no hl rfl (by unfold nok; decide) hC
  · have hl : f_MMo_looks v = some (msF v 13 5) := by simp +decide only [f_MMo_looks, f_MMo_looksAtWord, f_MMo_width, in_lit, bI0, wrong_f, f_MMo_low, f_MMo_high, nmE, jnE, bd1S, hm10, hm8, hlo, hhi, mF_F, mA_F, mF_A, Nat.reduceEqDiff, ↓reduceIte, bd1_id, ckIN (n := 16) (A := j) rfl hj (by decide), ckIN (n := 16) (A := i) rfl hi (by decide), nI_clamp (show j < 2 ^ 31 by omega), nI_clamp (show i < 2 ^ 31 by omega), hm12, ite_self, wrong_t v 5 h13, wrong_5, lh, hh, if_pos g2, ckN32_ok (show ¬ (4 : Int32) = 0 by decide)]
    have eX : f_XPr_perform u = (5, u) := by simp +decide only [f_XPr_perform, prI, prE, nmE, jnE, hx4, hx5, hx6, hx7, bI0, ↓reduceIte, x_val _ rfl hi, x_val _ rfl hj, x_putR _ _ rfl hi, hR, xF_R, xF_F, xR_R, xR_F, hnx, hbh, hx9, f_XPr_performRegular, f_XAr_withWord, f_XAr_lacksPair, f_XMe_faultOf, cs, g1, hh]
    rw [eX]
    exact Out.no hl rfl (by unfold nok; decide) hC
  · have hl : f_MMo_looks v = some v := by simp +decide only [f_MMo_looks, f_MMo_looksAtWord, f_MMo_width, in_lit, bI0, wrong_f, f_MMo_low, f_MMo_high, nmE, jnE, bd1S, hm10, hm8, hlo, hhi, mF_F, mA_F, mF_A, Nat.reduceEqDiff, ↓reduceIte, bd1_id, ckIN (n := 16) (A := j) rfl hj (by decide), ckIN (n := 16) (A := i) rfl hi (by decide), nI_clamp (show j < 2 ^ 31 by omega), nI_clamp (show i < 2 ^ 31 by omega), hm12, ite_self, lh, hh, if_pos g2, ckN32_ok (show ¬ (4 : Int32) = 0 by decide)]
    have ht := m_take (msF v 2 (nI n)) hb hmb (a := nI a2) (n := 4) (A := a2) (N := 4) rfl rfl hA (by decide)
    refine Sim.out (n := n) (r := f_MMo_indexed v (nI n)) ?_ hl h13 hact hnx hn
    simp +decide only [f_XPr_perform, prI, prE, nmE, jnE, hx4, hx5, hx6, hx7, bI0, ↓reduceIte, x_val _ rfl hi, x_val _ rfl hj, x_putR _ _ rfl hi, hR, xF_R, xF_F, xR_R, xR_F, hnx, hbh, hx9, f_MMo_indexed, f_MMo_width, in_lit, f_MMo_goes, bI0, f_MMo_low, f_MMo_high, nmE, jnE, bd1S, hm10, hm8, hlo, hhi, mF_F, mA_F, mF_A, Nat.reduceEqDiff, ↓reduceIte, bd1_id, ckIN (n := 16) (A := j) rfl hj (by decide), ckIN (n := 16) (A := i) rfl hi (by decide), nI_clamp (show j < 2 ^ 31 by omega), nI_clamp (show i < 2 ^ 31 by omega), hm12, f_XPr_performRegular, f_XAr_withWord, f_XAr_lacksPair, f_XMe_faultOf, cs, g1, hh, x_word u hb hxb rfl hA, f_XAr_apply, ht, lN_i, f_MMo_reckons, msA_at, f_MMo_bare]
    exact sim_exact (hC.mn _) h13 hi _
theorem op_92 {u : XS} {v : MS} {s i j a1 a2 at0 : Nat} (h : Dd u v 92 s i j a1 a2 at0) : Out (f_XPr_perform u) v := by
  obtain ⟨n, hn, hnx, hbh, hact⟩ := h.act
  have hact := hact.2.1 (by decide) (by decide)
  obtain ⟨hC, ⟨-, hs, hi, hj, h1, h2⟩, ⟨hlo, hhi, hsij⟩, ⟨hx4, hm8⟩, ⟨hx5, hm10⟩, ⟨hx6, hx7⟩, hA2, hA1, hA12, ⟨h13, h0, hat⟩, -⟩ := h
  have hx4 : xF u 4 = 92 := hx4
  have hm8 : mF v 8 = 92 := hm8
  have hR : xR u = mA v 2 := hC.2.1
  obtain ⟨hx9, hm12⟩ := hA2 (by decide)
  obtain ⟨b, hb, hxb, hmb⟩ := hC.nb
  have lh := fun w => lies_holds w u (nI a2) (n := 4) (N := 4) rfl (by decide)
  have cs : (92 : Int32) - 64 = 28 := by decide
  rcases par i with ⟨hp, ep⟩ | ⟨hp, ep⟩ | hp
  · rcases al_4 u h2 with ⟨g1, g2⟩ | ⟨g1, g2, hh⟩ | ⟨g1, g2, hh, hA⟩
    · have hl : f_MMo_looks v = some (msF v 13 6) := by simp +decide only [f_MMo_looks, f_MMo_looksAtWord, f_MMo_width, in_lit, bI0, wrong_f, f_MMo_low, f_MMo_high, nmE, jnE, bd1S, hm10, hm8, hlo, hhi, mF_F, mA_F, mF_A, Nat.reduceEqDiff, ↓reduceIte, bd1_id, ckIN (n := 16) (A := j) rfl hj (by decide), ckIN (n := 16) (A := i) rfl hi (by decide), nI_clamp (show j < 2 ^ 31 by omega), nI_clamp (show i < 2 ^ 31 by omega), hm12, ite_self, wrong_t v 6 h13, wrong_6, lh, if_neg g2, ckN32_ok (show ¬ (4 : Int32) = 0 by decide), ep]
      have eX : f_XPr_perform u = (6, u) := by simp +decide only [f_XPr_perform, prI, prE, nmE, jnE, hx4, hx5, hx6, hx7, bI0, ↓reduceIte, x_val _ rfl hi, x_val _ rfl hj, x_putR _ _ rfl hi, hR, xF_R, xF_F, xR_R, xR_F, hnx, hbh, hx9, f_XPr_performRegular, f_XAr_withWord, f_XAr_lacksPair, f_XMe_faultOf, cs, if_neg g1, ep]
      rw [eX]
      exact Out.no hl rfl (by unfold nok; decide) hC
    · have hl : f_MMo_looks v = some (msF v 13 5) := by simp +decide only [f_MMo_looks, f_MMo_looksAtWord, f_MMo_width, in_lit, bI0, wrong_f, f_MMo_low, f_MMo_high, nmE, jnE, bd1S, hm10, hm8, hlo, hhi, mF_F, mA_F, mF_A, Nat.reduceEqDiff, ↓reduceIte, bd1_id, ckIN (n := 16) (A := j) rfl hj (by decide), ckIN (n := 16) (A := i) rfl hi (by decide), nI_clamp (show j < 2 ^ 31 by omega), nI_clamp (show i < 2 ^ 31 by omega), hm12, ite_self, wrong_t v 5 h13, wrong_5, lh, hh, if_pos g2, ckN32_ok (show ¬ (4 : Int32) = 0 by decide), ep]
      have eX : f_XPr_perform u = (5, u) := by simp +decide only [f_XPr_perform, prI, prE, nmE, jnE, hx4, hx5, hx6, hx7, bI0, ↓reduceIte, x_val _ rfl hi, x_val _ rfl hj, x_putR _ _ rfl hi, hR, xF_R, xF_F, xR_R, xR_F, hnx, hbh, hx9, f_XPr_performRegular, f_XAr_withWord, f_XAr_lacksPair, f_XMe_faultOf, cs, g1, hh, ep]
      rw [eX]
      exact Out.no hl rfl (by unfold nok; decide) hC
    · have hl : f_MMo_looks v = some v := by simp +decide only [f_MMo_looks, f_MMo_looksAtWord, f_MMo_width, in_lit, bI0, wrong_f, f_MMo_low, f_MMo_high, nmE, jnE, bd1S, hm10, hm8, hlo, hhi, mF_F, mA_F, mF_A, Nat.reduceEqDiff, ↓reduceIte, bd1_id, ckIN (n := 16) (A := j) rfl hj (by decide), ckIN (n := 16) (A := i) rfl hi (by decide), nI_clamp (show j < 2 ^ 31 by omega), nI_clamp (show i < 2 ^ 31 by omega), hm12, ite_self, lh, hh, if_pos g2, ckN32_ok (show ¬ (4 : Int32) = 0 by decide), ep]
      have ht := m_take (msF v 2 (nI n)) hb hmb (a := nI a2) (n := 4) (A := a2) (N := 4) rfl rfl hA (by decide)
      have eX : f_XPr_perform u = f_XAr_multiply u (nI i) (nI (tk b a2 4)) := by simp +decide only [f_XPr_perform, prI, prE, nmE, jnE, hx4, hx5, hx6, hx7, bI0, ↓reduceIte, x_val _ rfl hi, x_val _ rfl hj, x_putR _ _ rfl hi, hR, xF_R, xF_F, xR_R, xR_F, hnx, hbh, hx9, f_XPr_performRegular, f_XAr_withWord, f_XAr_lacksPair, f_XMe_faultOf, cs, g1, hh, ep, f_XAr_apply, x_word u hb hxb rfl hA]
      have eM : f_MMo_indexed v (nI n) = f_MMo_reckons (msF v 2 (nI n)) 92 (nI i) (nI (tk b a2 4)) := by simp +decide only [f_MMo_indexed, f_MMo_width, in_lit, f_MMo_goes, bI0, f_MMo_low, f_MMo_high, nmE, jnE, bd1S, hm10, hm8, hlo, hhi, mF_F, mA_F, mF_A, Nat.reduceEqDiff, ↓reduceIte, bd1_id, ckIN (n := 16) (A := j) rfl hj (by decide), ckIN (n := 16) (A := i) rfl hi (by decide), nI_clamp (show j < 2 ^ 31 by omega), nI_clamp (show i < 2 ^ 31 by omega), hm12, ht, lN_i]
      rw [eX]
      exact Sim.out (sim_mult (hC.mn _) h13 (by omega) _) hl h13 (hact.trans eM) hnx hn
  · have hl : f_MMo_looks v = some (msF v 13 6) := by simp +decide only [f_MMo_looks, f_MMo_looksAtWord, f_MMo_width, in_lit, bI0, wrong_f, f_MMo_low, f_MMo_high, nmE, jnE, bd1S, hm10, hm8, hlo, hhi, mF_F, mA_F, mF_A, Nat.reduceEqDiff, ↓reduceIte, bd1_id, ckIN (n := 16) (A := j) rfl hj (by decide), ckIN (n := 16) (A := i) rfl hi (by decide), nI_clamp (show j < 2 ^ 31 by omega), nI_clamp (show i < 2 ^ 31 by omega), hm12, ite_self, wrong_t v 6 h13, wrong_6, lh, ep]
    have eX : f_XPr_perform u = (6, u) := by simp +decide only [f_XPr_perform, prI, prE, nmE, jnE, hx4, hx5, hx6, hx7, bI0, ↓reduceIte, x_val _ rfl hi, x_val _ rfl hj, x_putR _ _ rfl hi, hR, xF_R, xF_F, xR_R, xR_F, hnx, hbh, hx9, f_XPr_performRegular, f_XAr_withWord, f_XAr_lacksPair, f_XMe_faultOf, cs, ep]
    rw [eX]
    exact Out.no hl rfl (by unfold nok; decide) hC
  · omega
theorem op_93 {u : XS} {v : MS} {s i j a1 a2 at0 : Nat} (h : Dd u v 93 s i j a1 a2 at0) : Out (f_XPr_perform u) v := by
  obtain ⟨n, hn, hnx, hbh, hact⟩ := h.act
  have hact := hact.2.1 (by decide) (by decide)
  obtain ⟨hC, ⟨-, hs, hi, hj, h1, h2⟩, ⟨hlo, hhi, hsij⟩, ⟨hx4, hm8⟩, ⟨hx5, hm10⟩, ⟨hx6, hx7⟩, hA2, hA1, hA12, ⟨h13, h0, hat⟩, -⟩ := h
  have hx4 : xF u 4 = 93 := hx4
  have hm8 : mF v 8 = 93 := hm8
  have hR : xR u = mA v 2 := hC.2.1
  obtain ⟨hx9, hm12⟩ := hA2 (by decide)
  obtain ⟨b, hb, hxb, hmb⟩ := hC.nb
  have lh := fun w => lies_holds w u (nI a2) (n := 4) (N := 4) rfl (by decide)
  have cs : (93 : Int32) - 64 = 29 := by decide
  rcases par i with ⟨hp, ep⟩ | ⟨hp, ep⟩ | hp
  · rcases al_4 u h2 with ⟨g1, g2⟩ | ⟨g1, g2, hh⟩ | ⟨g1, g2, hh, hA⟩
    · have hl : f_MMo_looks v = some (msF v 13 6) := by simp +decide only [f_MMo_looks, f_MMo_looksAtWord, f_MMo_width, in_lit, bI0, wrong_f, f_MMo_low, f_MMo_high, nmE, jnE, bd1S, hm10, hm8, hlo, hhi, mF_F, mA_F, mF_A, Nat.reduceEqDiff, ↓reduceIte, bd1_id, ckIN (n := 16) (A := j) rfl hj (by decide), ckIN (n := 16) (A := i) rfl hi (by decide), nI_clamp (show j < 2 ^ 31 by omega), nI_clamp (show i < 2 ^ 31 by omega), hm12, ite_self, wrong_t v 6 h13, wrong_6, lh, if_neg g2, ckN32_ok (show ¬ (4 : Int32) = 0 by decide), ep]
      have eX : f_XPr_perform u = (6, u) := by simp +decide only [f_XPr_perform, prI, prE, nmE, jnE, hx4, hx5, hx6, hx7, bI0, ↓reduceIte, x_val _ rfl hi, x_val _ rfl hj, x_putR _ _ rfl hi, hR, xF_R, xF_F, xR_R, xR_F, hnx, hbh, hx9, f_XPr_performRegular, f_XAr_withWord, f_XAr_lacksPair, f_XMe_faultOf, cs, if_neg g1, ep]
      rw [eX]
      exact Out.no hl rfl (by unfold nok; decide) hC
    · have hl : f_MMo_looks v = some (msF v 13 5) := by simp +decide only [f_MMo_looks, f_MMo_looksAtWord, f_MMo_width, in_lit, bI0, wrong_f, f_MMo_low, f_MMo_high, nmE, jnE, bd1S, hm10, hm8, hlo, hhi, mF_F, mA_F, mF_A, Nat.reduceEqDiff, ↓reduceIte, bd1_id, ckIN (n := 16) (A := j) rfl hj (by decide), ckIN (n := 16) (A := i) rfl hi (by decide), nI_clamp (show j < 2 ^ 31 by omega), nI_clamp (show i < 2 ^ 31 by omega), hm12, ite_self, wrong_t v 5 h13, wrong_5, lh, hh, if_pos g2, ckN32_ok (show ¬ (4 : Int32) = 0 by decide), ep]
      have eX : f_XPr_perform u = (5, u) := by simp +decide only [f_XPr_perform, prI, prE, nmE, jnE, hx4, hx5, hx6, hx7, bI0, ↓reduceIte, x_val _ rfl hi, x_val _ rfl hj, x_putR _ _ rfl hi, hR, xF_R, xF_F, xR_R, xR_F, hnx, hbh, hx9, f_XPr_performRegular, f_XAr_withWord, f_XAr_lacksPair, f_XMe_faultOf, cs, g1, hh, ep]
      rw [eX]
      exact Out.no hl rfl (by unfold nok; decide) hC
    · have ht := fun w hw => m_take w hb hw (a := nI a2) (n := 4) (A := a2) (N := 4) rfl rfl hA (by decide)
      have hd := m_div hm10 hhi hi hp (nI (tk b a2 4))
      by_cases c : nI (tk b a2 4) = 0
      · have eX : f_XPr_perform u = (9, u) := by simp +decide only [f_XPr_perform, prI, prE, nmE, jnE, hx4, hx5, hx6, hx7, bI0, ↓reduceIte, x_val _ rfl hi, x_val _ rfl hj, x_putR _ _ rfl hi, hR, xF_R, xF_F, xR_R, xR_F, hnx, hbh, hx9, f_XPr_performRegular, f_XAr_withWord, f_XAr_lacksPair, f_XMe_faultOf, cs, g1, hh, ep, f_XAr_apply, x_word u hb hxb rfl hA, f_XAr_divide, if_pos c]
        have hl : f_MMo_looks v = some (msF v 13 9) := by simp +decide only [f_MMo_looks, f_MMo_looksAtWord, f_MMo_width, in_lit, bI0, wrong_f, f_MMo_low, f_MMo_high, nmE, jnE, bd1S, hm10, hm8, hlo, hhi, mF_F, mA_F, mF_A, Nat.reduceEqDiff, ↓reduceIte, bd1_id, ckIN (n := 16) (A := j) rfl hj (by decide), ckIN (n := 16) (A := i) rfl hi (by decide), nI_clamp (show j < 2 ^ 31 by omega), nI_clamp (show i < 2 ^ 31 by omega), hm12, ite_self, lh, hh, if_pos g2, ckN32_ok (show ¬ (4 : Int32) = 0 by decide), ep, h13, ht v hmb, lN_i, hd, if_pos c, wrong_t v 9 h13]
        rw [eX]
        exact Out.no hl rfl (by unfold nok; decide) hC
      · rw [if_neg c] at hd
        by_cases d : ((mA v 2 i).toInt64 <<< (Int32.toInt64 32 &&& 63) ||| (mA v 2 (i + 1)).toInt64 &&& 4294967295) / (nI (tk b a2 4)).toInt64 = (((mA v 2 i).toInt64 <<< (Int32.toInt64 32 &&& 63) ||| (mA v 2 (i + 1)).toInt64 &&& 4294967295) / (nI (tk b a2 4)).toInt64).toInt32.toInt64
        · rw [decide_eq_true d] at hd
          have hl : f_MMo_looks v = some v := by simp +decide only [f_MMo_looks, f_MMo_looksAtWord, f_MMo_width, in_lit, bI0, wrong_f, f_MMo_low, f_MMo_high, nmE, jnE, bd1S, hm10, hm8, hlo, hhi, mF_F, mA_F, mF_A, Nat.reduceEqDiff, ↓reduceIte, bd1_id, ckIN (n := 16) (A := j) rfl hj (by decide), ckIN (n := 16) (A := i) rfl hi (by decide), nI_clamp (show j < 2 ^ 31 by omega), nI_clamp (show i < 2 ^ 31 by omega), hm12, ite_self, lh, hh, if_pos g2, ckN32_ok (show ¬ (4 : Int32) = 0 by decide), ep, h13, ht v hmb, lN_i, hd]
          have eX : f_XPr_perform u = f_XAr_divide u (nI i) (nI (tk b a2 4)) := by simp +decide only [f_XPr_perform, prI, prE, nmE, jnE, hx4, hx5, hx6, hx7, bI0, ↓reduceIte, x_val _ rfl hi, x_val _ rfl hj, x_putR _ _ rfl hi, hR, xF_R, xF_F, xR_R, xR_F, hnx, hbh, hx9, f_XPr_performRegular, f_XAr_withWord, f_XAr_lacksPair, f_XMe_faultOf, cs, g1, hh, ep, f_XAr_apply, x_word u hb hxb rfl hA]
          have eM : f_MMo_indexed v (nI n) = f_MMo_reckons (msF v 2 (nI n)) 93 (nI i) (nI (tk b a2 4)) := by simp +decide only [f_MMo_indexed, f_MMo_width, in_lit, f_MMo_goes, bI0, f_MMo_low, f_MMo_high, nmE, jnE, bd1S, hm10, hm8, hlo, hhi, mF_F, mA_F, mF_A, Nat.reduceEqDiff, ↓reduceIte, bd1_id, ckIN (n := 16) (A := j) rfl hj (by decide), ckIN (n := 16) (A := i) rfl hi (by decide), nI_clamp (show j < 2 ^ 31 by omega), nI_clamp (show i < 2 ^ 31 by omega), hm12, ht (msF v 2 (nI n)) hmb, lN_i]
          rw [eX]
          exact Sim.out (sim_divide (hC.mn _) h13 (by omega) c d) hl h13 (hact.trans eM) hnx hn
        · rw [decide_eq_false d] at hd
          have hi2 : i + 1 < 16 := by omega
          have eX : f_XPr_perform u = (9, u) := by simp +decide only [f_XPr_perform, prI, prE, nmE, jnE, hx4, hx5, hx6, hx7, bI0, ↓reduceIte, x_val _ rfl hi, x_val _ rfl hj, x_putR _ _ rfl hi, hR, xF_R, xF_F, xR_R, xR_F, hnx, hbh, hx9, f_XPr_performRegular, f_XAr_withWord, f_XAr_lacksPair, f_XMe_faultOf, cs, g1, hh, ep, f_XAr_apply, x_word u hb hxb rfl hA, f_XAr_divide, if_neg c, nI_1, x_val _ rfl hi2, if_neg d]
          have hl : f_MMo_looks v = some (msF v 13 9) := by simp +decide only [f_MMo_looks, f_MMo_looksAtWord, f_MMo_width, in_lit, bI0, wrong_f, f_MMo_low, f_MMo_high, nmE, jnE, bd1S, hm10, hm8, hlo, hhi, mF_F, mA_F, mF_A, Nat.reduceEqDiff, ↓reduceIte, bd1_id, ckIN (n := 16) (A := j) rfl hj (by decide), ckIN (n := 16) (A := i) rfl hi (by decide), nI_clamp (show j < 2 ^ 31 by omega), nI_clamp (show i < 2 ^ 31 by omega), hm12, ite_self, lh, hh, if_pos g2, ckN32_ok (show ¬ (4 : Int32) = 0 by decide), ep, h13, ht v hmb, lN_i, hd, wrong_t v 9 h13]
          rw [eX]
          exact Out.no hl rfl (by unfold nok; decide) hC
  · have hl : f_MMo_looks v = some (msF v 13 6) := by simp +decide only [f_MMo_looks, f_MMo_looksAtWord, f_MMo_width, in_lit, bI0, wrong_f, f_MMo_low, f_MMo_high, nmE, jnE, bd1S, hm10, hm8, hlo, hhi, mF_F, mA_F, mF_A, Nat.reduceEqDiff, ↓reduceIte, bd1_id, ckIN (n := 16) (A := j) rfl hj (by decide), ckIN (n := 16) (A := i) rfl hi (by decide), nI_clamp (show j < 2 ^ 31 by omega), nI_clamp (show i < 2 ^ 31 by omega), hm12, ite_self, wrong_t v 6 h13, wrong_6, lh, ep]
    have eX : f_XPr_perform u = (6, u) := by simp +decide only [f_XPr_perform, prI, prE, nmE, jnE, hx4, hx5, hx6, hx7, bI0, ↓reduceIte, x_val _ rfl hi, x_val _ rfl hj, x_putR _ _ rfl hi, hR, xF_R, xF_F, xR_R, xR_F, hnx, hbh, hx9, f_XPr_performRegular, f_XAr_withWord, f_XAr_lacksPair, f_XMe_faultOf, cs, ep]
    rw [eX]
    exact Out.no hl rfl (by unfold nok; decide) hC
  · omega
theorem op_94 {u : XS} {v : MS} {s i j a1 a2 at0 : Nat} (h : Dd u v 94 s i j a1 a2 at0) : Out (f_XPr_perform u) v := by
  obtain ⟨n, hn, hnx, hbh, hact⟩ := h.act
  have hact := hact.2.1 (by decide) (by decide)
  obtain ⟨hC, ⟨-, hs, hi, hj, h1, h2⟩, ⟨hlo, hhi, hsij⟩, ⟨hx4, hm8⟩, ⟨hx5, hm10⟩, ⟨hx6, hx7⟩, hA2, hA1, hA12, ⟨h13, h0, hat⟩, -⟩ := h
  have hx4 : xF u 4 = 94 := hx4
  have hm8 : mF v 8 = 94 := hm8
  have hR : xR u = mA v 2 := hC.2.1
  obtain ⟨hx9, hm12⟩ := hA2 (by decide)
  obtain ⟨b, hb, hxb, hmb⟩ := hC.nb
  have lh := fun w => lies_holds w u (nI a2) (n := 4) (N := 4) rfl (by decide)
  have cs : (94 : Int32) - 64 = 30 := by decide
  rcases al_4 u h2 with ⟨g1, g2⟩ | ⟨g1, g2, hh⟩ | ⟨g1, g2, hh, hA⟩
  · have hl : f_MMo_looks v = some (msF v 13 6) := by simp +decide only [f_MMo_looks, f_MMo_looksAtWord, f_MMo_width, in_lit, bI0, wrong_f, f_MMo_low, f_MMo_high, nmE, jnE, bd1S, hm10, hm8, hlo, hhi, mF_F, mA_F, mF_A, Nat.reduceEqDiff, ↓reduceIte, bd1_id, ckIN (n := 16) (A := j) rfl hj (by decide), ckIN (n := 16) (A := i) rfl hi (by decide), nI_clamp (show j < 2 ^ 31 by omega), nI_clamp (show i < 2 ^ 31 by omega), hm12, ite_self, wrong_t v 6 h13, wrong_6, lh, if_neg g2, ckN32_ok (show ¬ (4 : Int32) = 0 by decide)]
    have eX : f_XPr_perform u = (6, u) := by simp +decide only [f_XPr_perform, prI, prE, nmE, jnE, hx4, hx5, hx6, hx7, bI0, ↓reduceIte, x_val _ rfl hi, x_val _ rfl hj, x_putR _ _ rfl hi, hR, xF_R, xF_F, xR_R, xR_F, hnx, hbh, hx9, f_XPr_performRegular, f_XAr_withWord, f_XAr_lacksPair, f_XMe_faultOf, cs, if_neg g1]
    rw [eX]
    exact Out.no hl rfl (by unfold nok; decide) hC
  · have hl : f_MMo_looks v = some (msF v 13 5) := by simp +decide only [f_MMo_looks, f_MMo_looksAtWord, f_MMo_width, in_lit, bI0, wrong_f, f_MMo_low, f_MMo_high, nmE, jnE, bd1S, hm10, hm8, hlo, hhi, mF_F, mA_F, mF_A, Nat.reduceEqDiff, ↓reduceIte, bd1_id, ckIN (n := 16) (A := j) rfl hj (by decide), ckIN (n := 16) (A := i) rfl hi (by decide), nI_clamp (show j < 2 ^ 31 by omega), nI_clamp (show i < 2 ^ 31 by omega), hm12, ite_self, wrong_t v 5 h13, wrong_5, lh, hh, if_pos g2, ckN32_ok (show ¬ (4 : Int32) = 0 by decide)]
    have eX : f_XPr_perform u = (5, u) := by simp +decide only [f_XPr_perform, prI, prE, nmE, jnE, hx4, hx5, hx6, hx7, bI0, ↓reduceIte, x_val _ rfl hi, x_val _ rfl hj, x_putR _ _ rfl hi, hR, xF_R, xF_F, xR_R, xR_F, hnx, hbh, hx9, f_XPr_performRegular, f_XAr_withWord, f_XAr_lacksPair, f_XMe_faultOf, cs, g1, hh]
    rw [eX]
    exact Out.no hl rfl (by unfold nok; decide) hC
  · have hl : f_MMo_looks v = some v := by simp +decide only [f_MMo_looks, f_MMo_looksAtWord, f_MMo_width, in_lit, bI0, wrong_f, f_MMo_low, f_MMo_high, nmE, jnE, bd1S, hm10, hm8, hlo, hhi, mF_F, mA_F, mF_A, Nat.reduceEqDiff, ↓reduceIte, bd1_id, ckIN (n := 16) (A := j) rfl hj (by decide), ckIN (n := 16) (A := i) rfl hi (by decide), nI_clamp (show j < 2 ^ 31 by omega), nI_clamp (show i < 2 ^ 31 by omega), hm12, ite_self, lh, hh, if_pos g2, ckN32_ok (show ¬ (4 : Int32) = 0 by decide)]
    have ht := m_take (msF v 2 (nI n)) hb hmb (a := nI a2) (n := 4) (A := a2) (N := 4) rfl rfl hA (by decide)
    refine Sim.out (n := n) (r := f_MMo_indexed v (nI n)) ?_ hl h13 hact hnx hn
    simp +decide only [f_XPr_perform, prI, prE, nmE, jnE, hx4, hx5, hx6, hx7, bI0, ↓reduceIte, x_val _ rfl hi, x_val _ rfl hj, x_putR _ _ rfl hi, hR, xF_R, xF_F, xR_R, xR_F, hnx, hbh, hx9, f_MMo_indexed, f_MMo_width, in_lit, f_MMo_goes, bI0, f_MMo_low, f_MMo_high, nmE, jnE, bd1S, hm10, hm8, hlo, hhi, mF_F, mA_F, mF_A, Nat.reduceEqDiff, ↓reduceIte, bd1_id, ckIN (n := 16) (A := j) rfl hj (by decide), ckIN (n := 16) (A := i) rfl hi (by decide), nI_clamp (show j < 2 ^ 31 by omega), nI_clamp (show i < 2 ^ 31 by omega), hm12, f_XPr_performRegular, f_XAr_withWord, f_XAr_lacksPair, f_XMe_faultOf, cs, g1, hh, x_word u hb hxb rfl hA, f_XAr_apply, ht, lN_i, f_MMo_reckons, msA_at, f_MMo_bare]
    obtain ⟨m1, hm1, e1⟩ := bare_lt (mA v 2 i)
    obtain ⟨m2, hm2, e2⟩ := bare_lt (nI (tk b a2 4))
    rw [e1, e2, lN_add]
    exact sim_plain (hC.mn _) h13 hi (show _ < 8589934593 by omega)
theorem op_95 {u : XS} {v : MS} {s i j a1 a2 at0 : Nat} (h : Dd u v 95 s i j a1 a2 at0) : Out (f_XPr_perform u) v := by
  obtain ⟨n, hn, hnx, hbh, hact⟩ := h.act
  have hact := hact.2.1 (by decide) (by decide)
  obtain ⟨hC, ⟨-, hs, hi, hj, h1, h2⟩, ⟨hlo, hhi, hsij⟩, ⟨hx4, hm8⟩, ⟨hx5, hm10⟩, ⟨hx6, hx7⟩, hA2, hA1, hA12, ⟨h13, h0, hat⟩, -⟩ := h
  have hx4 : xF u 4 = 95 := hx4
  have hm8 : mF v 8 = 95 := hm8
  have hR : xR u = mA v 2 := hC.2.1
  obtain ⟨hx9, hm12⟩ := hA2 (by decide)
  obtain ⟨b, hb, hxb, hmb⟩ := hC.nb
  have lh := fun w => lies_holds w u (nI a2) (n := 4) (N := 4) rfl (by decide)
  have cs : (95 : Int32) - 64 = 31 := by decide
  rcases al_4 u h2 with ⟨g1, g2⟩ | ⟨g1, g2, hh⟩ | ⟨g1, g2, hh, hA⟩
  · have hl : f_MMo_looks v = some (msF v 13 6) := by simp +decide only [f_MMo_looks, f_MMo_looksAtWord, f_MMo_width, in_lit, bI0, wrong_f, f_MMo_low, f_MMo_high, nmE, jnE, bd1S, hm10, hm8, hlo, hhi, mF_F, mA_F, mF_A, Nat.reduceEqDiff, ↓reduceIte, bd1_id, ckIN (n := 16) (A := j) rfl hj (by decide), ckIN (n := 16) (A := i) rfl hi (by decide), nI_clamp (show j < 2 ^ 31 by omega), nI_clamp (show i < 2 ^ 31 by omega), hm12, ite_self, wrong_t v 6 h13, wrong_6, lh, if_neg g2, ckN32_ok (show ¬ (4 : Int32) = 0 by decide)]
    have eX : f_XPr_perform u = (6, u) := by simp +decide only [f_XPr_perform, prI, prE, nmE, jnE, hx4, hx5, hx6, hx7, bI0, ↓reduceIte, x_val _ rfl hi, x_val _ rfl hj, x_putR _ _ rfl hi, hR, xF_R, xF_F, xR_R, xR_F, hnx, hbh, hx9, f_XPr_performRegular, f_XAr_withWord, f_XAr_lacksPair, f_XMe_faultOf, cs, if_neg g1]
    rw [eX]
    exact Out.no hl rfl (by unfold nok; decide) hC
  · have hl : f_MMo_looks v = some (msF v 13 5) := by simp +decide only [f_MMo_looks, f_MMo_looksAtWord, f_MMo_width, in_lit, bI0, wrong_f, f_MMo_low, f_MMo_high, nmE, jnE, bd1S, hm10, hm8, hlo, hhi, mF_F, mA_F, mF_A, Nat.reduceEqDiff, ↓reduceIte, bd1_id, ckIN (n := 16) (A := j) rfl hj (by decide), ckIN (n := 16) (A := i) rfl hi (by decide), nI_clamp (show j < 2 ^ 31 by omega), nI_clamp (show i < 2 ^ 31 by omega), hm12, ite_self, wrong_t v 5 h13, wrong_5, lh, hh, if_pos g2, ckN32_ok (show ¬ (4 : Int32) = 0 by decide)]
    have eX : f_XPr_perform u = (5, u) := by simp +decide only [f_XPr_perform, prI, prE, nmE, jnE, hx4, hx5, hx6, hx7, bI0, ↓reduceIte, x_val _ rfl hi, x_val _ rfl hj, x_putR _ _ rfl hi, hR, xF_R, xF_F, xR_R, xR_F, hnx, hbh, hx9, f_XPr_performRegular, f_XAr_withWord, f_XAr_lacksPair, f_XMe_faultOf, cs, g1, hh]
    rw [eX]
    exact Out.no hl rfl (by unfold nok; decide) hC
  · have hl : f_MMo_looks v = some v := by simp +decide only [f_MMo_looks, f_MMo_looksAtWord, f_MMo_width, in_lit, bI0, wrong_f, f_MMo_low, f_MMo_high, nmE, jnE, bd1S, hm10, hm8, hlo, hhi, mF_F, mA_F, mF_A, Nat.reduceEqDiff, ↓reduceIte, bd1_id, ckIN (n := 16) (A := j) rfl hj (by decide), ckIN (n := 16) (A := i) rfl hi (by decide), nI_clamp (show j < 2 ^ 31 by omega), nI_clamp (show i < 2 ^ 31 by omega), hm12, ite_self, lh, hh, if_pos g2, ckN32_ok (show ¬ (4 : Int32) = 0 by decide)]
    have ht := m_take (msF v 2 (nI n)) hb hmb (a := nI a2) (n := 4) (A := a2) (N := 4) rfl rfl hA (by decide)
    refine Sim.out (n := n) (r := f_MMo_indexed v (nI n)) ?_ hl h13 hact hnx hn
    simp +decide only [f_XPr_perform, prI, prE, nmE, jnE, hx4, hx5, hx6, hx7, bI0, ↓reduceIte, x_val _ rfl hi, x_val _ rfl hj, x_putR _ _ rfl hi, hR, xF_R, xF_F, xR_R, xR_F, hnx, hbh, hx9, f_MMo_indexed, f_MMo_width, in_lit, f_MMo_goes, bI0, f_MMo_low, f_MMo_high, nmE, jnE, bd1S, hm10, hm8, hlo, hhi, mF_F, mA_F, mF_A, Nat.reduceEqDiff, ↓reduceIte, bd1_id, ckIN (n := 16) (A := j) rfl hj (by decide), ckIN (n := 16) (A := i) rfl hi (by decide), nI_clamp (show j < 2 ^ 31 by omega), nI_clamp (show i < 2 ^ 31 by omega), hm12, f_XPr_performRegular, f_XAr_withWord, f_XAr_lacksPair, f_XMe_faultOf, cs, g1, hh, x_word u hb hxb rfl hA, f_XAr_apply, ht, lN_i, f_MMo_reckons, msA_at, f_MMo_bare]
    obtain ⟨m1, hm1, e1⟩ := bare_lt (mA v 2 i)
    obtain ⟨m2, hm2, e2⟩ := bare_lt (nI (tk b a2 4) ^^^ -1)
    rw [e1, e2, lN_add, lN_1]
    exact sim_plain (hC.mn _) h13 hi (show _ < 8589934593 by omega)
