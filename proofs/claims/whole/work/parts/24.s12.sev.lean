/-! several registers -/
theorem Sim.from {p : Int32 × XS} {r : Option MS} {u u' : XS} {v v' : MS} (h : Sim p r u' v') (h1 : mF v' 0 = mF v 0) (h2 : mF v' 2 = mF v 2) (h3 : xF u' 0 = xF u 0) : Sim p r u v := by
  obtain ⟨ho, v2, e1, e2, e3, e4, e5, e6⟩ := h
  exact ⟨ho, v2, e1, e2, e3, e4.trans h1, e5.trans h2, e6.trans h3⟩
theorem and16 (x : Int32) : (x + 16) &&& 15 = x &&& 15 := by
  rw [pk_and (x + 16) 4 rfl, pk_and x 4 rfl, Int32.toBitVec_add, BitVec.toNat_add]
  have : (16 : Int32).toBitVec.toNat = 16 := rfl
  rw [this]
  have : (x.toBitVec.toNat + 16) % 2 ^ 32 % 2 ^ 4 = x.toBitVec.toNat % 2 ^ 4 := by omega
  rw [this]
theorem sim_sev_144 {i j a2 N : Nat} (hN : 1 ≤ N ∧ N ≤ 16) (hA : a2 + 4 * N ≤ 1024) (hM : ((nI j - nI i) + 16) &&& 15 = nI (N - 1)) : ∀ (d t fX fM : Nat) (u : XS) (v : MS), t + d = N → d < fX → d < fM → Core u v → mF v 13 = 0 → xF u 4 = 144 → xF u 6 = nI i → xF u 9 = nI a2 → mF v 8 = 144 → mF v 12 = nI a2 → Sim (lpN fX (g_XTr_several_51 (nI N)) (fun _ _ => default) (nI t) u) (lpN fM (g_MMo_others_311 (nI j) (nI i)) (fun _ _ => none) (nI t) v) u v := by
  intro d
  induction d with
  | zero =>
    intro t fX fM u v ht hX hF hC h13 hx4 hx6 hx9 hm8 hm12
    obtain ⟨f, rfl⟩ : ∃ f, fX = f + 1 := ⟨fX - 1, by omega⟩
    obtain ⟨g, rfl⟩ : ∃ f, fM = f + 1 := ⟨fM - 1, by omega⟩
    show Sim (g_XTr_several_51 (nI N) _ (nI t) u) (g_MMo_others_311 (nI j) (nI i) _ (nI t) v) u v
    simp only [g_XTr_several_51, g_MMo_others_311, hM]
    rw [if_pos (nI_le (by omega) (by omega)), if_pos (nI_lt (by omega) (by omega))]
    exact Sim.mk ok0 h13 hC rfl rfl rfl
  | succ d ih =>
    intro t fX fM u v ht hX hF hC h13 hx4 hx6 hx9 hm8 hm12
    obtain ⟨f, rfl⟩ : ∃ f, fX = f + 1 := ⟨fX - 1, by omega⟩
    obtain ⟨g, rfl⟩ : ∃ f, fM = f + 1 := ⟨fM - 1, by omega⟩
    show Sim (g_XTr_several_51 (nI N) _ (nI t) u) (g_MMo_others_311 (nI j) (nI i) _ (nI t) v) u v
    obtain ⟨r, hr, er⟩ := pk_andE (nI i + nI t) (m := 15) 4 rfl
    have hr : r < 16 := hr
    have ea : nI a2 + (4 : Int32) * nI t = nI (a2 + 4 * t) := by rw [show (4 : Int32) = nI 4 from rfl, pk_mul, nI_add]
    have hR : xR u = mA v 2 := hC.2.1
    obtain ⟨b, hb, hxb, hmb⟩ := hC.nb
    have hA4 : a2 + 4 * t + 4 ≤ 1024 := by omega
    simp +decide only [g_XTr_several_51, g_MMo_others_311, hM, if_neg (nI_ge (show t < N by omega) (show N < 2 ^ 31 by omega)), if_neg (nI_nlt (show t ≤ N - 1 by omega) (show N - 1 < 2 ^ 31 by omega)), nmE, jnE, hx4, hx6, hx9, hm8, hm12, er, ea, ↓reduceIte, x_val _ rfl hr, x_putR _ _ rfl hr, hR, ckIN (n := 16) (A := r) rfl hr (by decide), nI_clamp (show r < 2 ^ 31 by omega), nI_1, x_store u _ (n := 4) (A := a2 + 4 * t) (N := 4) rfl rfl hA4, m_store v _ (n := 4) (A := a2 + 4 * t) (N := 4) rfl rfl hA4 (by decide), ← hC.1, bd1S]
    refine Sim.from (ih (t + 1) f g _ _ (by omega) (by omega) (by omega) (hC.mem (oct_st hC.2.2.2.1 _ _ _)) h13 hx4 hx6 hx9 hm8 hm12) rfl rfl rfl
theorem sim_sev_152 {i j a2 N : Nat} (hN : 1 ≤ N ∧ N ≤ 16) (hA : a2 + 4 * N ≤ 1024) (hM : ((nI j - nI i) + 16) &&& 15 = nI (N - 1)) : ∀ (d t fX fM : Nat) (u : XS) (v : MS), t + d = N → d < fX → d < fM → Core u v → mF v 13 = 0 → xF u 4 = 152 → xF u 6 = nI i → xF u 9 = nI a2 → mF v 8 = 152 → mF v 12 = nI a2 → Sim (lpN fX (g_XTr_several_51 (nI N)) (fun _ _ => default) (nI t) u) (lpN fM (g_MMo_others_311 (nI j) (nI i)) (fun _ _ => none) (nI t) v) u v := by
  intro d
  induction d with
  | zero =>
    intro t fX fM u v ht hX hF hC h13 hx4 hx6 hx9 hm8 hm12
    obtain ⟨f, rfl⟩ : ∃ f, fX = f + 1 := ⟨fX - 1, by omega⟩
    obtain ⟨g, rfl⟩ : ∃ f, fM = f + 1 := ⟨fM - 1, by omega⟩
    show Sim (g_XTr_several_51 (nI N) _ (nI t) u) (g_MMo_others_311 (nI j) (nI i) _ (nI t) v) u v
    simp only [g_XTr_several_51, g_MMo_others_311, hM]
    rw [if_pos (nI_le (by omega) (by omega)), if_pos (nI_lt (by omega) (by omega))]
    exact Sim.mk ok0 h13 hC rfl rfl rfl
  | succ d ih =>
    intro t fX fM u v ht hX hF hC h13 hx4 hx6 hx9 hm8 hm12
    obtain ⟨f, rfl⟩ : ∃ f, fX = f + 1 := ⟨fX - 1, by omega⟩
    obtain ⟨g, rfl⟩ : ∃ f, fM = f + 1 := ⟨fM - 1, by omega⟩
    show Sim (g_XTr_several_51 (nI N) _ (nI t) u) (g_MMo_others_311 (nI j) (nI i) _ (nI t) v) u v
    obtain ⟨r, hr, er⟩ := pk_andE (nI i + nI t) (m := 15) 4 rfl
    have hr : r < 16 := hr
    have ea : nI a2 + (4 : Int32) * nI t = nI (a2 + 4 * t) := by rw [show (4 : Int32) = nI 4 from rfl, pk_mul, nI_add]
    have hR : xR u = mA v 2 := hC.2.1
    obtain ⟨b, hb, hxb, hmb⟩ := hC.nb
    have hA4 : a2 + 4 * t + 4 ≤ 1024 := by omega
    simp +decide only [g_XTr_several_51, g_MMo_others_311, hM, if_neg (nI_ge (show t < N by omega) (show N < 2 ^ 31 by omega)), if_neg (nI_nlt (show t ≤ N - 1 by omega) (show N - 1 < 2 ^ 31 by omega)), nmE, jnE, hx4, hx6, hx9, hm8, hm12, er, ea, ↓reduceIte, x_val _ rfl hr, x_putR _ _ rfl hr, hR, ckIN (n := 16) (A := r) rfl hr (by decide), nI_clamp (show r < 2 ^ 31 by omega), nI_1, x_word u hb hxb (A := a2 + 4 * t) rfl hA4, m_take v hb hmb (n := 4) (A := a2 + 4 * t) (N := 4) rfl rfl hA4 (by decide), lN_i, bd1S]
    refine Sim.from (ih (t + 1) f g _ _ (by omega) (by omega) (by omega) (hC.reg _ _) h13 hx4 hx6 hx9 hm8 hm12) rfl rfl rfl
theorem op_144 {u : XS} {v : MS} {s i j a1 a2 at0 : Nat} (h : Dd u v 144 s i j a1 a2 at0) : Out (f_XPr_perform u) v := by
  obtain ⟨n, hn, hnx, hbh, hact⟩ := h.act
  have hact := hact.2.2.1 (by decide) (by decide)
  obtain ⟨hC, ⟨-, hs, hi, hj, h1, h2⟩, ⟨hlo, hhi, hsij⟩, ⟨hx4, hm8⟩, ⟨hx5, hm10⟩, ⟨hx6, hx7⟩, hA2, hA1, hA12, ⟨h13, h0, hat⟩, -⟩ := h
  have hx4 : xF u 4 = 144 := hx4
  have hm8 : mF v 8 = 144 := hm8
  have hR : xR u = mA v 2 := hC.2.1
  obtain ⟨hx9, hm12⟩ := hA2 (by decide)
  obtain ⟨hx8, hm11⟩ := hA1 (by decide)
  obtain ⟨M, hM, eM⟩ := pk_andE (nI j - nI i) (m := 15) 4 rfl
  have hM : M < 16 := hM
  have e16 : ((nI j - nI i) + 16) &&& 15 = nI M := by rw [and16, eM]
  have e4 : (4 : Int32) * nI (M + 1) = nI (4 * (M + 1)) := by rw [show (4 : Int32) = nI 4 from rfl, pk_mul]
  have e3 : nI a2 &&& 3 = nI (a2 % 4) := pk_andN (by omega) 2 rfl
  have lh := fun w => lies_holds w u (nI a2) (n := nI (4 * (M + 1))) (N := 4 * (M + 1)) rfl (by omega)
  by_cases q : a2 % 4 = 0
  · have q0 : nI a2 &&& 3 = 0 := by rw [e3, q]; rfl
    have q1 : nI a2 &&& 3 ≤ 0 := by rw [q0]; decide
    cases hh : f_XMe_holds u (nI a2) (nI (4 * (M + 1))) with
    | false =>
      have hl : f_MMo_looks v = some (msF v 13 5) := by simp +decide only [f_MMo_looks, bI0, wrong_f, f_MMo_low, f_MMo_high, nmE, jnE, bd1S, hm10, hm8, hlo, hhi, mF_F, mA_F, mF_A, Nat.reduceEqDiff, ↓reduceIte, bd1_id, ckIN (n := 16) (A := j) rfl hj (by decide), ckIN (n := 16) (A := i) rfl hi (by decide), nI_clamp (show j < 2 ^ 31 by omega), nI_clamp (show i < 2 ^ 31 by omega), hm11, hm12, ite_self, wrong_t v 5 h13, wrong_5, e16, nI_1, e4, if_pos q1, lh, hh]
      have eX : f_XPr_perform u = (5, u) := by simp +decide only [f_XPr_perform, prI, prE, nmE, jnE, hx4, hx5, hx6, hx7, bI0, ↓reduceIte, x_val _ rfl hi, x_val _ rfl hj, x_putR _ _ rfl hi, hR, xF_R, xF_F, xR_R, xR_F, hnx, hbh, hx8, hx9, f_XTr_perform, f_XTr_several, eM, nI_1, e4, if_pos q0, hh]
      rw [eX]
      exact Out.no hl rfl (by unfold nok; decide) hC
    | true =>
      obtain ⟨A', e, h'⟩ := (holds_iff u (nI a2) (n := nI (4 * (M + 1))) (N := 4 * (M + 1)) rfl (by omega)).mp hh
      have hA' : a2 = A' := (nI_eq (by omega) (by omega)).mp e
      have hl : f_MMo_looks v = some v := by simp +decide only [f_MMo_looks, bI0, wrong_f, f_MMo_low, f_MMo_high, nmE, jnE, bd1S, hm10, hm8, hlo, hhi, mF_F, mA_F, mF_A, Nat.reduceEqDiff, ↓reduceIte, bd1_id, ckIN (n := 16) (A := j) rfl hj (by decide), ckIN (n := 16) (A := i) rfl hi (by decide), nI_clamp (show j < 2 ^ 31 by omega), nI_clamp (show i < 2 ^ 31 by omega), hm11, hm12, ite_self, wrong_f, e16, nI_1, e4, if_pos q1, lh, hh]
      refine Sim.out (n := n) (r := f_MMo_others v (nI n)) ?_ hl h13 hact hnx hn
      simp +decide only [f_XPr_perform, prI, prE, nmE, jnE, hx4, hx5, hx6, hx7, bI0, ↓reduceIte, x_val _ rfl hi, x_val _ rfl hj, x_putR _ _ rfl hi, hR, xF_R, xF_F, xR_R, xR_F, hnx, hbh, hx8, hx9, f_MMo_others, f_MMo_goes, bI0, bIe, f_MMo_low, f_MMo_high, nmE, jnE, bd1S, hm10, hm8, hlo, hhi, mF_F, mA_F, mF_A, Nat.reduceEqDiff, ↓reduceIte, bd1_id, ckIN (n := 16) (A := j) rfl hj (by decide), ckIN (n := 16) (A := i) rfl hi (by decide), nI_clamp (show j < 2 ^ 31 by omega), nI_clamp (show i < 2 ^ 31 by omega), hm12, f_XTr_perform, f_XTr_several, eM, nI_1, e4, if_pos q0, hh]
      exact sim_sev_144 (N := M + 1) (by omega) (by omega) e16 (M + 1) 0 _ _ u (msF v 2 (nI n)) (by omega) (by rw [nI_toInt (by omega), show (0 : Int32).toInt = 0 from rfl]; omega) (by unfold fuelM; omega) (hC.mn _) h13 hx4 hx6 hx9 hm8 hm12
  · have q0 : ¬ nI a2 &&& 3 = 0 := by rw [e3]; exact nI_ne0 (by omega) (by omega)
    have q1 : ¬ nI a2 &&& 3 ≤ 0 := by rw [e3]; exact nI_nle (by omega) (by omega)
    have hl : f_MMo_looks v = some (msF v 13 6) := by simp +decide only [f_MMo_looks, bI0, wrong_f, f_MMo_low, f_MMo_high, nmE, jnE, bd1S, hm10, hm8, hlo, hhi, mF_F, mA_F, mF_A, Nat.reduceEqDiff, ↓reduceIte, bd1_id, ckIN (n := 16) (A := j) rfl hj (by decide), ckIN (n := 16) (A := i) rfl hi (by decide), nI_clamp (show j < 2 ^ 31 by omega), nI_clamp (show i < 2 ^ 31 by omega), hm11, hm12, ite_self, wrong_t v 6 h13, wrong_6, e16, nI_1, e4, if_neg q1, lh]
    have eX : f_XPr_perform u = (6, u) := by simp +decide only [f_XPr_perform, prI, prE, nmE, jnE, hx4, hx5, hx6, hx7, bI0, ↓reduceIte, x_val _ rfl hi, x_val _ rfl hj, x_putR _ _ rfl hi, hR, xF_R, xF_F, xR_R, xR_F, hnx, hbh, hx8, hx9, f_XTr_perform, f_XTr_several, if_neg q0]
    rw [eX]
    exact Out.no hl rfl (by unfold nok; decide) hC
theorem op_152 {u : XS} {v : MS} {s i j a1 a2 at0 : Nat} (h : Dd u v 152 s i j a1 a2 at0) : Out (f_XPr_perform u) v := by
  obtain ⟨n, hn, hnx, hbh, hact⟩ := h.act
  have hact := hact.2.2.1 (by decide) (by decide)
  obtain ⟨hC, ⟨-, hs, hi, hj, h1, h2⟩, ⟨hlo, hhi, hsij⟩, ⟨hx4, hm8⟩, ⟨hx5, hm10⟩, ⟨hx6, hx7⟩, hA2, hA1, hA12, ⟨h13, h0, hat⟩, -⟩ := h
  have hx4 : xF u 4 = 152 := hx4
  have hm8 : mF v 8 = 152 := hm8
  have hR : xR u = mA v 2 := hC.2.1
  obtain ⟨hx9, hm12⟩ := hA2 (by decide)
  obtain ⟨hx8, hm11⟩ := hA1 (by decide)
  obtain ⟨M, hM, eM⟩ := pk_andE (nI j - nI i) (m := 15) 4 rfl
  have hM : M < 16 := hM
  have e16 : ((nI j - nI i) + 16) &&& 15 = nI M := by rw [and16, eM]
  have e4 : (4 : Int32) * nI (M + 1) = nI (4 * (M + 1)) := by rw [show (4 : Int32) = nI 4 from rfl, pk_mul]
  have e3 : nI a2 &&& 3 = nI (a2 % 4) := pk_andN (by omega) 2 rfl
  have lh := fun w => lies_holds w u (nI a2) (n := nI (4 * (M + 1))) (N := 4 * (M + 1)) rfl (by omega)
  by_cases q : a2 % 4 = 0
  · have q0 : nI a2 &&& 3 = 0 := by rw [e3, q]; rfl
    have q1 : nI a2 &&& 3 ≤ 0 := by rw [q0]; decide
    cases hh : f_XMe_holds u (nI a2) (nI (4 * (M + 1))) with
    | false =>
      have hl : f_MMo_looks v = some (msF v 13 5) := by simp +decide only [f_MMo_looks, bI0, wrong_f, f_MMo_low, f_MMo_high, nmE, jnE, bd1S, hm10, hm8, hlo, hhi, mF_F, mA_F, mF_A, Nat.reduceEqDiff, ↓reduceIte, bd1_id, ckIN (n := 16) (A := j) rfl hj (by decide), ckIN (n := 16) (A := i) rfl hi (by decide), nI_clamp (show j < 2 ^ 31 by omega), nI_clamp (show i < 2 ^ 31 by omega), hm11, hm12, ite_self, wrong_t v 5 h13, wrong_5, e16, nI_1, e4, if_pos q1, lh, hh]
      have eX : f_XPr_perform u = (5, u) := by simp +decide only [f_XPr_perform, prI, prE, nmE, jnE, hx4, hx5, hx6, hx7, bI0, ↓reduceIte, x_val _ rfl hi, x_val _ rfl hj, x_putR _ _ rfl hi, hR, xF_R, xF_F, xR_R, xR_F, hnx, hbh, hx8, hx9, f_XTr_perform, f_XTr_several, eM, nI_1, e4, if_pos q0, hh]
      rw [eX]
      exact Out.no hl rfl (by unfold nok; decide) hC
    | true =>
      obtain ⟨A', e, h'⟩ := (holds_iff u (nI a2) (n := nI (4 * (M + 1))) (N := 4 * (M + 1)) rfl (by omega)).mp hh
      have hA' : a2 = A' := (nI_eq (by omega) (by omega)).mp e
      have hl : f_MMo_looks v = some v := by simp +decide only [f_MMo_looks, bI0, wrong_f, f_MMo_low, f_MMo_high, nmE, jnE, bd1S, hm10, hm8, hlo, hhi, mF_F, mA_F, mF_A, Nat.reduceEqDiff, ↓reduceIte, bd1_id, ckIN (n := 16) (A := j) rfl hj (by decide), ckIN (n := 16) (A := i) rfl hi (by decide), nI_clamp (show j < 2 ^ 31 by omega), nI_clamp (show i < 2 ^ 31 by omega), hm11, hm12, ite_self, wrong_f, e16, nI_1, e4, if_pos q1, lh, hh]
      refine Sim.out (n := n) (r := f_MMo_others v (nI n)) ?_ hl h13 hact hnx hn
      simp +decide only [f_XPr_perform, prI, prE, nmE, jnE, hx4, hx5, hx6, hx7, bI0, ↓reduceIte, x_val _ rfl hi, x_val _ rfl hj, x_putR _ _ rfl hi, hR, xF_R, xF_F, xR_R, xR_F, hnx, hbh, hx8, hx9, f_MMo_others, f_MMo_goes, bI0, bIe, f_MMo_low, f_MMo_high, nmE, jnE, bd1S, hm10, hm8, hlo, hhi, mF_F, mA_F, mF_A, Nat.reduceEqDiff, ↓reduceIte, bd1_id, ckIN (n := 16) (A := j) rfl hj (by decide), ckIN (n := 16) (A := i) rfl hi (by decide), nI_clamp (show j < 2 ^ 31 by omega), nI_clamp (show i < 2 ^ 31 by omega), hm12, f_XTr_perform, f_XTr_several, eM, nI_1, e4, if_pos q0, hh]
      exact sim_sev_152 (N := M + 1) (by omega) (by omega) e16 (M + 1) 0 _ _ u (msF v 2 (nI n)) (by omega) (by rw [nI_toInt (by omega), show (0 : Int32).toInt = 0 from rfl]; omega) (by unfold fuelM; omega) (hC.mn _) h13 hx4 hx6 hx9 hm8 hm12
  · have q0 : ¬ nI a2 &&& 3 = 0 := by rw [e3]; exact nI_ne0 (by omega) (by omega)
    have q1 : ¬ nI a2 &&& 3 ≤ 0 := by rw [e3]; exact nI_nle (by omega) (by omega)
    have hl : f_MMo_looks v = some (msF v 13 6) := by simp +decide only [f_MMo_looks, bI0, wrong_f, f_MMo_low, f_MMo_high, nmE, jnE, bd1S, hm10, hm8, hlo, hhi, mF_F, mA_F, mF_A, Nat.reduceEqDiff, ↓reduceIte, bd1_id, ckIN (n := 16) (A := j) rfl hj (by decide), ckIN (n := 16) (A := i) rfl hi (by decide), nI_clamp (show j < 2 ^ 31 by omega), nI_clamp (show i < 2 ^ 31 by omega), hm11, hm12, ite_self, wrong_t v 6 h13, wrong_6, e16, nI_1, e4, if_neg q1, lh]
    have eX : f_XPr_perform u = (6, u) := by simp +decide only [f_XPr_perform, prI, prE, nmE, jnE, hx4, hx5, hx6, hx7, bI0, ↓reduceIte, x_val _ rfl hi, x_val _ rfl hj, x_putR _ _ rfl hi, hR, xF_R, xF_F, xR_R, xR_F, hnx, hbh, hx8, hx9, f_XTr_perform, f_XTr_several, if_neg q0]
    rw [eX]
    exact Out.no hl rfl (by unfold nok; decide) hC
