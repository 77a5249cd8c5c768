/-! instructions of four octets without an index -/
theorem Core.put {u : XS} {v : MS} (h : Core u v) (A : Nat) {x : Int32} (hx : 0 ≤ x.toInt ∧ x.toInt < 256) : Core (xsM u A x) (msA v 1 A x) := by
  obtain ⟨h1, h2, h3, h4, h5⟩ := h
  refine ⟨?_, h2, h3, fun i => ?_, h5⟩
  · show upd (xM u) A x = upd (mA v 1) A x
    rw [h1]
  · show 0 ≤ (upd (xM u) A x i).toInt ∧ (upd (xM u) A x i).toInt < 256
    rw [updE]
    split
    · exact hx
    · exact h4 i
theorem nb_ok {n : Nat} (h : n < 256) : 0 ≤ (nI n).toInt ∧ (nI n).toInt < 256 := by rw [nI_toInt (by omega)]; omega
theorem or1 {j : Nat} (hj : j < 16) : ∃ k, k < 16 ∧ nI j ||| 1 = nI k := ⟨j ||| 1, Nat.or_lt_two_pow (n := 4) hj (by decide), nx_or j 1⟩
theorem x_of (x : Int32) : ∃ m, m < 4294967296 ∧ x = nI m ∧ x.toInt64 &&& 4294967295 = lN m := by
  obtain ⟨m, hm, e⟩ := wb_of32 x
  refine ⟨m, hm, e, ?_⟩
  have hb : x.toBitVec.toNat = m := by rw [e]; exact pk_tn hm
  obtain ⟨k, hk, ek⟩ := wb_of x.toInt64
  have h1 : x.toInt64.toInt = x.toInt := Int32.toInt_toInt64 ..
  have h2 : x.toInt = if 2 * m < 4294967296 then (m : Int) else (m : Int) - 4294967296 := by
    rw [← hb]
    exact BitVec.toInt_eq_toNat_cond _
  have h3 : lN k &&& 4294967295 = lN (k % 4294967296) := wb_mask (k := 32) hk (by decide)
  rw [ek] at h1 ⊢
  rw [h3]
  rw [lN_ti hk] at h1
  congr 1
  split at h1 <;> split at h2 <;> omega
theorem srl_eq (x : Int32) {k : Nat} (hk : k < 64) : (Int64.toInt32 ((Int64.toUInt64 (x.toInt64 &&& 4294967295) >>> ((nI k).toInt64.toUInt64 &&& Int64.toUInt64 63)).toInt64)) = if nI k ≤ 31 then (x.toUInt32 >>> ((nI k).toUInt32 &&& Int32.toUInt32 31)).toInt32 else 0 := by
  obtain ⟨m, hm, e, e2⟩ := x_of x
  rw [e2, wb_shr (by omega) hk, lN_i]
  have hd : (nI k ≤ (31 : Int32)) ↔ k ≤ 31 := nI_leI (b := 31) (by omega) (by decide)
  by_cases c : k ≤ 31
  · rw [if_pos (hd.mpr c), e, pk_ushrN hm _ k (s_u k (by omega))]
  · rw [if_neg (fun h => c (hd.mp h)), Nat.div_eq_of_lt]
    · rfl
    · have : 2 ^ 32 ≤ 2 ^ k := Nat.pow_le_pow_right (by decide) (by omega)
      omega
theorem sll_eq (x : Int32) {k : Nat} (hk : k < 64) : (Int64.toInt32 ((x.toInt64 &&& 4294967295) <<< ((nI k).toInt64 &&& 63))) = if nI k ≤ 31 then x <<< (nI k &&& 31) else 0 := by
  obtain ⟨m, hm, e, e2⟩ := x_of x
  rw [e2, wb_shl _ hk, lN_i]
  have hd : (nI k ≤ (31 : Int32)) ↔ k ≤ 31 := nI_leI (b := 31) (by omega) (by decide)
  by_cases c : k ≤ 31
  · rw [if_pos (hd.mpr c), e]
    apply i_inj
    apply BitVec.eq_of_toNat_eq
    rw [pk_shl _ _ k (s_l k (by omega)), pk_tn hm]
    rw [nI_bv, BitVec.toNat_ofNat]
  · rw [if_neg (fun h => c (hd.mp h)), nx_mod32]
    have : m * 2 ^ k % 4294967296 = 0 := by
      have h : 2 ^ k = 2 ^ 32 * 2 ^ (k - 32) := by rw [← Nat.pow_add]; congr 1; omega
      rw [h, Nat.mul_left_comm]
      exact Nat.mul_mod_right _ _
    rw [this]
    rfl
theorem l_shr (y : Int64) {k : Nat} (hk : k < 64) : (y >>> ((nI k).toInt64 &&& 63)).toInt = y.toInt / 2 ^ k := by
  have h : (((nI k).toInt64 &&& 63).toBitVec.smod 64).toNat = k := by rw [wb_c k hk, wb_tb, wb_sm k hk, BitVec.toNat_ofNat]; omega
  show (y >>> ((nI k).toInt64 &&& 63)).toBitVec.toInt = _
  rw [Int64.toBitVec_shiftRight, BitVec.sshiftRight_eq', h, BitVec.toInt_sshiftRight, Int.shiftRight_eq_div_pow]
  rfl
theorem i_shr (x : Int32) {k : Nat} (hk : k < 32) : (x >>> (nI k &&& 31)).toInt = x.toInt / 2 ^ k := by
  rw [pk_shr x _ k (s_l k hk), Int.shiftRight_eq_div_pow]
  rfl
theorem sra_eq (x : Int32) {k : Nat} (hk : k < 64) : x.toInt64 >>> ((nI k).toInt64 &&& 63) = (if nI k ≤ 31 then x >>> (nI k &&& 31) else x >>> ((31 : Int32) &&& 31)).toInt64 := by
  apply Int64.toInt_inj.mp
  rw [l_shr _ hk, Int32.toInt_toInt64, Int32.toInt_toInt64]
  have hd : (nI k ≤ (31 : Int32)) ↔ k ≤ 31 := nI_leI (b := 31) (by omega) (by decide)
  by_cases c : k ≤ 31
  · rw [if_pos (hd.mpr c)]
    have := i_shr x (show k < 32 by omega)
    exact this.symm
  · rw [if_neg (fun h => c (hd.mp h))]
    have h31 := i_shr x (show 31 < 32 by omega)
    have h32 : (x >>> ((31 : Int32) &&& 31)).toInt = x.toInt / 2 ^ 31 := h31
    rw [h32]
    have h1 := x.toInt_lt
    have h2 := x.le_toInt
    have hp : (2 : Int) ^ 32 ≤ 2 ^ k := by
      have : 2 ^ 32 ≤ 2 ^ k := Nat.pow_le_pow_right (by decide) (by omega)
      exact_mod_cast this
    generalize (2 : Int) ^ k = P at hp ⊢
    by_cases d : 0 ≤ x.toInt
    · rw [Int.ediv_eq_zero_of_lt d (by omega)]
      omega
    · have e1 : x.toInt / P = -1 := by
        have hP : 0 < P := by omega
        apply Int.le_antisymm
        · have := Int.ediv_lt_of_lt_mul hP (show x.toInt < 0 * P by omega)
          omega
        · apply Int.le_ediv_of_mul_le hP
          omega
      rw [e1]
      omega
/-- bits of a place -/
theorem bt_min : ∀ i, i < 32 → bt (-2147483648) i = decide (i = 31) := by decide +kernel
theorem bt_1 : ∀ i, i < 32 → bt 1 i = decide (i = 0) := by decide +kernel
theorem and_min (a b : Int32) : (a &&& -2147483648 = b &&& -2147483648) ↔ bt a 31 = bt b 31 := by
  constructor
  · intro h
    have := congrArg (fun x => bt x 31) h
    simpa [b_and, bt_min 31 (by decide)] using this
  · intro h
    apply b_ext
    intro i hi
    rw [b_and, b_and, bt_min i hi]
    by_cases c : i = 31
    · rw [c, h]
    · simp [c]
theorem and_one (a b : Int32) : (a &&& 1 = b &&& 1) ↔ bt a 0 = bt b 0 := by
  constructor
  · intro h
    have := congrArg (fun x => bt x 0) h
    simpa [b_and, bt_1 0 (by decide)] using this
  · intro h
    apply b_ext
    intro i hi
    rw [b_and, b_and, bt_1 i hi]
    by_cases c : i = 0
    · rw [c, h]
    · simp [c]
theorem sla_c (v x : Int32) : ((v <<< ((1 : Int32) &&& 31)) &&& -2147483648 = x &&& -2147483648) = ((v >>> ((30 : Int32) &&& 31)) &&& 1 = (x >>> ((31 : Int32) &&& 31)) &&& 1) := by
  apply propext
  rw [and_min, and_one]
  have e1 : bt (v <<< ((1 : Int32) &&& 31)) 31 = bt v 30 := by rw [show (1 : Int32) = nI 1 from rfl, b_shl 1 (by decide) v (by decide)]; rfl
  have e2 : bt (v >>> ((30 : Int32) &&& 31)) 0 = bt v 30 := by rw [show (30 : Int32) = nI 30 from rfl]; exact b_sshr 30 (by decide) v (by decide)
  have e3 : bt (x >>> ((31 : Int32) &&& 31)) 0 = bt x 31 := b_sshr 31 (by decide) x (by decide)
  rw [e1, e2, e3]
def slaS (x : Int32) (q : Int32 × Bool) : Int32 × Bool := (((q.1 <<< ((1 : Int32) &&& 31)) &&& 2147483647) ||| (x &&& -2147483648), if q.2 = false then (if (q.1 >>> ((30 : Int32) &&& 31)) &&& 1 = (x >>> ((31 : Int32) &&& 31)) &&& 1 then false else true) else true)
def slaN (x : Int32) : Nat → Int32 × Bool → Int32 × Bool
  | 0, q => q
  | d + 1, q => slaN x d (slaS x q)
theorem x_sla (x : Int32) (KX : Int32 → Int32 → Int32 × XS) (k : Nat) (hk : k < 64) : ∀ (d t fuel : Nat) (q : Int32 × Bool), t + d = k → d < fuel → lpN fuel (g_XAr_shiftLeftBelowSign_21 (nI k) KX (x &&& -2147483648)) (fun _ _ _ => default) q.1 (bI q.2) (nI t) = KX (slaN x d q).1 (bI (slaN x d q).2) := by
  intro d
  induction d with
  | zero =>
    intro t fuel q ht hf
    obtain ⟨f, rfl⟩ : ∃ f, fuel = f + 1 := ⟨fuel - 1, by omega⟩
    show g_XAr_shiftLeftBelowSign_21 (nI k) KX _ _ _ _ (nI t) = _
    simp only [g_XAr_shiftLeftBelowSign_21]
    rw [if_pos (nI_le (by omega) (by omega))]
    rfl
  | succ d ih =>
    intro t fuel q ht hf
    obtain ⟨f, rfl⟩ : ∃ f, fuel = f + 1 := ⟨fuel - 1, by omega⟩
    show g_XAr_shiftLeftBelowSign_21 (nI k) KX _ _ _ _ (nI t) = _
    have h := ih (t + 1) f (slaS x q) (by omega) (by omega)
    simp only [g_XAr_shiftLeftBelowSign_21, nmE, jnE, bI0, nI_1, sla_c]
    rw [if_neg (nI_ge (by omega) (by omega)), slaN, ← h]
    unfold slaS
    by_cases c1 : q.2 = false
    · simp only [if_pos c1]
      by_cases c2 : (q.1 >>> ((30 : Int32) &&& 31)) &&& 1 = (x >>> ((31 : Int32) &&& 31)) &&& 1
      · simp only [if_pos c2]
      · simp only [if_neg c2]
    · simp only [if_neg c1]
theorem m_sla (x : Int32) (KM : Int32 → Bool → Option MS) (k : Nat) (hk : k < 64) : ∀ (d t fuel : Nat) (q : Int32 × Bool), t + d = k → d < fuel → lpN fuel (g_MMo_left_9 (nI k) KM x) (fun _ _ _ => none) q.1 q.2 (nI t) = KM (slaN x d q).1 (slaN x d q).2 := by
  intro d
  induction d with
  | zero =>
    intro t fuel q ht hf
    obtain ⟨f, rfl⟩ : ∃ f, fuel = f + 1 := ⟨fuel - 1, by omega⟩
    show g_MMo_left_9 (nI k) KM x _ _ _ (nI t) = _
    simp only [g_MMo_left_9]
    rw [if_pos (nI_le (by omega) (by omega))]
    rfl
  | succ d ih =>
    intro t fuel q ht hf
    obtain ⟨f, rfl⟩ : ∃ f, fuel = f + 1 := ⟨fuel - 1, by omega⟩
    show g_MMo_left_9 (nI k) KM x _ _ _ (nI t) = _
    have h := ih (t + 1) f (slaS x q) (by omega) (by omega)
    simp only [g_MMo_left_9, nmE, jnE, nI_1]
    rw [if_neg (nI_ge (by omega) (by omega)), slaN, ← h]
    unfold slaS
    obtain ⟨q1, q2⟩ := q
    cases q2
    · simp only [↓reduceIte, Bool.false_or]
      by_cases c2 : (q1 >>> ((30 : Int32) &&& 31)) &&& 1 = (x >>> ((31 : Int32) &&& 31)) &&& 1
      · simp only [if_pos c2]
      · simp only [if_neg c2]
    · simp only [reduceCtorEq, ↓reduceIte, Bool.true_or, ite_self]
theorem sim_sla {u : XS} {v : MS} (hC : Core u v) (h13 : mF v 13 = 0) {i : Nat} (hi : i < 16) {k : Nat} (hk : k < 64) : Sim (f_XAr_shiftLeftBelowSign u (nI i) (nI k)) (f_MMo_left v (nI i) (mA v 2 i) (nI k)) u v := by
  have hR : xR u = mA v 2 := hC.2.1
  have h3 : xF u 2 = mF v 3 := hC.2.2.1.2.1
  simp only [f_XAr_shiftLeftBelowSign, f_MMo_left, nmE, jnE, x_val _ rfl hi, hR]
  have e1 := fun KX => x_sla (mA v 2 i) KX k hk k 0 ((Int32.toInt (nI k) - Int32.toInt (0 : Int32)).toNat + 1) (mA v 2 i, false) (by omega) (by rw [nI_toInt (by omega), show (0 : Int32).toInt = 0 from rfl]; omega)
  have e2 := fun KM => m_sla (mA v 2 i) KM k hk k 0 fuelM (mA v 2 i, false) (by omega) (by unfold fuelM; omega)
  simp only [show nI 0 = (0 : Int32) from rfl, show bI false = (0 : Int32) from rfl] at e1 e2
  rw [e1, e2]
  generalize slaN (mA v 2 i) k (mA v 2 i, false) = q
  obtain ⟨q1, q2⟩ := q
  simp only [x_putR _ _ rfl hi, cond_sign, sign_64, m_sign, bd1S, f_XSt_fixedOverflow, nmE, bI0, ckIN (n := 16) rfl hi (by decide), nI_clamp (show i < 2 ^ 31 by omega)]
  cases q2
  · simp only [↓reduceIte]
    exact Sim.mk ok0 h13 ((hC.reg i _).cc _ (sgn_3 _ _)) rfl rfl rfl
  · simp only [reduceCtorEq, ↓reduceIte, xsF_2, xF_F, xF_R, mF_F, mF_A, Nat.reduceEqDiff, and1_le, h3]
    by_cases d : mF v 3 &&& 1 = 0
    · simp only [if_pos d, prE]
      exact Sim.mk ok0 h13 ((hC.reg i _).cc _ (by decide)) rfl rfl rfl
    · simp only [if_neg d, prE]
      exact Sim.mk ok8 rfl (((hC.reg i _).cc _ (by decide)).fl _) rfl rfl rfl

theorem op_134 {u : XS} {v : MS} {s i j a1 a2 at0 : Nat} (h : Dd u v 134 s i j a1 a2 at0) : Out (f_XPr_perform u) v := by
  obtain ⟨n, hn, hnx, hbh, hact⟩ := h.act
  have hact := hact.2.2.1 (by decide) (by decide)
  obtain ⟨hC, ⟨-, hs, hi, hj, h1, h2⟩, ⟨hlo, hhi, hsij⟩, ⟨hx4, hm8⟩, ⟨hx5, hm10⟩, ⟨hx6, hx7⟩, hA2, hA1, hA12, ⟨h13, h0, hat⟩, -⟩ := h
  have hx4 : xF u 4 = 134 := hx4
  have hm8 : mF v 8 = 134 := hm8
  have hR : xR u = mA v 2 := hC.2.1
  obtain ⟨hx9, hm12⟩ := hA2 (by decide)
  obtain ⟨hx8, hm11⟩ := hA1 (by decide)
  have hl : f_MMo_looks v = some v := by simp +decide only [f_MMo_looks, bI0, wrong_f, f_MMo_low, f_MMo_high, nmE, jnE, bd1S, hm10, hm8, hlo, hhi, mF_F, mA_F, mF_A, Nat.reduceEqDiff, ↓reduceIte, bd1_id, ckIN (n := 16) (A := j) rfl hj (by decide), ckIN (n := 16) (A := i) rfl hi (by decide), nI_clamp (show j < 2 ^ 31 by omega), nI_clamp (show i < 2 ^ 31 by omega), hm11, hm12, ite_self]
  have ea : nI a2 &&& 16777215 = nI a2 := by rw [pk_andN (by omega) 24 rfl, Nat.mod_eq_of_lt (by omega)]
  obtain ⟨j1, hj1, ej1⟩ := or1 hj
  by_cases d : mA v 2 i + mA v 2 j ≤ mA v 2 j1
  · have eX : f_XPr_perform u = (0, xsR u i (mA v 2 i + mA v 2 j)) := by simp +decide only [f_XPr_perform, prI, prE, nmE, jnE, hx4, hx5, hx6, hx7, bI0, ↓reduceIte, x_val _ rfl hi, x_val _ rfl hj, x_putR _ _ rfl hi, hR, xF_R, xF_F, xR_R, xR_F, hnx, hbh, hx8, hx9, f_XBr_perform, f_XBr_decide, f_XBr_isAboveAfterStep, ej1, x_val _ rfl hj1, if_pos d, bI1]
    have eM : f_MMo_acts v = some (msA (msF v 2 (nI n)) 2 i (mA v 2 i + mA v 2 j)) := by rw [hact]; simp +decide only [f_MMo_others, f_MMo_goes, bI0, bIe, f_MMo_low, f_MMo_high, nmE, jnE, bd1S, hm10, hm8, hlo, hhi, mF_F, mA_F, mF_A, Nat.reduceEqDiff, ↓reduceIte, bd1_id, ckIN (n := 16) (A := j) rfl hj (by decide), ckIN (n := 16) (A := i) rfl hi (by decide), nI_clamp (show j < 2 ^ 31 by omega), nI_clamp (show i < 2 ^ 31 by omega), hm12, ej1, ckIN (n := 16) (A := j1) rfl hj1 (by decide), nI_clamp (show j1 < 2 ^ 31 by omega), msA_at, if_pos d]
    rw [eX]
    refine Out.ok hl h13 ok0 ?_
    rw [eM]
    exact Done.mk (t := n) h13 ((hC.mn _).reg _ _) rfl hnx rfl (by omega)
  · have eX : f_XPr_perform u = (0, xsF (xsR u i (mA v 2 i + mA v 2 j)) 0 (nI a2)) := by simp +decide only [f_XPr_perform, prI, prE, nmE, jnE, hx4, hx5, hx6, hx7, bI0, ↓reduceIte, x_val _ rfl hi, x_val _ rfl hj, x_putR _ _ rfl hi, hR, xF_R, xF_F, xR_R, xR_F, hnx, hbh, hx8, hx9, f_XBr_perform, f_XBr_decide, f_XBr_isAboveAfterStep, ej1, x_val _ rfl hj1, if_neg d, bI1]
    have eM : f_MMo_acts v = some (msF (msA (msF v 2 (nI n)) 2 i (mA v 2 i + mA v 2 j)) 2 (nI a2)) := by rw [hact]; simp +decide only [f_MMo_others, f_MMo_goes, bI0, bIe, f_MMo_low, f_MMo_high, nmE, jnE, bd1S, hm10, hm8, hlo, hhi, mF_F, mA_F, mF_A, Nat.reduceEqDiff, ↓reduceIte, bd1_id, ckIN (n := 16) (A := j) rfl hj (by decide), ckIN (n := 16) (A := i) rfl hi (by decide), nI_clamp (show j < 2 ^ 31 by omega), nI_clamp (show i < 2 ^ 31 by omega), hm12, ej1, ckIN (n := 16) (A := j1) rfl hj1 (by decide), nI_clamp (show j1 < 2 ^ 31 by omega), msA_at, if_neg d, ea]
    rw [eX]
    refine Out.ok hl h13 ok0 ?_
    rw [eM]
    exact Done.mk (t := a2) h13 ((((hC.mn _).reg _ _).xn _).mn _) rfl rfl rfl (by omega)
theorem op_135 {u : XS} {v : MS} {s i j a1 a2 at0 : Nat} (h : Dd u v 135 s i j a1 a2 at0) : Out (f_XPr_perform u) v := by
  obtain ⟨n, hn, hnx, hbh, hact⟩ := h.act
  have hact := hact.2.2.1 (by decide) (by decide)
  obtain ⟨hC, ⟨-, hs, hi, hj, h1, h2⟩, ⟨hlo, hhi, hsij⟩, ⟨hx4, hm8⟩, ⟨hx5, hm10⟩, ⟨hx6, hx7⟩, hA2, hA1, hA12, ⟨h13, h0, hat⟩, -⟩ := h
  have hx4 : xF u 4 = 135 := hx4
  have hm8 : mF v 8 = 135 := hm8
  have hR : xR u = mA v 2 := hC.2.1
  obtain ⟨hx9, hm12⟩ := hA2 (by decide)
  obtain ⟨hx8, hm11⟩ := hA1 (by decide)
  have hl : f_MMo_looks v = some v := by simp +decide only [f_MMo_looks, bI0, wrong_f, f_MMo_low, f_MMo_high, nmE, jnE, bd1S, hm10, hm8, hlo, hhi, mF_F, mA_F, mF_A, Nat.reduceEqDiff, ↓reduceIte, bd1_id, ckIN (n := 16) (A := j) rfl hj (by decide), ckIN (n := 16) (A := i) rfl hi (by decide), nI_clamp (show j < 2 ^ 31 by omega), nI_clamp (show i < 2 ^ 31 by omega), hm11, hm12, ite_self]
  have ea : nI a2 &&& 16777215 = nI a2 := by rw [pk_andN (by omega) 24 rfl, Nat.mod_eq_of_lt (by omega)]
  obtain ⟨j1, hj1, ej1⟩ := or1 hj
  by_cases d : mA v 2 i + mA v 2 j ≤ mA v 2 j1
  · have eX : f_XPr_perform u = (0, xsF (xsR u i (mA v 2 i + mA v 2 j)) 0 (nI a2)) := by simp +decide only [f_XPr_perform, prI, prE, nmE, jnE, hx4, hx5, hx6, hx7, bI0, ↓reduceIte, x_val _ rfl hi, x_val _ rfl hj, x_putR _ _ rfl hi, hR, xF_R, xF_F, xR_R, xR_F, hnx, hbh, hx8, hx9, f_XBr_perform, f_XBr_decide, f_XBr_isAboveAfterStep, ej1, x_val _ rfl hj1, if_pos d, bI1]
    have eM : f_MMo_acts v = some (msF (msA (msF v 2 (nI n)) 2 i (mA v 2 i + mA v 2 j)) 2 (nI a2)) := by rw [hact]; simp +decide only [f_MMo_others, f_MMo_goes, bI0, bIe, f_MMo_low, f_MMo_high, nmE, jnE, bd1S, hm10, hm8, hlo, hhi, mF_F, mA_F, mF_A, Nat.reduceEqDiff, ↓reduceIte, bd1_id, ckIN (n := 16) (A := j) rfl hj (by decide), ckIN (n := 16) (A := i) rfl hi (by decide), nI_clamp (show j < 2 ^ 31 by omega), nI_clamp (show i < 2 ^ 31 by omega), hm12, ej1, ckIN (n := 16) (A := j1) rfl hj1 (by decide), nI_clamp (show j1 < 2 ^ 31 by omega), msA_at, if_pos d, ea]
    rw [eX]
    refine Out.ok hl h13 ok0 ?_
    rw [eM]
    exact Done.mk (t := a2) h13 ((((hC.mn _).reg _ _).xn _).mn _) rfl rfl rfl (by omega)
  · have eX : f_XPr_perform u = (0, xsR u i (mA v 2 i + mA v 2 j)) := by simp +decide only [f_XPr_perform, prI, prE, nmE, jnE, hx4, hx5, hx6, hx7, bI0, ↓reduceIte, x_val _ rfl hi, x_val _ rfl hj, x_putR _ _ rfl hi, hR, xF_R, xF_F, xR_R, xR_F, hnx, hbh, hx8, hx9, f_XBr_perform, f_XBr_decide, f_XBr_isAboveAfterStep, ej1, x_val _ rfl hj1, if_neg d, bI1]
    have eM : f_MMo_acts v = some (msA (msF v 2 (nI n)) 2 i (mA v 2 i + mA v 2 j)) := by rw [hact]; simp +decide only [f_MMo_others, f_MMo_goes, bI0, bIe, f_MMo_low, f_MMo_high, nmE, jnE, bd1S, hm10, hm8, hlo, hhi, mF_F, mA_F, mF_A, Nat.reduceEqDiff, ↓reduceIte, bd1_id, ckIN (n := 16) (A := j) rfl hj (by decide), ckIN (n := 16) (A := i) rfl hi (by decide), nI_clamp (show j < 2 ^ 31 by omega), nI_clamp (show i < 2 ^ 31 by omega), hm12, ej1, ckIN (n := 16) (A := j1) rfl hj1 (by decide), nI_clamp (show j1 < 2 ^ 31 by omega), msA_at, if_neg d]
    rw [eX]
    refine Out.ok hl h13 ok0 ?_
    rw [eM]
    exact Done.mk (t := n) h13 ((hC.mn _).reg _ _) rfl hnx rfl (by omega)
theorem op_136 {u : XS} {v : MS} {s i j a1 a2 at0 : Nat} (h : Dd u v 136 s i j a1 a2 at0) : Out (f_XPr_perform u) v := by
  obtain ⟨n, hn, hnx, hbh, hact⟩ := h.act
  have hact := hact.2.2.1 (by decide) (by decide)
  obtain ⟨hC, ⟨-, hs, hi, hj, h1, h2⟩, ⟨hlo, hhi, hsij⟩, ⟨hx4, hm8⟩, ⟨hx5, hm10⟩, ⟨hx6, hx7⟩, hA2, hA1, hA12, ⟨h13, h0, hat⟩, -⟩ := h
  have hx4 : xF u 4 = 136 := hx4
  have hm8 : mF v 8 = 136 := hm8
  have hR : xR u = mA v 2 := hC.2.1
  obtain ⟨hx9, hm12⟩ := hA2 (by decide)
  obtain ⟨hx8, hm11⟩ := hA1 (by decide)
  have hl : f_MMo_looks v = some v := by simp +decide only [f_MMo_looks, bI0, wrong_f, f_MMo_low, f_MMo_high, nmE, jnE, bd1S, hm10, hm8, hlo, hhi, mF_F, mA_F, mF_A, Nat.reduceEqDiff, ↓reduceIte, bd1_id, ckIN (n := 16) (A := j) rfl hj (by decide), ckIN (n := 16) (A := i) rfl hi (by decide), nI_clamp (show j < 2 ^ 31 by omega), nI_clamp (show i < 2 ^ 31 by omega), hm11, hm12, ite_self]
  obtain ⟨k, hk, ek⟩ := pk_andE (nI a2) (m := 63) 6 rfl
  have hk : k < 64 := hk
  refine Sim.out (n := n) (r := f_MMo_others v (nI n)) ?_ hl h13 hact hnx hn
  simp +decide only [f_XPr_perform, prI, prE, nmE, jnE, hx4, hx5, hx6, hx7, bI0, ↓reduceIte, x_val _ rfl hi, x_val _ rfl hj, x_putR _ _ rfl hi, hR, xF_R, xF_F, xR_R, xR_F, hnx, hbh, hx8, hx9, f_MMo_others, f_MMo_goes, bI0, bIe, f_MMo_low, f_MMo_high, nmE, jnE, bd1S, hm10, hm8, hlo, hhi, mF_F, mA_F, mF_A, Nat.reduceEqDiff, ↓reduceIte, bd1_id, ckIN (n := 16) (A := j) rfl hj (by decide), ckIN (n := 16) (A := i) rfl hi (by decide), nI_clamp (show j < 2 ^ 31 by omega), nI_clamp (show i < 2 ^ 31 by omega), hm12, ek, f_XAr_shift, srl_eq _ hk]
  by_cases d : nI k ≤ 31
  · simp only [if_pos d]
    exact sim_load (hC.mn _) h13 hi _
  · simp only [if_neg d]
    exact sim_load (hC.mn _) h13 hi _
theorem op_137 {u : XS} {v : MS} {s i j a1 a2 at0 : Nat} (h : Dd u v 137 s i j a1 a2 at0) : Out (f_XPr_perform u) v := by
  obtain ⟨n, hn, hnx, hbh, hact⟩ := h.act
  have hact := hact.2.2.1 (by decide) (by decide)
  obtain ⟨hC, ⟨-, hs, hi, hj, h1, h2⟩, ⟨hlo, hhi, hsij⟩, ⟨hx4, hm8⟩, ⟨hx5, hm10⟩, ⟨hx6, hx7⟩, hA2, hA1, hA12, ⟨h13, h0, hat⟩, -⟩ := h
  have hx4 : xF u 4 = 137 := hx4
  have hm8 : mF v 8 = 137 := hm8
  have hR : xR u = mA v 2 := hC.2.1
  obtain ⟨hx9, hm12⟩ := hA2 (by decide)
  obtain ⟨hx8, hm11⟩ := hA1 (by decide)
  have hl : f_MMo_looks v = some v := by simp +decide only [f_MMo_looks, bI0, wrong_f, f_MMo_low, f_MMo_high, nmE, jnE, bd1S, hm10, hm8, hlo, hhi, mF_F, mA_F, mF_A, Nat.reduceEqDiff, ↓reduceIte, bd1_id, ckIN (n := 16) (A := j) rfl hj (by decide), ckIN (n := 16) (A := i) rfl hi (by decide), nI_clamp (show j < 2 ^ 31 by omega), nI_clamp (show i < 2 ^ 31 by omega), hm11, hm12, ite_self]
  obtain ⟨k, hk, ek⟩ := pk_andE (nI a2) (m := 63) 6 rfl
  have hk : k < 64 := hk
  refine Sim.out (n := n) (r := f_MMo_others v (nI n)) ?_ hl h13 hact hnx hn
  simp +decide only [f_XPr_perform, prI, prE, nmE, jnE, hx4, hx5, hx6, hx7, bI0, ↓reduceIte, x_val _ rfl hi, x_val _ rfl hj, x_putR _ _ rfl hi, hR, xF_R, xF_F, xR_R, xR_F, hnx, hbh, hx8, hx9, f_MMo_others, f_MMo_goes, bI0, bIe, f_MMo_low, f_MMo_high, nmE, jnE, bd1S, hm10, hm8, hlo, hhi, mF_F, mA_F, mF_A, Nat.reduceEqDiff, ↓reduceIte, bd1_id, ckIN (n := 16) (A := j) rfl hj (by decide), ckIN (n := 16) (A := i) rfl hi (by decide), nI_clamp (show j < 2 ^ 31 by omega), nI_clamp (show i < 2 ^ 31 by omega), hm12, ek, f_XAr_shift, sll_eq _ hk]
  by_cases d : nI k ≤ 31
  · simp only [if_pos d]
    exact sim_load (hC.mn _) h13 hi _
  · simp only [if_neg d]
    exact sim_load (hC.mn _) h13 hi _
theorem op_138 {u : XS} {v : MS} {s i j a1 a2 at0 : Nat} (h : Dd u v 138 s i j a1 a2 at0) : Out (f_XPr_perform u) v := by
  obtain ⟨n, hn, hnx, hbh, hact⟩ := h.act
  have hact := hact.2.2.1 (by decide) (by decide)
  obtain ⟨hC, ⟨-, hs, hi, hj, h1, h2⟩, ⟨hlo, hhi, hsij⟩, ⟨hx4, hm8⟩, ⟨hx5, hm10⟩, ⟨hx6, hx7⟩, hA2, hA1, hA12, ⟨h13, h0, hat⟩, -⟩ := h
  have hx4 : xF u 4 = 138 := hx4
  have hm8 : mF v 8 = 138 := hm8
  have hR : xR u = mA v 2 := hC.2.1
  obtain ⟨hx9, hm12⟩ := hA2 (by decide)
  obtain ⟨hx8, hm11⟩ := hA1 (by decide)
  have hl : f_MMo_looks v = some v := by simp +decide only [f_MMo_looks, bI0, wrong_f, f_MMo_low, f_MMo_high, nmE, jnE, bd1S, hm10, hm8, hlo, hhi, mF_F, mA_F, mF_A, Nat.reduceEqDiff, ↓reduceIte, bd1_id, ckIN (n := 16) (A := j) rfl hj (by decide), ckIN (n := 16) (A := i) rfl hi (by decide), nI_clamp (show j < 2 ^ 31 by omega), nI_clamp (show i < 2 ^ 31 by omega), hm11, hm12, ite_self]
  obtain ⟨k, hk, ek⟩ := pk_andE (nI a2) (m := 63) 6 rfl
  have hk : k < 64 := hk
  refine Sim.out (n := n) (r := f_MMo_others v (nI n)) ?_ hl h13 hact hnx hn
  simp +decide only [f_XPr_perform, prI, prE, nmE, jnE, hx4, hx5, hx6, hx7, bI0, ↓reduceIte, x_val _ rfl hi, x_val _ rfl hj, x_putR _ _ rfl hi, hR, xF_R, xF_F, xR_R, xR_F, hnx, hbh, hx8, hx9, f_MMo_others, f_MMo_goes, bI0, bIe, f_MMo_low, f_MMo_high, nmE, jnE, bd1S, hm10, hm8, hlo, hhi, mF_F, mA_F, mF_A, Nat.reduceEqDiff, ↓reduceIte, bd1_id, ckIN (n := 16) (A := j) rfl hj (by decide), ckIN (n := 16) (A := i) rfl hi (by decide), nI_clamp (show j < 2 ^ 31 by omega), nI_clamp (show i < 2 ^ 31 by omega), hm12, ek, f_XAr_shift, sra_eq _ hk, f_XAr_putSigned, i64_i32, cond_sign, sign_64, m_sign, msA_at]
  by_cases d : nI k ≤ 31
  · simp only [if_pos d]
    exact Sim.mk ok0 h13 (((hC.mn _).reg _ _).cc _ (sgn_3 _ _)) rfl rfl rfl
  · simp only [if_neg d]
    exact Sim.mk ok0 h13 (((hC.mn _).reg _ _).cc _ (sgn_3 _ _)) rfl rfl rfl
theorem op_139 {u : XS} {v : MS} {s i j a1 a2 at0 : Nat} (h : Dd u v 139 s i j a1 a2 at0) : Out (f_XPr_perform u) v := by
  obtain ⟨n, hn, hnx, hbh, hact⟩ := h.act
  have hact := hact.2.2.1 (by decide) (by decide)
  obtain ⟨hC, ⟨-, hs, hi, hj, h1, h2⟩, ⟨hlo, hhi, hsij⟩, ⟨hx4, hm8⟩, ⟨hx5, hm10⟩, ⟨hx6, hx7⟩, hA2, hA1, hA12, ⟨h13, h0, hat⟩, -⟩ := h
  have hx4 : xF u 4 = 139 := hx4
  have hm8 : mF v 8 = 139 := hm8
  have hR : xR u = mA v 2 := hC.2.1
  obtain ⟨hx9, hm12⟩ := hA2 (by decide)
  obtain ⟨hx8, hm11⟩ := hA1 (by decide)
  have hl : f_MMo_looks v = some v := by simp +decide only [f_MMo_looks, bI0, wrong_f, f_MMo_low, f_MMo_high, nmE, jnE, bd1S, hm10, hm8, hlo, hhi, mF_F, mA_F, mF_A, Nat.reduceEqDiff, ↓reduceIte, bd1_id, ckIN (n := 16) (A := j) rfl hj (by decide), ckIN (n := 16) (A := i) rfl hi (by decide), nI_clamp (show j < 2 ^ 31 by omega), nI_clamp (show i < 2 ^ 31 by omega), hm11, hm12, ite_self]
  obtain ⟨k, hk, ek⟩ := pk_andE (nI a2) (m := 63) 6 rfl
  have hk : k < 64 := hk
  refine Sim.out (n := n) (r := f_MMo_others v (nI n)) ?_ hl h13 hact hnx hn
  simp +decide only [f_XPr_perform, prI, prE, nmE, jnE, hx4, hx5, hx6, hx7, bI0, ↓reduceIte, x_val _ rfl hi, x_val _ rfl hj, x_putR _ _ rfl hi, hR, xF_R, xF_F, xR_R, xR_F, hnx, hbh, hx8, hx9, f_MMo_others, f_MMo_goes, bI0, bIe, f_MMo_low, f_MMo_high, nmE, jnE, bd1S, hm10, hm8, hlo, hhi, mF_F, mA_F, mF_A, Nat.reduceEqDiff, ↓reduceIte, bd1_id, ckIN (n := 16) (A := j) rfl hj (by decide), ckIN (n := 16) (A := i) rfl hi (by decide), nI_clamp (show j < 2 ^ 31 by omega), nI_clamp (show i < 2 ^ 31 by omega), hm12, ek, f_XAr_shift]
  exact sim_sla (hC.mn _) h13 hi hk
theorem op_145 {u : XS} {v : MS} {s i j a1 a2 at0 : Nat} (h : Dd u v 145 s i j a1 a2 at0) : Out (f_XPr_perform u) v := by
  obtain ⟨n, hn, hnx, hbh, hact⟩ := h.act
  have hact := hact.2.2.1 (by decide) (by decide)
  obtain ⟨hC, ⟨-, hs, hi, hj, h1, h2⟩, ⟨hlo, hhi, hsij⟩, ⟨hx4, hm8⟩, ⟨hx5, hm10⟩, ⟨hx6, hx7⟩, hA2, hA1, hA12, ⟨h13, h0, hat⟩, -⟩ := h
  have hx4 : xF u 4 = 145 := hx4
  have hm8 : mF v 8 = 145 := hm8
  have hR : xR u = mA v 2 := hC.2.1
  obtain ⟨hx9, hm12⟩ := hA2 (by decide)
  obtain ⟨hx8, hm11⟩ := hA1 (by decide)
  obtain ⟨b, hb, hxb, hmb⟩ := hC.nb
  have hb1 := hb a1
  have lh := fun w => lies_holds w u (nI a1) (n := 1) (N := 1) rfl (by decide)
  obtain ⟨-, hh | ⟨hh, hA⟩⟩ := al_1 u h1
  · have hl : f_MMo_looks v = some (msF v 13 5) := by simp +decide only [f_MMo_looks, bI0, wrong_f, f_MMo_low, f_MMo_high, nmE, jnE, bd1S, hm10, hm8, hlo, hhi, mF_F, mA_F, mF_A, Nat.reduceEqDiff, ↓reduceIte, bd1_id, ckIN (n := 16) (A := j) rfl hj (by decide), ckIN (n := 16) (A := i) rfl hi (by decide), nI_clamp (show j < 2 ^ 31 by omega), nI_clamp (show i < 2 ^ 31 by omega), hm11, hm12, ite_self, wrong_t v 5 h13, lh, hh]
    have eX : f_XPr_perform u = (5, u) := by simp +decide only [f_XPr_perform, prI, prE, nmE, jnE, hx4, hx5, hx6, hx7, bI0, ↓reduceIte, x_val _ rfl hi, x_val _ rfl hj, x_putR _ _ rfl hi, hR, xF_R, xF_F, xR_R, xR_F, hnx, hbh, hx8, hx9, f_XOc_withImmediate, hh]
    rw [eX]
    exact Out.no hl rfl (by unfold nok; decide) hC
  · have hl : f_MMo_looks v = some v := by simp +decide only [f_MMo_looks, bI0, wrong_f, f_MMo_low, f_MMo_high, nmE, jnE, bd1S, hm10, hm8, hlo, hhi, mF_F, mA_F, mF_A, Nat.reduceEqDiff, ↓reduceIte, bd1_id, ckIN (n := 16) (A := j) rfl hj (by decide), ckIN (n := 16) (A := i) rfl hi (by decide), nI_clamp (show j < 2 ^ 31 by omega), nI_clamp (show i < 2 ^ 31 by omega), hm11, hm12, ite_self, lh, hh]
    have hA : a1 < 1024 := hA
    refine Sim.out (n := n) (r := f_MMo_others v (nI n)) ?_ hl h13 hact hnx hn
    simp +decide only [f_XPr_perform, prI, prE, nmE, jnE, hx4, hx5, hx6, hx7, bI0, ↓reduceIte, x_val _ rfl hi, x_val _ rfl hj, x_putR _ _ rfl hi, hR, xF_R, xF_F, xR_R, xR_F, hnx, hbh, hx8, hx9, f_MMo_others, f_MMo_goes, bI0, bIe, f_MMo_low, f_MMo_high, nmE, jnE, bd1S, hm10, hm8, hlo, hhi, mF_F, mA_F, mF_A, Nat.reduceEqDiff, ↓reduceIte, bd1_id, ckIN (n := 16) (A := j) rfl hj (by decide), ckIN (n := 16) (A := i) rfl hi (by decide), nI_clamp (show j < 2 ^ 31 by omega), nI_clamp (show i < 2 ^ 31 by omega), hm12, f_MMo_immediate, hm11, ckIN (n := 1024) (A := a1) rfl hA (by decide), nI_clamp (show a1 < 2 ^ 31 by omega), hmb, f_XOc_withImmediate, hh, getN u (A := a1) rfl hA, hxb, f_XOc_testBits]
    by_cases d : nI (b a1) &&& nI s = 0
    · simp only [if_pos d]
      exact Sim.mk ok0 h13 ((hC.mn _).cc _ (by decide)) rfl rfl rfl
    · simp only [if_neg d]
      by_cases e : nI (b a1) &&& nI s = nI s
      · simp only [if_pos e]
        exact Sim.mk ok0 h13 ((hC.mn _).cc _ (by decide)) rfl rfl rfl
      · simp only [if_neg e]
        exact Sim.mk ok0 h13 ((hC.mn _).cc _ (by decide)) rfl rfl rfl
theorem op_146 {u : XS} {v : MS} {s i j a1 a2 at0 : Nat} (h : Dd u v 146 s i j a1 a2 at0) : Out (f_XPr_perform u) v := by
  obtain ⟨n, hn, hnx, hbh, hact⟩ := h.act
  have hact := hact.2.2.1 (by decide) (by decide)
  obtain ⟨hC, ⟨-, hs, hi, hj, h1, h2⟩, ⟨hlo, hhi, hsij⟩, ⟨hx4, hm8⟩, ⟨hx5, hm10⟩, ⟨hx6, hx7⟩, hA2, hA1, hA12, ⟨h13, h0, hat⟩, -⟩ := h
  have hx4 : xF u 4 = 146 := hx4
  have hm8 : mF v 8 = 146 := hm8
  have hR : xR u = mA v 2 := hC.2.1
  obtain ⟨hx9, hm12⟩ := hA2 (by decide)
  obtain ⟨hx8, hm11⟩ := hA1 (by decide)
  obtain ⟨b, hb, hxb, hmb⟩ := hC.nb
  have hb1 := hb a1
  have lh := fun w => lies_holds w u (nI a1) (n := 1) (N := 1) rfl (by decide)
  obtain ⟨-, hh | ⟨hh, hA⟩⟩ := al_1 u h1
  · have hl : f_MMo_looks v = some (msF v 13 5) := by simp +decide only [f_MMo_looks, bI0, wrong_f, f_MMo_low, f_MMo_high, nmE, jnE, bd1S, hm10, hm8, hlo, hhi, mF_F, mA_F, mF_A, Nat.reduceEqDiff, ↓reduceIte, bd1_id, ckIN (n := 16) (A := j) rfl hj (by decide), ckIN (n := 16) (A := i) rfl hi (by decide), nI_clamp (show j < 2 ^ 31 by omega), nI_clamp (show i < 2 ^ 31 by omega), hm11, hm12, ite_self, wrong_t v 5 h13, lh, hh]
    have eX : f_XPr_perform u = (5, u) := by simp +decide only [f_XPr_perform, prI, prE, nmE, jnE, hx4, hx5, hx6, hx7, bI0, ↓reduceIte, x_val _ rfl hi, x_val _ rfl hj, x_putR _ _ rfl hi, hR, xF_R, xF_F, xR_R, xR_F, hnx, hbh, hx8, hx9, f_XOc_withImmediate, hh]
    rw [eX]
    exact Out.no hl rfl (by unfold nok; decide) hC
  · have hl : f_MMo_looks v = some v := by simp +decide only [f_MMo_looks, bI0, wrong_f, f_MMo_low, f_MMo_high, nmE, jnE, bd1S, hm10, hm8, hlo, hhi, mF_F, mA_F, mF_A, Nat.reduceEqDiff, ↓reduceIte, bd1_id, ckIN (n := 16) (A := j) rfl hj (by decide), ckIN (n := 16) (A := i) rfl hi (by decide), nI_clamp (show j < 2 ^ 31 by omega), nI_clamp (show i < 2 ^ 31 by omega), hm11, hm12, ite_self, lh, hh]
    have hA : a1 < 1024 := hA
    refine Sim.out (n := n) (r := f_MMo_others v (nI n)) ?_ hl h13 hact hnx hn
    simp +decide only [f_XPr_perform, prI, prE, nmE, jnE, hx4, hx5, hx6, hx7, bI0, ↓reduceIte, x_val _ rfl hi, x_val _ rfl hj, x_putR _ _ rfl hi, hR, xF_R, xF_F, xR_R, xR_F, hnx, hbh, hx8, hx9, f_MMo_others, f_MMo_goes, bI0, bIe, f_MMo_low, f_MMo_high, nmE, jnE, bd1S, hm10, hm8, hlo, hhi, mF_F, mA_F, mF_A, Nat.reduceEqDiff, ↓reduceIte, bd1_id, ckIN (n := 16) (A := j) rfl hj (by decide), ckIN (n := 16) (A := i) rfl hi (by decide), nI_clamp (show j < 2 ^ 31 by omega), nI_clamp (show i < 2 ^ 31 by omega), hm12, f_MMo_immediate, hm11, ckIN (n := 1024) (A := a1) rfl hA (by decide), nI_clamp (show a1 < 2 ^ 31 by omega), hmb, f_XOc_withImmediate, hh, getN u (A := a1) rfl hA, hxb, x_put u (A := a1) rfl hA rfl hs]
    exact Sim.mk ok0 h13 ((hC.mn _).put _ (nb_ok hs)) rfl rfl rfl
theorem op_148 {u : XS} {v : MS} {s i j a1 a2 at0 : Nat} (h : Dd u v 148 s i j a1 a2 at0) : Out (f_XPr_perform u) v := by
  obtain ⟨n, hn, hnx, hbh, hact⟩ := h.act
  have hact := hact.2.2.1 (by decide) (by decide)
  obtain ⟨hC, ⟨-, hs, hi, hj, h1, h2⟩, ⟨hlo, hhi, hsij⟩, ⟨hx4, hm8⟩, ⟨hx5, hm10⟩, ⟨hx6, hx7⟩, hA2, hA1, hA12, ⟨h13, h0, hat⟩, -⟩ := h
  have hx4 : xF u 4 = 148 := hx4
  have hm8 : mF v 8 = 148 := hm8
  have hR : xR u = mA v 2 := hC.2.1
  obtain ⟨hx9, hm12⟩ := hA2 (by decide)
  obtain ⟨hx8, hm11⟩ := hA1 (by decide)
  obtain ⟨b, hb, hxb, hmb⟩ := hC.nb
  have hb1 := hb a1
  have lh := fun w => lies_holds w u (nI a1) (n := 1) (N := 1) rfl (by decide)
  obtain ⟨-, hh | ⟨hh, hA⟩⟩ := al_1 u h1
  · have hl : f_MMo_looks v = some (msF v 13 5) := by simp +decide only [f_MMo_looks, bI0, wrong_f, f_MMo_low, f_MMo_high, nmE, jnE, bd1S, hm10, hm8, hlo, hhi, mF_F, mA_F, mF_A, Nat.reduceEqDiff, ↓reduceIte, bd1_id, ckIN (n := 16) (A := j) rfl hj (by decide), ckIN (n := 16) (A := i) rfl hi (by decide), nI_clamp (show j < 2 ^ 31 by omega), nI_clamp (show i < 2 ^ 31 by omega), hm11, hm12, ite_self, wrong_t v 5 h13, lh, hh]
    have eX : f_XPr_perform u = (5, u) := by simp +decide only [f_XPr_perform, prI, prE, nmE, jnE, hx4, hx5, hx6, hx7, bI0, ↓reduceIte, x_val _ rfl hi, x_val _ rfl hj, x_putR _ _ rfl hi, hR, xF_R, xF_F, xR_R, xR_F, hnx, hbh, hx8, hx9, f_XOc_withImmediate, hh]
    rw [eX]
    exact Out.no hl rfl (by unfold nok; decide) hC
  · have hl : f_MMo_looks v = some v := by simp +decide only [f_MMo_looks, bI0, wrong_f, f_MMo_low, f_MMo_high, nmE, jnE, bd1S, hm10, hm8, hlo, hhi, mF_F, mA_F, mF_A, Nat.reduceEqDiff, ↓reduceIte, bd1_id, ckIN (n := 16) (A := j) rfl hj (by decide), ckIN (n := 16) (A := i) rfl hi (by decide), nI_clamp (show j < 2 ^ 31 by omega), nI_clamp (show i < 2 ^ 31 by omega), hm11, hm12, ite_self, lh, hh]
    have hA : a1 < 1024 := hA
    refine Sim.out (n := n) (r := f_MMo_others v (nI n)) ?_ hl h13 hact hnx hn
    have hlt : (b a1 &&& s) < 256 := Nat.and_lt_two_pow (n := 8) _ hs
    simp +decide only [f_XPr_perform, prI, prE, nmE, jnE, hx4, hx5, hx6, hx7, bI0, ↓reduceIte, x_val _ rfl hi, x_val _ rfl hj, x_putR _ _ rfl hi, hR, xF_R, xF_F, xR_R, xR_F, hnx, hbh, hx8, hx9, f_MMo_others, f_MMo_goes, bI0, bIe, f_MMo_low, f_MMo_high, nmE, jnE, bd1S, hm10, hm8, hlo, hhi, mF_F, mA_F, mF_A, Nat.reduceEqDiff, ↓reduceIte, bd1_id, ckIN (n := 16) (A := j) rfl hj (by decide), ckIN (n := 16) (A := i) rfl hi (by decide), nI_clamp (show j < 2 ^ 31 by omega), nI_clamp (show i < 2 ^ 31 by omega), hm12, f_MMo_immediate, hm11, ckIN (n := 1024) (A := a1) rfl hA (by decide), nI_clamp (show a1 < 2 ^ 31 by omega), hmb, f_XOc_withImmediate, hh, getN u (A := a1) rfl hA, hxb, f_XOc_putBits, nx_and, x_put u (A := a1) rfl hA rfl hlt, cond_bits]
    by_cases d : nI (b a1 &&& s) = 0
    · simp only [if_pos d]
      exact Sim.mk ok0 h13 (((hC.mn _).put _ (nb_ok hlt)).cc _ (by decide)) rfl rfl rfl
    · simp only [if_neg d]
      exact Sim.mk ok0 h13 (((hC.mn _).put _ (nb_ok hlt)).cc _ (by decide)) rfl rfl rfl
theorem op_149 {u : XS} {v : MS} {s i j a1 a2 at0 : Nat} (h : Dd u v 149 s i j a1 a2 at0) : Out (f_XPr_perform u) v := by
  obtain ⟨n, hn, hnx, hbh, hact⟩ := h.act
  have hact := hact.2.2.1 (by decide) (by decide)
  obtain ⟨hC, ⟨-, hs, hi, hj, h1, h2⟩, ⟨hlo, hhi, hsij⟩, ⟨hx4, hm8⟩, ⟨hx5, hm10⟩, ⟨hx6, hx7⟩, hA2, hA1, hA12, ⟨h13, h0, hat⟩, -⟩ := h
  have hx4 : xF u 4 = 149 := hx4
  have hm8 : mF v 8 = 149 := hm8
  have hR : xR u = mA v 2 := hC.2.1
  obtain ⟨hx9, hm12⟩ := hA2 (by decide)
  obtain ⟨hx8, hm11⟩ := hA1 (by decide)
  obtain ⟨b, hb, hxb, hmb⟩ := hC.nb
  have hb1 := hb a1
  have lh := fun w => lies_holds w u (nI a1) (n := 1) (N := 1) rfl (by decide)
  obtain ⟨-, hh | ⟨hh, hA⟩⟩ := al_1 u h1
  · have hl : f_MMo_looks v = some (msF v 13 5) := by simp +decide only [f_MMo_looks, bI0, wrong_f, f_MMo_low, f_MMo_high, nmE, jnE, bd1S, hm10, hm8, hlo, hhi, mF_F, mA_F, mF_A, Nat.reduceEqDiff, ↓reduceIte, bd1_id, ckIN (n := 16) (A := j) rfl hj (by decide), ckIN (n := 16) (A := i) rfl hi (by decide), nI_clamp (show j < 2 ^ 31 by omega), nI_clamp (show i < 2 ^ 31 by omega), hm11, hm12, ite_self, wrong_t v 5 h13, lh, hh]
    have eX : f_XPr_perform u = (5, u) := by simp +decide only [f_XPr_perform, prI, prE, nmE, jnE, hx4, hx5, hx6, hx7, bI0, ↓reduceIte, x_val _ rfl hi, x_val _ rfl hj, x_putR _ _ rfl hi, hR, xF_R, xF_F, xR_R, xR_F, hnx, hbh, hx8, hx9, f_XOc_withImmediate, hh]
    rw [eX]
    exact Out.no hl rfl (by unfold nok; decide) hC
  · have hl : f_MMo_looks v = some v := by simp +decide only [f_MMo_looks, bI0, wrong_f, f_MMo_low, f_MMo_high, nmE, jnE, bd1S, hm10, hm8, hlo, hhi, mF_F, mA_F, mF_A, Nat.reduceEqDiff, ↓reduceIte, bd1_id, ckIN (n := 16) (A := j) rfl hj (by decide), ckIN (n := 16) (A := i) rfl hi (by decide), nI_clamp (show j < 2 ^ 31 by omega), nI_clamp (show i < 2 ^ 31 by omega), hm11, hm12, ite_self, lh, hh]
    have hA : a1 < 1024 := hA
    refine Sim.out (n := n) (r := f_MMo_others v (nI n)) ?_ hl h13 hact hnx hn
    have es : (nI (b a1) - nI s).toInt64 = (nI (b a1)).toInt64 - (nI s).toInt64 := by
      apply Int64.toInt_inj.mp
      rw [sub_small (i32_small _) (i32_small _), Int32.toInt_toInt64, Int32.toInt_toInt64, Int32.toInt_toInt64, pk_sub_toInt (by omega) (by omega), nI_toInt (by omega), nI_toInt (by omega)]
    have q := sim_comp (hC.mn (nI n)) h13 (i32_small (nI (b a1))) (i32_small (nI s))
    simp only [f_XAr_compare, nmE] at q
    simp +decide only [f_XPr_perform, prI, prE, nmE, jnE, hx4, hx5, hx6, hx7, bI0, ↓reduceIte, x_val _ rfl hi, x_val _ rfl hj, x_putR _ _ rfl hi, hR, xF_R, xF_F, xR_R, xR_F, hnx, hbh, hx8, hx9, f_MMo_others, f_MMo_goes, bI0, bIe, f_MMo_low, f_MMo_high, nmE, jnE, bd1S, hm10, hm8, hlo, hhi, mF_F, mA_F, mF_A, Nat.reduceEqDiff, ↓reduceIte, bd1_id, ckIN (n := 16) (A := j) rfl hj (by decide), ckIN (n := 16) (A := i) rfl hi (by decide), nI_clamp (show j < 2 ^ 31 by omega), nI_clamp (show i < 2 ^ 31 by omega), hm12, f_MMo_immediate, hm11, ckIN (n := 1024) (A := a1) rfl hA (by decide), nI_clamp (show a1 < 2 ^ 31 by omega), hmb, f_XOc_withImmediate, hh, getN u (A := a1) rfl hA, hxb, es]
    exact q
theorem op_150 {u : XS} {v : MS} {s i j a1 a2 at0 : Nat} (h : Dd u v 150 s i j a1 a2 at0) : Out (f_XPr_perform u) v := by
  obtain ⟨n, hn, hnx, hbh, hact⟩ := h.act
  have hact := hact.2.2.1 (by decide) (by decide)
  obtain ⟨hC, ⟨-, hs, hi, hj, h1, h2⟩, ⟨hlo, hhi, hsij⟩, ⟨hx4, hm8⟩, ⟨hx5, hm10⟩, ⟨hx6, hx7⟩, hA2, hA1, hA12, ⟨h13, h0, hat⟩, -⟩ := h
  have hx4 : xF u 4 = 150 := hx4
  have hm8 : mF v 8 = 150 := hm8
  have hR : xR u = mA v 2 := hC.2.1
  obtain ⟨hx9, hm12⟩ := hA2 (by decide)
  obtain ⟨hx8, hm11⟩ := hA1 (by decide)
  obtain ⟨b, hb, hxb, hmb⟩ := hC.nb
  have hb1 := hb a1
  have lh := fun w => lies_holds w u (nI a1) (n := 1) (N := 1) rfl (by decide)
  obtain ⟨-, hh | ⟨hh, hA⟩⟩ := al_1 u h1
  · have hl : f_MMo_looks v = some (msF v 13 5) := by simp +decide only [f_MMo_looks, bI0, wrong_f, f_MMo_low, f_MMo_high, nmE, jnE, bd1S, hm10, hm8, hlo, hhi, mF_F, mA_F, mF_A, Nat.reduceEqDiff, ↓reduceIte, bd1_id, ckIN (n := 16) (A := j) rfl hj (by decide), ckIN (n := 16) (A := i) rfl hi (by decide), nI_clamp (show j < 2 ^ 31 by omega), nI_clamp (show i < 2 ^ 31 by omega), hm11, hm12, ite_self, wrong_t v 5 h13, lh, hh]
    have eX : f_XPr_perform u = (5, u) := by simp +decide only [f_XPr_perform, prI, prE, nmE, jnE, hx4, hx5, hx6, hx7, bI0, ↓reduceIte, x_val _ rfl hi, x_val _ rfl hj, x_putR _ _ rfl hi, hR, xF_R, xF_F, xR_R, xR_F, hnx, hbh, hx8, hx9, f_XOc_withImmediate, hh]
    rw [eX]
    exact Out.no hl rfl (by unfold nok; decide) hC
  · have hl : f_MMo_looks v = some v := by simp +decide only [f_MMo_looks, bI0, wrong_f, f_MMo_low, f_MMo_high, nmE, jnE, bd1S, hm10, hm8, hlo, hhi, mF_F, mA_F, mF_A, Nat.reduceEqDiff, ↓reduceIte, bd1_id, ckIN (n := 16) (A := j) rfl hj (by decide), ckIN (n := 16) (A := i) rfl hi (by decide), nI_clamp (show j < 2 ^ 31 by omega), nI_clamp (show i < 2 ^ 31 by omega), hm11, hm12, ite_self, lh, hh]
    have hA : a1 < 1024 := hA
    refine Sim.out (n := n) (r := f_MMo_others v (nI n)) ?_ hl h13 hact hnx hn
    have hlt : (b a1 ||| s) < 256 := Nat.or_lt_two_pow (n := 8) hb1 hs
    simp +decide only [f_XPr_perform, prI, prE, nmE, jnE, hx4, hx5, hx6, hx7, bI0, ↓reduceIte, x_val _ rfl hi, x_val _ rfl hj, x_putR _ _ rfl hi, hR, xF_R, xF_F, xR_R, xR_F, hnx, hbh, hx8, hx9, f_MMo_others, f_MMo_goes, bI0, bIe, f_MMo_low, f_MMo_high, nmE, jnE, bd1S, hm10, hm8, hlo, hhi, mF_F, mA_F, mF_A, Nat.reduceEqDiff, ↓reduceIte, bd1_id, ckIN (n := 16) (A := j) rfl hj (by decide), ckIN (n := 16) (A := i) rfl hi (by decide), nI_clamp (show j < 2 ^ 31 by omega), nI_clamp (show i < 2 ^ 31 by omega), hm12, f_MMo_immediate, hm11, ckIN (n := 1024) (A := a1) rfl hA (by decide), nI_clamp (show a1 < 2 ^ 31 by omega), hmb, f_XOc_withImmediate, hh, getN u (A := a1) rfl hA, hxb, f_XOc_putBits, nx_or, x_put u (A := a1) rfl hA rfl hlt, cond_bits]
    by_cases d : nI (b a1 ||| s) = 0
    · simp only [if_pos d]
      exact Sim.mk ok0 h13 (((hC.mn _).put _ (nb_ok hlt)).cc _ (by decide)) rfl rfl rfl
    · simp only [if_neg d]
      exact Sim.mk ok0 h13 (((hC.mn _).put _ (nb_ok hlt)).cc _ (by decide)) rfl rfl rfl
theorem op_151 {u : XS} {v : MS} {s i j a1 a2 at0 : Nat} (h : Dd u v 151 s i j a1 a2 at0) : Out (f_XPr_perform u) v := by
  obtain ⟨n, hn, hnx, hbh, hact⟩ := h.act
  have hact := hact.2.2.1 (by decide) (by decide)
  obtain ⟨hC, ⟨-, hs, hi, hj, h1, h2⟩, ⟨hlo, hhi, hsij⟩, ⟨hx4, hm8⟩, ⟨hx5, hm10⟩, ⟨hx6, hx7⟩, hA2, hA1, hA12, ⟨h13, h0, hat⟩, -⟩ := h
  have hx4 : xF u 4 = 151 := hx4
  have hm8 : mF v 8 = 151 := hm8
  have hR : xR u = mA v 2 := hC.2.1
  obtain ⟨hx9, hm12⟩ := hA2 (by decide)
  obtain ⟨hx8, hm11⟩ := hA1 (by decide)
  obtain ⟨b, hb, hxb, hmb⟩ := hC.nb
  have hb1 := hb a1
  have lh := fun w => lies_holds w u (nI a1) (n := 1) (N := 1) rfl (by decide)
  obtain ⟨-, hh | ⟨hh, hA⟩⟩ := al_1 u h1
  · have hl : f_MMo_looks v = some (msF v 13 5) := by simp +decide only [f_MMo_looks, bI0, wrong_f, f_MMo_low, f_MMo_high, nmE, jnE, bd1S, hm10, hm8, hlo, hhi, mF_F, mA_F, mF_A, Nat.reduceEqDiff, ↓reduceIte, bd1_id, ckIN (n := 16) (A := j) rfl hj (by decide), ckIN (n := 16) (A := i) rfl hi (by decide), nI_clamp (show j < 2 ^ 31 by omega), nI_clamp (show i < 2 ^ 31 by omega), hm11, hm12, ite_self, wrong_t v 5 h13, lh, hh]
    have eX : f_XPr_perform u = (5, u) := by simp +decide only [f_XPr_perform, prI, prE, nmE, jnE, hx4, hx5, hx6, hx7, bI0, ↓reduceIte, x_val _ rfl hi, x_val _ rfl hj, x_putR _ _ rfl hi, hR, xF_R, xF_F, xR_R, xR_F, hnx, hbh, hx8, hx9, f_XOc_withImmediate, hh]
    rw [eX]
    exact Out.no hl rfl (by unfold nok; decide) hC
  · have hl : f_MMo_looks v = some v := by simp +decide only [f_MMo_looks, bI0, wrong_f, f_MMo_low, f_MMo_high, nmE, jnE, bd1S, hm10, hm8, hlo, hhi, mF_F, mA_F, mF_A, Nat.reduceEqDiff, ↓reduceIte, bd1_id, ckIN (n := 16) (A := j) rfl hj (by decide), ckIN (n := 16) (A := i) rfl hi (by decide), nI_clamp (show j < 2 ^ 31 by omega), nI_clamp (show i < 2 ^ 31 by omega), hm11, hm12, ite_self, lh, hh]
    have hA : a1 < 1024 := hA
    refine Sim.out (n := n) (r := f_MMo_others v (nI n)) ?_ hl h13 hact hnx hn
    have hlt : (b a1 ^^^ s) < 256 := Nat.xor_lt_two_pow (n := 8) hb1 hs
    simp +decide only [f_XPr_perform, prI, prE, nmE, jnE, hx4, hx5, hx6, hx7, bI0, ↓reduceIte, x_val _ rfl hi, x_val _ rfl hj, x_putR _ _ rfl hi, hR, xF_R, xF_F, xR_R, xR_F, hnx, hbh, hx8, hx9, f_MMo_others, f_MMo_goes, bI0, bIe, f_MMo_low, f_MMo_high, nmE, jnE, bd1S, hm10, hm8, hlo, hhi, mF_F, mA_F, mF_A, Nat.reduceEqDiff, ↓reduceIte, bd1_id, ckIN (n := 16) (A := j) rfl hj (by decide), ckIN (n := 16) (A := i) rfl hi (by decide), nI_clamp (show j < 2 ^ 31 by omega), nI_clamp (show i < 2 ^ 31 by omega), hm12, f_MMo_immediate, hm11, ckIN (n := 1024) (A := a1) rfl hA (by decide), nI_clamp (show a1 < 2 ^ 31 by omega), hmb, f_XOc_withImmediate, hh, getN u (A := a1) rfl hA, hxb, f_XOc_putBits, nx_xor, x_put u (A := a1) rfl hA rfl hlt, cond_bits]
    by_cases d : nI (b a1 ^^^ s) = 0
    · simp only [if_pos d]
      exact Sim.mk ok0 h13 (((hC.mn _).put _ (nb_ok hlt)).cc _ (by decide)) rfl rfl rfl
    · simp only [if_neg d]
      exact Sim.mk ok0 h13 (((hC.mn _).put _ (nb_ok hlt)).cc _ (by decide)) rfl rfl rfl
