/-! packed numbers stored; CVD, CVB -/
def dgt (N k : Nat) : Nat := N / 10 ^ k % 10
theorem dgt_lt (N k : Nat) : dgt N k < 10 := Nat.mod_lt _ (by decide)
theorem dgt_0 (N : Nat) : dgt N 0 = N % 10 := by unfold dgt; rw [Nat.pow_zero, Nat.div_one]
theorem dgt_1 (N : Nat) : dgt N 1 = N / 10 % 10 := by unfold dgt; rw [Nat.pow_one]
theorem dgt_100 (N k : Nat) : dgt (N / 100) k = dgt N (k + 2) := by
  unfold dgt
  rw [Nat.div_div_eq_div_mul, show (100 : Nat) = 10 ^ 2 from rfl, ← Nat.pow_add, Nat.add_comm]
theorem dgt_10 (N k : Nat) : dgt (N / 10) k = dgt N (k + 1) := by
  unfold dgt
  rw [Nat.div_div_eq_div_mul, ← Nat.pow_succ', Nat.succ_eq_add_one]
def pdO (N l r : Nat) : Nat := (if r = 0 then l else dgt N (2 * r - 1)) + 16 * dgt N (2 * r)
def pdM (g : Nat → Int32) (A n N l : Nat) : Nat → Int32 := fun j => if A ≤ j ∧ j < A + n then nI (pdO N l (A + n - 1 - j)) else g j
theorem pdO_lt {N l r : Nat} (hl : l < 16) : pdO N l r < 256 := by
  have h1 := dgt_lt N (2 * r)
  have h2 := dgt_lt N (2 * r - 1)
  unfold pdO
  split <;> omega
theorem oct_pd {g : Nat → Int32} (h : ∀ i, 0 ≤ (g i).toInt ∧ (g i).toInt < 256) (A n N : Nat) {l : Nat} (hl : l < 16) : ∀ i, 0 ≤ (pdM g A n N l i).toInt ∧ (pdM g A n N l i).toInt < 256 := by
  intro i
  unfold pdM
  split
  · exact nb_ok (pdO_lt hl)
  · exact h i
theorem x_pdL (A : Nat) : ∀ (i fuel N l : Nat) (u : XS), i < fuel → A + i ≤ 1024 → N < 9223372036854775808 → l < 16 → lpN fuel (g_XMe_putDecimal_22 (nI A)) (fun _ _ _ _ => default) (lN N) (nI l) (nI i - 1) u = xsMM u (pdM (xM u) A i N l) := by
  intro i
  induction i with
  | zero =>
    intro fuel N l u hf hA hN hl
    obtain ⟨f, rfl⟩ : ∃ f, fuel = f + 1 := ⟨fuel - 1, by omega⟩
    show g_XMe_putDecimal_22 (nI A) _ _ _ (nI 0 - 1) u = _
    simp only [g_XMe_putDecimal_22]
    rw [if_pos (by decide)]
    refine Prod.ext (funext fun j => ?_) rfl
    show xM u j = pdM (xM u) A 0 N l j
    unfold pdM
    rw [if_neg (by omega)]
  | succ i ih =>
    intro fuel N l u hf hA hN hl
    obtain ⟨f, rfl⟩ : ∃ f, fuel = f + 1 := ⟨fuel - 1, by omega⟩
    have e2 : nI i + -1 = nI i - 1 := by rw [Int32.sub_eq_add_neg]
    have r1 : lN N - lN N / (10 : Int64) * (10 : Int64) = lN (N % 10) := pk_lRem (b := 10) (by omega) (by decide) (by decide)
    have d1 : lN N / (10 : Int64) = lN (N / 10) := pk_lDiv (b := 10) (by omega) (by decide) (by decide)
    have r2 : lN (N / 10) - lN (N / 10) / (10 : Int64) * (10 : Int64) = lN (N / 10 % 10) := pk_lRem (b := 10) (by omega) (by decide) (by decide)
    have d2 : lN N / (100 : Int64) = lN (N / 100) := pk_lDiv (b := 100) (by omega) (by decide) (by decide)
    rw [d1] at r1
    have m1 : nI (N % 10) * (16 : Int32) = nI (N % 10 * 16) := pk_mul _ 16
    have hpos : A + i < 1024 := by omega
    show g_XMe_putDecimal_22 (nI A) _ _ _ (nI (i + 1) - 1) u = _
    simp only [g_XMe_putDecimal_22, nI_pred, if_neg (nI_pos (show i < 2 ^ 31 by omega)), nmE, d1, r1, d2, r2, lN_i, m1, nI_add, x_put8 u (A := A + i) rfl hpos (show N % 10 * 16 + l < 256 by omega), e2]
    rw [ih f (N / 100) (N / 10 % 10) _ (by omega) (by omega) (by omega) (by omega)]
    refine Prod.ext (funext fun j => ?_) rfl
    show pdM (xM (xsM u (A + i) _)) A i (N / 100) (N / 10 % 10) j = pdM (xM u) A (i + 1) N l j
    unfold pdM
    rw [xM_M, updE]
    by_cases c1 : A ≤ j ∧ j < A + i
    · rw [if_pos c1, if_pos (by omega), show A + (i + 1) - 1 - j = (A + i - 1 - j) + 1 by omega]
      generalize A + i - 1 - j = r
      unfold pdO
      rw [dgt_100 N (2 * r), if_neg (show ¬ r + 1 = 0 by omega), show 2 * (r + 1) - 1 = 2 * r + 1 by omega, show 2 * (r + 1) = 2 * r + 2 by omega]
      by_cases c0 : r = 0
      · rw [if_pos c0, c0, ← dgt_1]
      · rw [if_neg c0, dgt_100 N (2 * r - 1), show 2 * r - 1 + 2 = 2 * r + 1 by omega]
    · rw [if_neg c1]
      by_cases c2 : j = A + i
      · rw [if_pos c2, if_pos (by omega), show A + (i + 1) - 1 - j = 0 by omega]
        unfold pdO
        rw [if_pos rfl, Nat.mul_zero, dgt_0]
        congr 1
        omega
      · rw [if_neg c2, if_neg (by omega)]
theorem x_pd (u : XS) {A n N : Nat} (z : Bool) (hn : 1 ≤ n) (hA : A + n ≤ 1024) (hN : N < 9223372036854775808) : f_XMe_putDecimal u (nI A) (nI n) (lN N) z = xsMM u (pdM (xM u) A n N (if z = false then 12 else 13)) := by
  have fu : n < (Int32.toInt (nI n - 1) + 1).toNat + 1 := by
    obtain ⟨k, rfl⟩ : ∃ k, n = k + 1 := ⟨n - 1, by omega⟩
    rw [nI_pred, nI_toInt (by omega)]
    omega
  simp only [f_XMe_putDecimal, nmE, jnE, bI0]
  split
  · exact x_pdL A n _ N 12 u fu hA hN (by decide)
  · exact x_pdL A n _ N 13 u fu hA hN (by decide)
theorem m_pdL {A n N l : Nat} {p : Nat} {z : Bool} (hl : l = if z = false then 12 else 13) (hp : p ≠ 1) (hn : n ≤ 16) (hA : A + n ≤ 1024) : ∀ (d t fuel : Nat) (w : MS), t + d = n → d < fuel → (∀ k, k < 2 * n - 1 → mA w p k = nI (dgt N k)) → lpN fuel (g_MMo_unpacks_3 (nI n) p z (nI A)) (fun _ _ => none) (nI t) w = some (msMM w (fun j => if A + t ≤ j ∧ j < A + n then nI (pdO N l (A + n - 1 - j)) else mA w 1 j)) := by
  have hl16 : l < 16 := by rw [hl]; split <;> decide
  intro d
  induction d with
  | zero =>
    intro t fuel w ht hf hd
    obtain ⟨f, rfl⟩ : ∃ f, fuel = f + 1 := ⟨fuel - 1, by omega⟩
    show g_MMo_unpacks_3 (nI n) p z (nI A) _ (nI t) w = _
    simp only [g_MMo_unpacks_3]
    rw [if_pos (nI_le (by omega) (by omega))]
    congr 1
    conv => lhs; rw [← msMM_id w]
    congr 1
    funext j
    rw [if_neg (by omega)]
  | succ d ih =>
    intro t fuel w ht hf hd
    obtain ⟨f, rfl⟩ : ∃ f, fuel = f + 1 := ⟨fuel - 1, by omega⟩
    have e0 : (nI n - 1) - nI t = nI (n - 1 - t) := by rw [show (1 : Int32) = nI 1 from rfl, sI_le (by omega), sI_le (by omega)]
    have e1 : (2 : Int32) * nI (n - 1 - t) = nI (2 * (n - 1 - t)) := pk_mul 2 _
    have hpos : A + t < 1024 := by omega
    have h1 := dgt_lt N (2 * (n - 1 - t))
    have h2 := dgt_lt N (2 * (n - 1 - t) - 1)
    have key : ∀ K : Int32 → Option MS, (if nI (n - 1 - t) = (0 : Int32) then if z = false then K 12 else K 13 else ckI (nI (2 * (n - 1 - t)) - 1) 32 (K (mA w p (Int32.toNatClampNeg (nI (2 * (n - 1 - t)) - 1))))) = K (nI (if n - 1 - t = 0 then l else dgt N (2 * (n - 1 - t) - 1))) := by
      intro K
      by_cases c : n - 1 - t = 0
      · rw [if_pos (by rw [c]; rfl), if_pos c, hl]
        split <;> rfl
      · have e3 : nI (2 * (n - 1 - t)) - 1 = nI (2 * (n - 1 - t) - 1) := by rw [show (1 : Int32) = nI 1 from rfl, sI_le (by omega)]
        rw [if_neg (nI_ne0 (by omega) (by omega)), if_neg c, e3, ckIN (n := 32) (A := 2 * (n - 1 - t) - 1) rfl (by omega) (by decide), nI_clamp (by omega), hd _ (by omega)]
    show g_MMo_unpacks_3 (nI n) p z (nI A) _ (nI t) w = _
    simp only [g_MMo_unpacks_3, if_neg (nI_ge (show t < n by omega) (show n < 2 ^ 31 by omega)), nmE, jnE, bI0, e0, e1, ckIN (n := 32) (A := 2 * (n - 1 - t)) rfl (show 2 * (n - 1 - t) < 32 by omega) (by decide), nI_clamp (show 2 * (n - 1 - t) < 2 ^ 31 by omega), hd _ (show 2 * (n - 1 - t) < 2 * n - 1 by omega)]
    rw [key (fun x_8 => ckI (nI A + nI t) 1024 (lpN f (g_MMo_unpacks_3 (nI n) p z (nI A)) (fun _ _ => none) (nI t + 1) (msA w 1 (Int32.toNatClampNeg (nI A + nI t)) ((nI (dgt N (2 * (n - 1 - t))) <<< ((4 : Int32) &&& 31)) ||| x_8))))]
    have hq : (if n - 1 - t = 0 then l else dgt N (2 * (n - 1 - t) - 1)) < 16 := by split <;> omega
    rw [nI_add, ckIN (n := 1024) (A := A + t) rfl hpos (by decide), nI_clamp (by omega), nI_1, nib_or hq (by omega), show (if n - 1 - t = 0 then l else dgt N (2 * (n - 1 - t) - 1)) + 16 * dgt N (2 * (n - 1 - t)) = pdO N l (n - 1 - t) from rfl]
    rw [ih (t + 1) f _ (by omega) (by omega) (fun k hk => by rw [mA_A, if_neg hp]; exact hd k hk), msMM_A]
    congr 2
    funext j
    rw [mA_A, if_pos rfl, updE]
    by_cases c2 : j = A + t
    · rw [if_neg (by omega), if_pos c2, if_pos (by omega), show A + n - 1 - j = n - 1 - t by omega]
    · rw [if_neg c2]
      by_cases c1 : A + (t + 1) ≤ j ∧ j < A + n
      · rw [if_pos c1, if_pos (by omega)]
      · rw [if_neg c1, if_neg (by omega)]
theorem m_pd (v : MS) {A n N p : Nat} (z : Bool) (hp : p ≠ 1) (hn : n ≤ 16) (hA : A + n ≤ 1024) (hd : ∀ k, k < 2 * n - 1 → mA v p k = nI (dgt N k)) : f_MMo_unpacks p v (nI A) (nI n) z = some (msMM v (pdM (mA v 1) A n N (if z = false then 12 else 13))) := m_pdL rfl hp hn hA n 0 fuelM v (by omega) (by unfold fuelM; omega) hd
theorem l_12 (z : Bool) : (if z = false then 12 else 13) < 16 := by split <;> decide
theorem Dd.alike {u : XS} {v v' : MS} {c s i j a1 a2 at0 : Nat} (h : Dd u v c s i j a1 a2 at0) (h1 : mA v' 1 = mA v 1) (h2 : mA v' 2 = mA v 2) (h3 : mF v' = mF v) : Dd u v' c s i j a1 a2 at0 := by
  unfold Dd Core at h ⊢
  rw [h1, h2, h3]
  exact h
theorem m_cvdL {N : Nat} (hN : N < 9223372036854775808) (K : MS → Option MS) : ∀ (d t fuel : Nat) (w : MS), t + d = 32 → d < fuel → (∀ k, k < t → mA w 6 k = nI (dgt N k)) → ∃ w', lpN fuel (g_MMo_indexed_439 K) (fun _ _ _ => none) (lN (N / 10 ^ t)) (nI t) w = K w' ∧ mF w' = mF w ∧ (∀ q, q ≠ 6 → mA w' q = mA w q) ∧ ∀ k, k < 32 → mA w' 6 k = nI (dgt N k) := by
  intro d
  induction d with
  | zero =>
    intro t fuel w ht hf hk
    obtain ⟨f, rfl⟩ : ∃ f, fuel = f + 1 := ⟨fuel - 1, by omega⟩
    refine ⟨w, ?_, rfl, fun _ _ => rfl, fun k h => hk k (by omega)⟩
    show g_MMo_indexed_439 K _ _ (nI t) w = _
    simp only [g_MMo_indexed_439]
    rw [if_pos (show (32 : Int32) ≤ nI t from nI_le (a := 32) (by omega) (by omega))]
  | succ d ih =>
    intro t fuel w ht hf hk
    obtain ⟨f, rfl⟩ : ∃ f, fuel = f + 1 := ⟨fuel - 1, by omega⟩
    have ht2 : t < 32 := by omega
    have hM : N / 10 ^ t < 9223372036854775808 := Nat.lt_of_le_of_lt (Nat.div_le_self _ _) hN
    have d1 : lN (N / 10 ^ t) / (10 : Int64) = lN (N / 10 ^ (t + 1)) := by
      rw [show (10 : Int64) = lN 10 from rfl, pk_lDiv hM (by decide) (by decide), Nat.div_div_eq_div_mul, Nat.pow_succ]
    have r1 : lN (N / 10 ^ t) - lN (N / 10 ^ t) / (10 : Int64) * (10 : Int64) = lN (dgt N t) := pk_lRem (b := 10) hM (by decide) (by decide)
    rw [d1] at r1
    obtain ⟨w', e1, e2, e3, e4⟩ := ih (t + 1) f (msA w 6 t (nI (dgt N t))) (by omega) (by omega) (fun k h => by
      rw [mA_A, if_pos rfl, updE]
      split
      · rename_i c; rw [c]
      · exact hk k (by omega))
    refine ⟨w', ?_, e2, fun q hq => by rw [e3 q hq, mA_A, if_neg hq], e4⟩
    rw [← e1]
    show g_MMo_indexed_439 K _ _ (nI t) w = _
    simp only [g_MMo_indexed_439, if_neg (show ¬ (32 : Int32) ≤ nI t from nI_ge (b := 32) ht2 (by decide)), nmE, d1, r1, lN_i, ckIN (n := 32) (A := t) rfl ht2 (by decide), nI_clamp (show t < 2 ^ 31 by omega), nI_1]
theorem abs_lN (x : Int32) : ∃ N, N < 2147483649 ∧ (if 0 ≤ x then x.toInt64 else -x.toInt64) = lN N := by
  have h1 := x.toInt_lt
  have h2 := x.le_toInt
  refine ⟨x.toInt.natAbs, by omega, ?_⟩
  apply Int64.toInt_inj.mp
  rw [pk_lT (by omega)]
  have h0 : (0 : Int32).toInt = 0 := rfl
  by_cases c : 0 ≤ x
  · rw [if_pos c, Int32.toInt_toInt64]
    rw [Int32.le_iff_toInt_le, h0] at c
    omega
  · rw [if_neg c, Int64.toInt_neg, Int32.toInt_toInt64]
    rw [Int32.le_iff_toInt_le, h0] at c
    rw [Int.bmod_eq_of_le (by omega) (by omega)]
    omega
theorem le_64 (x : Int32) : ((0 : Int64) ≤ x.toInt64) = ((0 : Int32) ≤ x) := by
  apply propext
  rw [Int64.le_iff_toInt_le, Int32.le_iff_toInt_le, Int32.toInt_toInt64]
  exact Iff.rfl

theorem op_78 {u : XS} {v : MS} {s i j a1 a2 at0 : Nat} (h : Dd u v 78 s i j a1 a2 at0) : Out (f_XPr_perform u) v := by
  obtain ⟨n, hn, hnx, hbh, hact⟩ := h.act
  have hact := hact.2.1 (by decide) (by decide)
  obtain ⟨hC, ⟨-, hs, hi, hj, h1, h2⟩, ⟨hlo, hhi, hsij⟩, ⟨hx4, hm8⟩, ⟨hx5, hm10⟩, ⟨hx6, hx7⟩, hA2, hA1, hA12, ⟨h13, h0, hat⟩, -⟩ := h
  have hx4 : xF u 4 = 78 := hx4
  have hm8 : mF v 8 = 78 := hm8
  have hR : xR u = mA v 2 := hC.2.1
  obtain ⟨hx9, hm12⟩ := hA2 (by decide)
  obtain ⟨b, hb, hxb, hmb⟩ := hC.nb
  have lh := fun w => lies_holds w u (nI a2) (n := 8) (N := 8) rfl (by decide)
  rcases al_8 u h2 with ⟨g1, g2⟩ | ⟨g1, g2, hh⟩ | ⟨g1, g2, hh, hA⟩
  · have hl : f_MMo_looks v = some (msF v 13 6) := by simp +decide only [f_MMo_looks, f_MMo_looksAtWord, f_MMo_width, in_lit, bI0, wrong_f, f_MMo_low, f_MMo_high, nmE, jnE, bd1S, hm10, hm8, hlo, hhi, mF_F, mA_F, mF_A, Nat.reduceEqDiff, ↓reduceIte, bd1_id, ckIN (n := 16) (A := j) rfl hj (by decide), ckIN (n := 16) (A := i) rfl hi (by decide), nI_clamp (show j < 2 ^ 31 by omega), nI_clamp (show i < 2 ^ 31 by omega), hm12, ite_self, wrong_t v 6 h13, wrong_6, lh, if_neg g2, ckN32_ok (show ¬ (8 : Int32) = 0 by decide)]
    have eX : f_XPr_perform u = (6, u) := by simp +decide only [f_XPr_perform, prI, prE, nmE, jnE, hx4, hx5, hx6, hx7, bI0, ↓reduceIte, x_val _ rfl hi, x_val _ rfl hj, x_putR _ _ rfl hi, hR, xF_R, xF_F, xR_R, xR_F, hnx, hbh, hx9, f_XDe_convert, f_XMe_faultOf, if_neg g1]
    rw [eX]
    exact Out.no hl rfl (by unfold nok; decide) hC
  · have hl : f_MMo_looks v = some (msF v 13 5) := by simp +decide only [f_MMo_looks, f_MMo_looksAtWord, f_MMo_width, in_lit, bI0, wrong_f, f_MMo_low, f_MMo_high, nmE, jnE, bd1S, hm10, hm8, hlo, hhi, mF_F, mA_F, mF_A, Nat.reduceEqDiff, ↓reduceIte, bd1_id, ckIN (n := 16) (A := j) rfl hj (by decide), ckIN (n := 16) (A := i) rfl hi (by decide), nI_clamp (show j < 2 ^ 31 by omega), nI_clamp (show i < 2 ^ 31 by omega), hm12, ite_self, wrong_t v 5 h13, wrong_5, lh, hh, if_pos g2, ckN32_ok (show ¬ (8 : Int32) = 0 by decide)]
    have eX : f_XPr_perform u = (5, u) := by simp +decide only [f_XPr_perform, prI, prE, nmE, jnE, hx4, hx5, hx6, hx7, bI0, ↓reduceIte, x_val _ rfl hi, x_val _ rfl hj, x_putR _ _ rfl hi, hR, xF_R, xF_F, xR_R, xR_F, hnx, hbh, hx9, f_XDe_convert, f_XMe_faultOf, g1, hh]
    rw [eX]
    exact Out.no hl rfl (by unfold nok; decide) hC
  · have hl : f_MMo_looks v = some v := by simp +decide only [f_MMo_looks, f_MMo_looksAtWord, f_MMo_width, in_lit, bI0, wrong_f, f_MMo_low, f_MMo_high, nmE, jnE, bd1S, hm10, hm8, hlo, hhi, mF_F, mA_F, mF_A, Nat.reduceEqDiff, ↓reduceIte, bd1_id, ckIN (n := 16) (A := j) rfl hj (by decide), ckIN (n := 16) (A := i) rfl hi (by decide), nI_clamp (show j < 2 ^ 31 by omega), nI_clamp (show i < 2 ^ 31 by omega), hm12, ite_self, lh, hh, if_pos g2, ckN32_ok (show ¬ (8 : Int32) = 0 by decide)]
    obtain ⟨N, hN, eN⟩ := abs_lN (mA v 2 i)
    by_cases c : 0 ≤ mA v 2 i
    · obtain ⟨w', r1, r2, r3, r4⟩ := m_cvdL (N := N) (by omega) (fun (u_63 : MS) => if (0 : Int32) ≤ mA u_63 2 i then f_MMo_unpacks 6 u_63 (mF u_63 12) (8 : Int32) false else f_MMo_unpacks 6 u_63 (mF u_63 12) (8 : Int32) true) 32 0 fuelM (msF v 2 (nI n)) (by omega) (by unfold fuelM; omega) (fun k h => by omega)
      have xp := x_pd u (A := a2) (n := 8) (N := N) false (by decide) hA (by omega)
      have mp := m_pd w' (A := a2) (n := 8) (N := N) (p := 6) false (by decide) (by decide) hA (fun k hk => r4 k (by omega))
      rw [show nI 8 = (8 : Int32) from rfl] at xp mp
      rw [Nat.pow_zero, Nat.div_one, show nI 0 = (0 : Int32) from rfl] at r1
      rw [if_pos c] at eN
      have eX : f_XPr_perform u = (0, xsMM u (pdM (xM u) a2 8 N (if false = false then 12 else 13))) := by
        simp +decide only [f_XPr_perform, prI, prE, nmE, jnE, hx4, hx5, hx6, hx7, bI0, ↓reduceIte, x_val _ rfl hi, x_val _ rfl hj, x_putR _ _ rfl hi, hR, xF_R, xF_F, xR_R, xR_F, hnx, hbh, hx9, f_XDe_convert, f_XMe_faultOf, g1, hh, abs_eq, le_64, if_pos c, eN, xp]
      have eM : f_MMo_indexed v (nI n) = some (msMM w' (pdM (mA w' 1) a2 8 N (if false = false then 12 else 13))) := by
        simp +decide only [f_MMo_indexed, f_MMo_width, in_lit, f_MMo_goes, bI0, f_MMo_low, f_MMo_high, nmE, jnE, bd1S, hm10, hm8, hlo, hhi, mF_F, mA_F, mF_A, Nat.reduceEqDiff, ↓reduceIte, bd1_id, ckIN (n := 16) (A := j) rfl hj (by decide), ckIN (n := 16) (A := i) rfl hi (by decide), nI_clamp (show j < 2 ^ 31 by omega), nI_clamp (show i < 2 ^ 31 by omega), hm12, if_pos c, eN]
        rw [r1]
        simp +decide only [r2, r3 2 (by decide), mF_F, mA_F, hm12, Nat.reduceEqDiff, ↓reduceIte, ckIN (n := 16) (A := j) rfl hj (by decide), ckIN (n := 16) (A := i) rfl hi (by decide), nI_clamp (show j < 2 ^ 31 by omega), nI_clamp (show i < 2 ^ 31 by omega), if_pos c, mp]
      rw [eX]
      refine Sim.out (n := n) (r := f_MMo_indexed v (nI n)) ?_ hl h13 hact hnx hn
      rw [eM, r3 1 (by decide), mA_F, ← hC.1]
      exact Sim.mk ok0 (by rw [mF_MM, r2]; exact h13) (((hC.mn (nI n)).same rfl rfl rfl (r3 1 (by decide)) (r3 2 (by decide)) r2).mem (oct_pd hC.2.2.2.1 _ _ _ (l_12 _))) (by rw [mF_MM, r2]) (by rw [mF_MM, r2]) rfl
    · obtain ⟨w', r1, r2, r3, r4⟩ := m_cvdL (N := N) (by omega) (fun (u_63 : MS) => if (0 : Int32) ≤ mA u_63 2 i then f_MMo_unpacks 6 u_63 (mF u_63 12) (8 : Int32) false else f_MMo_unpacks 6 u_63 (mF u_63 12) (8 : Int32) true) 32 0 fuelM (msF v 2 (nI n)) (by omega) (by unfold fuelM; omega) (fun k h => by omega)
      have xp := x_pd u (A := a2) (n := 8) (N := N) true (by decide) hA (by omega)
      have mp := m_pd w' (A := a2) (n := 8) (N := N) (p := 6) true (by decide) (by decide) hA (fun k hk => r4 k (by omega))
      rw [show nI 8 = (8 : Int32) from rfl] at xp mp
      rw [Nat.pow_zero, Nat.div_one, show nI 0 = (0 : Int32) from rfl] at r1
      rw [if_neg c] at eN
      have eX : f_XPr_perform u = (0, xsMM u (pdM (xM u) a2 8 N (if true = false then 12 else 13))) := by
        simp +decide only [f_XPr_perform, prI, prE, nmE, jnE, hx4, hx5, hx6, hx7, bI0, ↓reduceIte, x_val _ rfl hi, x_val _ rfl hj, x_putR _ _ rfl hi, hR, xF_R, xF_F, xR_R, xR_F, hnx, hbh, hx9, f_XDe_convert, f_XMe_faultOf, g1, hh, abs_eq, le_64, if_neg c, eN, xp]
      have eM : f_MMo_indexed v (nI n) = some (msMM w' (pdM (mA w' 1) a2 8 N (if true = false then 12 else 13))) := by
        simp +decide only [f_MMo_indexed, f_MMo_width, in_lit, f_MMo_goes, bI0, f_MMo_low, f_MMo_high, nmE, jnE, bd1S, hm10, hm8, hlo, hhi, mF_F, mA_F, mF_A, Nat.reduceEqDiff, ↓reduceIte, bd1_id, ckIN (n := 16) (A := j) rfl hj (by decide), ckIN (n := 16) (A := i) rfl hi (by decide), nI_clamp (show j < 2 ^ 31 by omega), nI_clamp (show i < 2 ^ 31 by omega), hm12, if_neg c, eN]
        rw [r1]
        simp +decide only [r2, r3 2 (by decide), mF_F, mA_F, hm12, Nat.reduceEqDiff, ↓reduceIte, ckIN (n := 16) (A := j) rfl hj (by decide), ckIN (n := 16) (A := i) rfl hi (by decide), nI_clamp (show j < 2 ^ 31 by omega), nI_clamp (show i < 2 ^ 31 by omega), if_neg c, mp]
      rw [eX]
      refine Sim.out (n := n) (r := f_MMo_indexed v (nI n)) ?_ hl h13 hact hnx hn
      rw [eM, r3 1 (by decide), mA_F, ← hC.1]
      exact Sim.mk ok0 (by rw [mF_MM, r2]; exact h13) (((hC.mn (nI n)).same rfl rfl rfl (r3 1 (by decide)) (r3 2 (by decide)) r2).mem (oct_pd hC.2.2.2.1 _ _ _ (l_12 _))) (by rw [mF_MM, r2]) (by rw [mF_MM, r2]) rfl
theorem op_79 {u : XS} {v : MS} {s i j a1 a2 at0 : Nat} (h : Dd u v 79 s i j a1 a2 at0) : Out (f_XPr_perform u) v := by
  obtain ⟨n, hn, hnx, hbh, hact⟩ := h.act
  have hDd := h
  have hact := hact.2.1 (by decide) (by decide)
  obtain ⟨hC, ⟨-, hs, hi, hj, h1, h2⟩, ⟨hlo, hhi, hsij⟩, ⟨hx4, hm8⟩, ⟨hx5, hm10⟩, ⟨hx6, hx7⟩, hA2, hA1, hA12, ⟨h13, h0, hat⟩, -⟩ := h
  have hx4 : xF u 4 = 79 := hx4
  have hm8 : mF v 8 = 79 := hm8
  have hR : xR u = mA v 2 := hC.2.1
  obtain ⟨hx9, hm12⟩ := hA2 (by decide)
  obtain ⟨b, hb, hxb, hmb⟩ := hC.nb
  have lh := fun w => lies_holds w u (nI a2) (n := 8) (N := 8) rfl (by decide)
  rcases al_8 u h2 with ⟨g1, g2⟩ | ⟨g1, g2, hh⟩ | ⟨g1, g2, hh, hA⟩
  · have hl : f_MMo_looks v = some (msF v 13 6) := by simp +decide only [f_MMo_looks, f_MMo_looksAtWord, f_MMo_width, in_lit, bI0, wrong_f, f_MMo_low, f_MMo_high, nmE, jnE, bd1S, hm10, hm8, hlo, hhi, mF_F, mA_F, mF_A, Nat.reduceEqDiff, ↓reduceIte, bd1_id, ckIN (n := 16) (A := j) rfl hj (by decide), ckIN (n := 16) (A := i) rfl hi (by decide), nI_clamp (show j < 2 ^ 31 by omega), nI_clamp (show i < 2 ^ 31 by omega), hm12, ite_self, wrong_t v 6 h13, wrong_6, lh, if_neg g2, ckN32_ok (show ¬ (8 : Int32) = 0 by decide)]
    have eX : f_XPr_perform u = (6, u) := by simp +decide only [f_XPr_perform, prI, prE, nmE, jnE, hx4, hx5, hx6, hx7, bI0, ↓reduceIte, x_val _ rfl hi, x_val _ rfl hj, x_putR _ _ rfl hi, hR, xF_R, xF_F, xR_R, xR_F, hnx, hbh, hx9, f_XDe_convert, f_XMe_faultOf, if_neg g1]
    rw [eX]
    exact Out.no hl rfl (by unfold nok; decide) hC
  · have hl : f_MMo_looks v = some (msF v 13 5) := by simp +decide only [f_MMo_looks, f_MMo_looksAtWord, f_MMo_width, in_lit, bI0, wrong_f, f_MMo_low, f_MMo_high, nmE, jnE, bd1S, hm10, hm8, hlo, hhi, mF_F, mA_F, mF_A, Nat.reduceEqDiff, ↓reduceIte, bd1_id, ckIN (n := 16) (A := j) rfl hj (by decide), ckIN (n := 16) (A := i) rfl hi (by decide), nI_clamp (show j < 2 ^ 31 by omega), nI_clamp (show i < 2 ^ 31 by omega), hm12, ite_self, wrong_t v 5 h13, wrong_5, lh, hh, if_pos g2, ckN32_ok (show ¬ (8 : Int32) = 0 by decide)]
    have eX : f_XPr_perform u = (5, u) := by simp +decide only [f_XPr_perform, prI, prE, nmE, jnE, hx4, hx5, hx6, hx7, bI0, ↓reduceIte, x_val _ rfl hi, x_val _ rfl hj, x_putR _ _ rfl hi, hR, xF_R, xF_F, xR_R, xR_F, hnx, hbh, hx9, f_XDe_convert, f_XMe_faultOf, g1, hh]
    rw [eX]
    exact Out.no hl rfl (by unfold nok; decide) hC
  · obtain ⟨z, v', p1, p2, p3, p4, p5⟩ := m_packs hb (n := 8) (A := a2) (by omega) hA (p := 4) (by decide) v hmb
    rw [show nI 8 = (8 : Int32) from rfl] at p1
    have hxp := x_packed u hb hxb (n := 8) (A := a2) (by omega) hA
    have hxd := x_dec u hb hxb (n := 8) (A := a2) (by omega) hA
    rw [show nI 8 = (8 : Int32) from rfl] at hxp hxd
    have hC' : Core u v' := hC.same rfl rfl rfl (p4 1 (by decide)) (p4 2 (by decide)) p3
    have h13' : mF v' 13 = 0 := by rw [p3]; exact h13
    cases z with
    | false =>
      have hp : f_XMe_isPacked u (nI a2) 8 = false := by
        cases e : f_XMe_isPacked u (nI a2) 8 with
        | false => rfl
        | true => exact absurd (p2.mpr (hxp.mp e)) (by decide)
      have hl : f_MMo_looks v = some (msF v' 13 7) := by simp +decide only [f_MMo_looks, f_MMo_looksAtWord, f_MMo_width, in_lit, bI0, wrong_f, f_MMo_low, f_MMo_high, nmE, jnE, bd1S, hm10, hm8, hlo, hhi, mF_F, mA_F, mF_A, Nat.reduceEqDiff, ↓reduceIte, bd1_id, ckIN (n := 16) (A := j) rfl hj (by decide), ckIN (n := 16) (A := i) rfl hi (by decide), nI_clamp (show j < 2 ^ 31 by omega), nI_clamp (show i < 2 ^ 31 by omega), hm12, ite_self, lh, hh, if_pos g2, ckN32_ok (show ¬ (8 : Int32) = 0 by decide), p1, bd2S, h13, wrong_t v' 7 h13']
      have eX : f_XPr_perform u = (7, u) := by simp +decide only [f_XPr_perform, prI, prE, nmE, jnE, hx4, hx5, hx6, hx7, bI0, ↓reduceIte, x_val _ rfl hi, x_val _ rfl hj, x_putR _ _ rfl hi, hR, xF_R, xF_F, xR_R, xR_F, hnx, hbh, hx9, f_XDe_convert, f_XDe_convertToBinary, f_XMe_faultOf, g1, hh, hp]
      rw [eX]
      exact ⟨msF v' 13 7, hl, by rw [mF_F, if_neg (by decide), p3], Or.inr ⟨rfl, by show nok 7; unfold nok; decide, hC'.fl _, by rw [mF_F, if_neg (by decide), p3]⟩⟩
    | true =>
      have hp : f_XMe_isPacked u (nI a2) 8 = true := hxp.mpr (p2.mp rfl)
      have hm1 := fun w hw => m_minus w hb hw (n := 8) (A := a2) (by omega) hA
      have hv1 := fun w (hw : ∀ k, mA w 4 k = mA v' 4 k) => m_val w 4 (d := fun k => if k < 2 * 8 - 1 then dg b a2 8 k else 0) (fun k hk => ⟨by
          show (if k < 2 * 8 - 1 then dg b a2 8 k else 0) < 16
          split
          · exact dg_lt hb _ _ _
          · omega, by rw [hw]; exact p5 k (by omega)⟩) (mns b a2 8)
      rw [fv_18 (by omega), show nI 8 = (8 : Int32) from rfl] at *
      obtain ⟨Y, hY⟩ : ∃ Y, Y = (if mns b a2 8 = false then lN (fv b a2 8) else -lN (fv b a2 8)) := ⟨_, rfl⟩
      rw [← hY] at hxd hv1
      have mb' : ∀ j, mA v' 1 j = nI (b j) := fun j => by rw [p4 1 (by decide)]; exact hmb j
      have f8 : mF v' 8 = 79 := by rw [p3]; exact hm8
      have f12 : mF v' 12 = nI a2 := by rw [p3]; exact hm12
      have f10 : mF v' 10 = nI s := by rw [p3]; exact hm10
      by_cases q : Y = Y.toInt32.toInt64
      · have hl : f_MMo_looks v = some v' := by simp +decide only [f_MMo_looks, f_MMo_looksAtWord, f_MMo_width, in_lit, bI0, wrong_f, f_MMo_low, f_MMo_high, nmE, jnE, bd1S, hm10, hm8, hlo, hhi, mF_F, mA_F, mF_A, Nat.reduceEqDiff, ↓reduceIte, bd1_id, ckIN (n := 16) (A := j) rfl hj (by decide), ckIN (n := 16) (A := i) rfl hi (by decide), nI_clamp (show j < 2 ^ 31 by omega), nI_clamp (show i < 2 ^ 31 by omega), hm12, ite_self, lh, hh, if_pos g2, ckN32_ok (show ¬ (8 : Int32) = 0 by decide), p1, bd2S, h13, h13', f8, f12, hm1 v' mb', hv1 v' (fun _ => rfl), in_fits, decide_eq_true q]
        have eX : f_XPr_perform u = (0, xsR u i Y.toInt32) := by simp +decide only [f_XPr_perform, prI, prE, nmE, jnE, hx4, hx5, hx6, hx7, bI0, ↓reduceIte, x_val _ rfl hi, x_val _ rfl hj, x_putR _ _ rfl hi, hR, xF_R, xF_F, xR_R, xR_F, hnx, hbh, hx9, f_XDe_convert, f_XDe_convertToBinary, f_XMe_faultOf, g1, hh, hp, hxd, if_pos q]
        obtain ⟨n', hn', hnx', -, hact'⟩ := (hDd.alike (p4 1 (by decide)) (p4 2 (by decide)) p3).act
        have hact' := hact'.2.1 (by decide) (by decide)
        have ht := m_take (msF v' 2 (nI n')) hb mb' (a := nI a2) (n := 8) (A := a2) (N := 8) rfl rfl hA (by decide)
        have eM : f_MMo_indexed v' (nI n') = some (msA (msF v' 2 (nI n')) 2 i Y.toInt32) := by
          simp +decide only [f_MMo_indexed, f_MMo_width, in_lit, bI0, f_MMo_low, f_MMo_high, nmE, jnE, bd1S, f10, f8, f12, hlo, hhi, mF_F, mA_F, mF_A, Nat.reduceEqDiff, ↓reduceIte, bd1_id, ckIN (n := 16) (A := j) rfl hj (by decide), ckIN (n := 16) (A := i) rfl hi (by decide), nI_clamp (show j < 2 ^ 31 by omega), nI_clamp (show i < 2 ^ 31 by omega), ht, hm1 (msF v' 2 (nI n')) mb', hv1 (msF v' 2 (nI n')) (fun _ => rfl)]
        rw [eX]
        refine Out.sim (v1 := v') (n := n') (u := u) hl (by rw [p3]) h13' ?_ hnx' hn'
        rw [hact', eM]
        exact Sim.mk ok0 h13' ((hC'.mn _).reg _ _) rfl rfl rfl
      · have hl : f_MMo_looks v = some (msF v' 13 9) := by simp +decide only [f_MMo_looks, f_MMo_looksAtWord, f_MMo_width, in_lit, bI0, wrong_f, f_MMo_low, f_MMo_high, nmE, jnE, bd1S, hm10, hm8, hlo, hhi, mF_F, mA_F, mF_A, Nat.reduceEqDiff, ↓reduceIte, bd1_id, ckIN (n := 16) (A := j) rfl hj (by decide), ckIN (n := 16) (A := i) rfl hi (by decide), nI_clamp (show j < 2 ^ 31 by omega), nI_clamp (show i < 2 ^ 31 by omega), hm12, ite_self, lh, hh, if_pos g2, ckN32_ok (show ¬ (8 : Int32) = 0 by decide), p1, bd2S, h13, h13', f8, f12, hm1 v' mb', hv1 v' (fun _ => rfl), in_fits, decide_eq_false q, wrong_t v' 9 h13']
        have eX : f_XPr_perform u = (9, u) := by simp +decide only [f_XPr_perform, prI, prE, nmE, jnE, hx4, hx5, hx6, hx7, bI0, ↓reduceIte, x_val _ rfl hi, x_val _ rfl hj, x_putR _ _ rfl hi, hR, xF_R, xF_F, xR_R, xR_F, hnx, hbh, hx9, f_XDe_convert, f_XDe_convertToBinary, f_XMe_faultOf, g1, hh, hp, hxd, if_neg q]
        rw [eX]
        exact ⟨msF v' 13 9, hl, by rw [mF_F, if_neg (by decide), p3], Or.inr ⟨rfl, by show nok 9; unfold nok; decide, hC'.fl _, by rw [mF_F, if_neg (by decide), p3]⟩⟩
