/-! thirty-two digits -/
def Dig (v : MS) (p N : Nat) : Prop := ∀ k, k < 32 → mA v p k = nI (dgt N k)
theorem Gd.dgt {b : Nat → Nat} {A n : Nat} (h : Gd b A n) (k : Nat) : dgt (fv b A n) k = if k < 2 * n - 1 then dg b A n k else 0 := valD_dig h.2 k
theorem Gd.lt {b : Nat → Nat} {A n : Nat} (h : Gd b A n) : fv b A n < 10 ^ (2 * n - 1) := valD_lt h.2
theorem p10 (k : Nat) : 0 < 10 ^ k := Nat.pow_pos (by decide)
theorem p10_le {j k : Nat} (h : j ≤ k) : 10 ^ j ≤ 10 ^ k := Nat.pow_le_pow_right (by decide) h
theorem dv_s (N k : Nat) : N / 10 ^ k = 10 * (N / 10 ^ (k + 1)) + dgt N k := by
  unfold dgt
  rw [Nat.pow_succ, ← Nat.div_div_eq_div_mul]
  omega
theorem md_s (N k : Nat) : N % 10 ^ (k + 1) = N % 10 ^ k + 10 ^ k * dgt N k := by
  unfold dgt
  rw [Nat.mod_pow_succ]
theorem dgt_sh (E left k : Nat) : dgt (E * 10 ^ left) k = if k < left then 0 else dgt E (k - left) := by
  unfold dgt
  by_cases c : k < left
  · rw [if_pos c]
    obtain ⟨j, rfl⟩ : ∃ j, left = k + (j + 1) := ⟨left - k - 1, by omega⟩
    rw [Nat.pow_add, Nat.mul_left_comm, Nat.mul_div_cancel_left _ (p10 k), Nat.pow_succ, ← Nat.mul_assoc, Nat.mul_mod_left]
  · rw [if_neg c]
    obtain ⟨j, rfl⟩ : ∃ j, k = left + j := ⟨k - left, by omega⟩
    rw [Nat.add_sub_cancel_left, Nat.pow_add, Nat.mul_comm E, Nat.mul_div_mul_left _ _ (p10 left)]
def cy (D F : Nat) (t : Int) (k : Nat) : Int := (((D % 10 ^ k : Nat) : Int) + t * ((F % 10 ^ k : Nat) : Int)) / ((10 ^ k : Nat) : Int)
theorem cy_0 (D F : Nat) (t : Int) : cy D F t 0 = 0 := by
  unfold cy
  simp [Nat.mod_one]
theorem cy_b (D F : Nat) {t : Int} (h1 : -1 ≤ t) (h2 : t ≤ 9) (k : Nat) : -1 ≤ cy D F t k ∧ cy D F t k ≤ 9 := by
  unfold cy
  have hp := p10 k
  have hD := Nat.mod_lt D hp
  have hF := Nat.mod_lt F hp
  generalize 10 ^ k = P at *
  generalize D % P = d at *
  generalize F % P = f at *
  have hP : (0 : Int) < (P : Int) := by omega
  have a1 : -(f : Int) ≤ t * (f : Int) := by
    have := Int.mul_le_mul_of_nonneg_right h1 (show (0 : Int) ≤ (f : Int) by omega)
    omega
  have a2 : t * (f : Int) ≤ 9 * (f : Int) := Int.mul_le_mul_of_nonneg_right h2 (by omega)
  constructor
  · apply (Int.le_ediv_iff_mul_le hP).mpr
    omega
  · have : ((d : Int) + t * f) / P < 10 := (Int.ediv_lt_iff_lt_mul hP).mpr (by omega)
    omega
theorem cy_s (D F : Nat) (t : Int) (k : Nat) : cy D F t (k + 1) = (((dgt D k : Nat) : Int) + t * ((dgt F k : Nat) : Int) + cy D F t k) / 10 := by
  unfold cy
  rw [md_s, md_s, Nat.pow_succ]
  have hp := p10 k
  generalize 10 ^ k = P at *
  generalize D % P = d
  generalize F % P = f
  generalize dgt D k = a
  generalize dgt F k = b
  have hP : ((P : Nat) : Int) ≠ 0 := by omega
  have e : (((d + P * a : Nat) : Int) + t * ((f + P * b : Nat) : Int)) = ((d : Int) + t * f) + (P : Int) * ((a : Int) + t * b) := by
    rw [Int.natCast_add, Int.natCast_add, Int.natCast_mul, Int.natCast_mul, Int.mul_add, Int.mul_add, Int.mul_left_comm t]
    omega
  rw [e, Int.natCast_mul, ← Int.ediv_ediv_of_nonneg (by omega), Int.add_mul_ediv_left _ _ hP]
  congr 1
  omega
theorem cy_d {D F R : Nat} {t : Int} (hR : (R : Int) = D + t * F) (k : Nat) : ((dgt R k : Nat) : Int) = (((dgt D k : Nat) : Int) + t * ((dgt F k : Nat) : Int) + cy D F t k) % 10 := by
  have hp := p10 k
  have hP : ((10 ^ k : Nat) : Int) ≠ 0 := by omega
  have e1 : ((R / 10 ^ k : Nat) : Int) = cy D F t k + ((D / 10 ^ k : Nat) : Int) + t * ((F / 10 ^ k : Nat) : Int) := by
    unfold cy
    have d1 := Nat.mod_add_div D (10 ^ k)
    have f1 := Nat.mod_add_div F (10 ^ k)
    generalize 10 ^ k = P at *
    generalize D % P = d at *
    generalize F % P = f at *
    generalize D / P = a at *
    generalize F / P = b at *
    rw [Int.natCast_ediv, hR, ← d1, ← f1]
    have e : (((d + P * a : Nat) : Int) + t * ((f + P * b : Nat) : Int)) = ((d : Int) + t * f) + (P : Int) * ((a : Int) + t * b) := by
      rw [Int.natCast_add, Int.natCast_add, Int.natCast_mul, Int.natCast_mul, Int.mul_add, Int.mul_add, Int.mul_left_comm t]
      omega
    rw [e, Int.add_mul_ediv_left _ _ hP]
    omega
  have r1 : ((dgt R k : Nat) : Int) = ((R / 10 ^ k : Nat) : Int) % 10 := by unfold dgt; omega
  have d2 : (((D / 10 ^ k : Nat)) : Int) = 10 * ((D / 10 ^ k / 10 : Nat) : Int) + ((dgt D k : Nat) : Int) := by unfold dgt; omega
  have f2 : (((F / 10 ^ k : Nat)) : Int) = 10 * ((F / 10 ^ k / 10 : Nat) : Int) + ((dgt F k : Nat) : Int) := by unfold dgt; omega
  rw [r1, e1, d2, f2, Int.mul_add, Int.mul_left_comm t]
  generalize t * ((dgt F k : Nat) : Int) = q
  generalize t * ((F / 10 ^ k / 10 : Nat) : Int) = q2
  omega
theorem ti_bm {x : Int32} {a : Int} (h : x.toInt = a.bmod (2 ^ 32)) (h1 : -2147483648 ≤ a) (h2 : a < 2147483648) : x.toInt = a := by
  rw [h, Int.bmod_eq_of_le (by omega) (by omega)]
theorem ti_mul {x y : Int32} (h1 : -2147483648 ≤ x.toInt * y.toInt) (h2 : x.toInt * y.toInt < 2147483648) : (x * y).toInt = x.toInt * y.toInt := ti_bm (Int32.toInt_mul x y) h1 h2
theorem ti_add {x y : Int32} (h1 : -2147483648 ≤ x.toInt + y.toInt) (h2 : x.toInt + y.toInt < 2147483648) : (x + y).toInt = x.toInt + y.toInt := ti_bm (Int32.toInt_add x y) h1 h2
theorem ti_sub {x y : Int32} (h1 : -2147483648 ≤ x.toInt - y.toInt) (h2 : x.toInt - y.toInt < 2147483648) : (x - y).toInt = x.toInt - y.toInt := ti_bm (Int32.toInt_sub x y) h1 h2
theorem tdiv_10 (a : Int) : a.tdiv 10 = if 0 ≤ a then a / 10 else -((-a) / 10) := by
  by_cases c : 0 ≤ a
  · rw [if_pos c, Int.tdiv_eq_ediv_of_nonneg c]
  · rw [if_neg c, ← Int.tdiv_eq_ediv_of_nonneg (by omega), Int.neg_tdiv, Int.neg_neg]
theorem dv10 {β : Type} {x : Int32} (h1 : -1000 ≤ x.toInt) (h2 : x.toInt ≤ 1000) (K : Int32 → Int32 → β) : ∃ q : Int32, q.toInt = x.toInt / 10 ∧ (if (0 : Int32) ≤ x - 10 * (x / 10) then K (x / 10) (x - 10 * (x / 10)) else K (x / 10 + -1) (x - 10 * (x / 10) + 10)) = K q (nI ((x.toInt % 10).toNat)) := by
  have t10 : (10 : Int32).toInt = 10 := rfl
  have tm1 : (-1 : Int32).toInt = -1 := rfl
  have t0 : (0 : Int32).toInt = 0 := rfl
  have q1 : (x / 10).toInt = x.toInt.tdiv 10 := by
    refine ti_bm (Int32.toInt_div x 10) ?_ ?_
    · rw [tdiv_10]; split <;> omega
    · rw [tdiv_10]; split <;> omega
  rw [tdiv_10] at q1
  have q2 : ((10 : Int32) * (x / 10)).toInt = 10 * (x / 10).toInt := by
    rw [← t10]
    refine ti_mul ?_ ?_
    · rw [t10, q1]; split <;> omega
    · rw [t10, q1]; split <;> omega
  have q3 : (x - 10 * (x / 10)).toInt = x.toInt - 10 * (x / 10).toInt := by
    rw [← q2]
    refine ti_sub ?_ ?_
    · rw [q2, q1]; split <;> omega
    · rw [q2, q1]; split <;> omega
  by_cases c : (0 : Int32) ≤ x - 10 * (x / 10)
  · rw [if_pos c]
    rw [Int32.le_iff_toInt_le, t0, q3, q1] at c
    rw [q1] at q3
    refine ⟨x / 10, ?_, ?_⟩
    · rw [q1]
      split
      · rfl
      · rename_i h; rw [if_neg h] at c; omega
    · congr 1
      apply ti_nI
      rw [q3]
      split
      · omega
      · rename_i h; rw [if_neg h] at c; omega
  · rw [if_neg c]
    rw [Int32.le_iff_toInt_le, t0, q3, q1] at c
    rw [q1] at q3
    refine ⟨x / 10 + -1, ?_, ?_⟩
    · rw [ti_add (by rw [q1, tm1]; split <;> omega) (by rw [q1, tm1]; split <;> omega), q1, tm1]
      split
      · rename_i h; rw [if_pos h] at c; omega
      · rename_i h; rw [if_neg h] at c; omega
    · congr 1
      apply ti_nI
      rw [ti_add (by rw [q3, t10]; split <;> omega) (by rw [q3, t10]; split <;> omega), q3, t10]
      split
      · rename_i h; rw [if_pos h] at c; omega
      · rename_i h; rw [if_neg h] at c; omega
theorem m_addsL {p0 p1 p2 left D E R : Nat} {t : Int} {x3 : Int32} (hp : p2 ≠ p0) (h1 : -1 ≤ t) (h2 : t ≤ 9) (hx : x3.toInt = t) (hl : left < 32) (hR : (R : Int) = D + t * ((E * 10 ^ left : Nat) : Int)) : ∀ (d k fuel : Nat) (w : MS) (c : Int32), k + d = 32 → d < fuel → c.toInt = cy D (E * 10 ^ left) t k → (∀ i, k ≤ i → i < 32 → mA w p1 i = nI (dgt D i)) → Dig w p2 E → (∀ i, i < k → mA w p0 i = nI (dgt R i)) → ∃ w', lpN fuel (g_MMo_adds_6 (nI left) x3 p2 p1 p0) (fun _ _ _ => none) c (nI k) w = some w' ∧ mF w' = mF w ∧ (∀ q, q ≠ p0 → mA w' q = mA w q) ∧ Dig w' p0 R := by
  intro d
  induction d with
  | zero =>
    intro k fuel w c hk hf hc i1 i2 i3
    obtain ⟨f, rfl⟩ : ∃ f, fuel = f + 1 := ⟨fuel - 1, by omega⟩
    refine ⟨w, ?_, rfl, fun _ _ => rfl, fun i h => i3 i (by omega)⟩
    show g_MMo_adds_6 (nI left) x3 p2 p1 p0 _ c (nI k) w = _
    simp only [g_MMo_adds_6]
    rw [if_pos (show (32 : Int32) ≤ nI k from nI_le (a := 32) (by omega) (by omega))]
  | succ d ih =>
    intro k fuel w c hk hf hc i1 i2 i3
    obtain ⟨f, rfl⟩ : ∃ f, fuel = f + 1 := ⟨fuel - 1, by omega⟩
    have hk2 : k < 32 := by omega
    have hcb := cy_b D (E * 10 ^ left) h1 h2 k
    have hcs := cy_s D (E * 10 ^ left) t k
    have hcd := cy_d hR k
    have hD := dgt_lt D k
    have hF := dgt_lt (E * 10 ^ left) k
    have hFe := dgt_sh E left k
    generalize hF0 : dgt (E * 10 ^ left) k = F0 at *
    have b1 : -9 ≤ t * (F0 : Int) := by
      have := Int.mul_le_mul_of_nonneg_right h1 (show (0 : Int) ≤ (F0 : Int) by omega)
      omega
    have b2 : t * (F0 : Int) ≤ 81 := by
      have := Int.mul_le_mul_of_nonneg_right h2 (show (0 : Int) ≤ (F0 : Int) by omega)
      omega
    obtain ⟨x7, hx7, e7⟩ : ∃ x7 : Int32, x7.toInt = t * (F0 : Int) ∧ ∀ K : Int32 → Option MS, (if nI k < nI left then K 0 else ckI (nI k - nI left) 32 (K (x3 * mA w p2 (Int32.toNatClampNeg (nI k - nI left))))) = K x7 := by
      by_cases c1 : k < left
      · refine ⟨0, ?_, fun K => by rw [if_pos (nI_lt c1 (by omega))]⟩
        rw [hFe, if_pos c1]
        simp
      · rw [if_neg c1] at hFe
        have hd := dgt_lt E (k - left)
        refine ⟨x3 * nI (dgt E (k - left)), ?_, fun K => ?_⟩
        · have : (nI (dgt E (k - left))).toInt = (F0 : Int) := by rw [nI_toInt (by omega), hFe]
          rw [ti_mul (by rw [hx, this]; omega) (by rw [hx, this]; omega), hx, this]
        · rw [if_neg (nI_nlt (by omega) (by omega)), sI_le (by omega), ckIN (n := 32) (A := k - left) rfl (by omega) (by decide), nI_clamp (by omega), i2 (k - left) (by omega)]
    have hm := i1 k (Nat.le_refl _) hk2
    have a1 : (nI (dgt D k)).toInt = ((dgt D k : Nat) : Int) := nI_toInt (by omega)
    have a2 : (nI (dgt D k) + x7).toInt = ((dgt D k : Nat) : Int) + t * (F0 : Int) := by
      rw [ti_add (by rw [a1, hx7]; omega) (by rw [a1, hx7]; omega), a1, hx7]
    have a3 : (nI (dgt D k) + x7 + c).toInt = ((dgt D k : Nat) : Int) + t * (F0 : Int) + cy D (E * 10 ^ left) t k := by
      rw [ti_add (by rw [a2, hc]; omega) (by rw [a2, hc]; omega), a2, hc]
    obtain ⟨q, q1, q2⟩ := dv10 (β := Option MS) (x := nI (dgt D k) + x7 + c) (by rw [a3]; omega) (by rw [a3]; omega) (fun (x_12 : Int32) (x_13 : Int32) => lpN f (g_MMo_adds_6 (nI left) x3 p2 p1 p0) (fun _ _ _ => none) x_12 (nI (k + 1)) (msA w p0 k x_13))
    have hr : ((nI (dgt D k) + x7 + c).toInt % 10).toNat = dgt R k := by
      rw [a3, ← hcd]
      omega
    rw [hr] at q2
    obtain ⟨w', e1, e2, e3, e4⟩ := ih (k + 1) f (msA w p0 k (nI (dgt R k))) q (by omega) (by omega) (by rw [q1, a3, hcs]) (fun i h3 h4 => by
      rw [mA_A]
      split
      · rename_i h; subst h; rw [updE, if_neg (by omega)]; exact i1 i (by omega) h4
      · exact i1 i (by omega) h4) (fun i h => by rw [mA_A, if_neg hp]; exact i2 i h) (fun i h => by
      rw [mA_A, if_pos rfl, updE]
      split
      · rename_i h5; rw [h5]
      · exact i3 i (by omega))
    refine ⟨w', ?_, e2, fun r hr => by rw [e3 r hr, mA_A, if_neg hr], e4⟩
    show g_MMo_adds_6 (nI left) x3 p2 p1 p0 _ c (nI k) w = _
    simp only [g_MMo_adds_6, if_neg (show ¬ (32 : Int32) ≤ nI k from nI_ge (b := 32) hk2 (by decide)), nmE, jnE, ckIN (n := 32) (A := k) rfl hk2 (by decide), nI_clamp (show k < 2 ^ 31 by omega), hm, e7, nI_1]
    rw [q2]
    exact e1
theorem m_adds {v : MS} {p0 p1 p2 left D E R : Nat} {t : Int} {x3 : Int32} (hp : p2 ≠ p0) (h1 : -1 ≤ t) (h2 : t ≤ 9) (hx : x3.toInt = t) (hl : left < 32) (hR : (R : Int) = D + t * ((E * 10 ^ left : Nat) : Int)) (hD : Dig v p1 D) (hE : Dig v p2 E) : ∃ w', f_MMo_adds p0 p1 p2 v x3 (nI left) = some w' ∧ mF w' = mF v ∧ (∀ q, q ≠ p0 → mA w' q = mA v q) ∧ Dig w' p0 R :=
  m_addsL hp h1 h2 hx hl hR 32 0 fuelM v 0 (by omega) (by unfold fuelM; omega) (by rw [cy_0]; rfl) (fun i _ h => hD i h) hE (fun i h => by omega)
/-! digits compared, looked through, copied -/
theorem dv_eq {D E i : Nat} (h : D / 10 ^ (i + 1) = E / 10 ^ (i + 1)) (hd : dgt D i = dgt E i) : D / 10 ^ i = E / 10 ^ i := by rw [dv_s, dv_s E, h, hd]
theorem dv_lt {D E i : Nat} (h : D / 10 ^ (i + 1) = E / 10 ^ (i + 1)) (hd : dgt D i < dgt E i) : D < E := by
  have e : D / 10 ^ i < E / 10 ^ i := by rw [dv_s, dv_s E, h]; omega
  exact Nat.lt_of_not_le (fun h2 => absurd (Nat.div_le_div_right (c := 10 ^ i) h2) (by omega))
theorem m_agL {v : MS} {p0 p1 D E : Nat} (hD : Dig v p0 D) (hE : Dig v p1 E) (K : Int32 → Option Int32) (hK : ∀ i, i < 32 → K (nI i) = if dgt E i ≤ dgt D i then some 1 else some (-1)) : ∀ (i fuel : Nat), i ≤ 32 → i < fuel → D / 10 ^ i = E / 10 ^ i → ∃ r, lpN fuel (g_MMo_against_3 v p0 p1 K) (fun _ => none) (nI i - 1) = some r ∧ (0 ≤ r ↔ E ≤ D) := by
  intro i
  induction i with
  | zero =>
    intro fuel hi hf h
    obtain ⟨f, rfl⟩ : ∃ f, fuel = f + 1 := ⟨fuel - 1, by omega⟩
    refine ⟨0, ?_, ?_⟩
    · show g_MMo_against_3 v p0 p1 K _ (nI 0 - 1) = _
      simp only [g_MMo_against_3]
      rw [if_pos (by decide)]
    · rw [Nat.pow_zero, Nat.div_one, Nat.div_one] at h
      rw [h]
      simp
  | succ i ih =>
    intro fuel hi hf h
    obtain ⟨f, rfl⟩ : ∃ f, fuel = f + 1 := ⟨fuel - 1, by omega⟩
    have hi2 : i < 32 := by omega
    have e2 : nI i + -1 = nI i - 1 := by rw [Int32.sub_eq_add_neg]
    have d1 := dgt_lt D i
    have d2 := dgt_lt E i
    have q : (nI (dgt D i) = nI (dgt E i)) = (dgt D i = dgt E i) := eq_nI (by omega) (by omega)
    have eL : lpN (f + 1) (g_MMo_against_3 v p0 p1 K) (fun _ => none) (nI (i + 1) - 1) = if dgt D i = dgt E i then lpN f (g_MMo_against_3 v p0 p1 K) (fun _ => none) (nI i - 1) else K (nI i) := by
      show g_MMo_against_3 v p0 p1 K _ (nI (i + 1) - 1) = _
      simp only [g_MMo_against_3, nI_pred, if_neg (nI_pos (show i < 2 ^ 31 by omega)), ckIN (n := 32) (A := i) rfl hi2 (by decide), nI_clamp (show i < 2 ^ 31 by omega), hD i hi2, hE i hi2, q, nmE, e2]
    by_cases c : dgt D i = dgt E i
    · rw [eL, if_pos c]
      exact ih f (by omega) (by omega) (dv_eq h c)
    · rw [eL, if_neg c, hK i hi2]
      by_cases c2 : dgt E i ≤ dgt D i
      · rw [if_pos c2]
        have := dv_lt h.symm (show dgt E i < dgt D i by omega)
        exact ⟨1, rfl, fun _ => by omega, fun _ => by decide⟩
      · rw [if_neg c2]
        have := dv_lt h (show dgt D i < dgt E i by omega)
        exact ⟨-1, rfl, fun h => absurd h (by decide), fun h => by omega⟩
theorem m_against {v : MS} {p0 p1 D E : Nat} (hD : Dig v p0 D) (hE : Dig v p1 E) (hd : D < 10 ^ 32) (he : E < 10 ^ 32) : ∃ r, f_MMo_against p0 p1 v = some r ∧ (0 ≤ r ↔ E ≤ D) := by
  simp only [f_MMo_against, jnE]
  refine m_agL hD hE _ (fun i hi => ?_) 32 fuelM (by omega) (by unfold fuelM; omega) (by rw [Nat.div_eq_of_lt hd, Nat.div_eq_of_lt he])
  have d1 := dgt_lt D i
  have d2 := dgt_lt E i
  have q : (nI (dgt E i) ≤ nI (dgt D i)) = (dgt E i ≤ dgt D i) := le_nI (by omega) (by omega)
  simp only [ckIN (n := 32) (A := i) rfl hi (by decide), nI_clamp (show i < 2 ^ 31 by omega), hD i hi, hE i hi, q]
theorem m_nbL {v : MS} {D E : Nat} (hD : Dig v 7 D) (hE : Dig v 8 E) (K : Int32 → Option Bool) (hK : ∀ i, i < 32 → K (nI i) = if dgt D i ≤ dgt E i then some false else some true) : ∀ (i fuel : Nat), i ≤ 32 → i < fuel → D / 10 ^ i = E / 10 ^ i → lpN fuel (g_MMo_notBelow_3 v K) (fun _ => none) (nI i - 1) = some (decide (E ≤ D)) := by
  intro i
  induction i with
  | zero =>
    intro fuel hi hf h
    obtain ⟨f, rfl⟩ : ∃ f, fuel = f + 1 := ⟨fuel - 1, by omega⟩
    show g_MMo_notBelow_3 v K _ (nI 0 - 1) = _
    simp only [g_MMo_notBelow_3]
    rw [if_pos (by decide)]
    rw [Nat.pow_zero, Nat.div_one, Nat.div_one] at h
    rw [h]
    simp
  | succ i ih =>
    intro fuel hi hf h
    obtain ⟨f, rfl⟩ : ∃ f, fuel = f + 1 := ⟨fuel - 1, by omega⟩
    have hi2 : i < 32 := by omega
    have e2 : nI i + -1 = nI i - 1 := by rw [Int32.sub_eq_add_neg]
    have d1 := dgt_lt D i
    have d2 := dgt_lt E i
    have q : (nI (dgt D i) = nI (dgt E i)) = (dgt D i = dgt E i) := eq_nI (by omega) (by omega)
    have eL : lpN (f + 1) (g_MMo_notBelow_3 v K) (fun _ => none) (nI (i + 1) - 1) = if dgt D i = dgt E i then lpN f (g_MMo_notBelow_3 v K) (fun _ => none) (nI i - 1) else K (nI i) := by
      show g_MMo_notBelow_3 v K _ (nI (i + 1) - 1) = _
      simp only [g_MMo_notBelow_3, nI_pred, if_neg (nI_pos (show i < 2 ^ 31 by omega)), ckIN (n := 32) (A := i) rfl hi2 (by decide), ckIN (n := 256) (A := i) rfl (show i < 256 by omega) (by decide), nI_clamp (show i < 2 ^ 31 by omega), hD i hi2, hE i hi2, q, nmE, e2]
    by_cases c : dgt D i = dgt E i
    · rw [eL, if_pos c]
      exact ih f (by omega) (by omega) (dv_eq h c)
    · rw [eL, if_neg c, hK i hi2]
      by_cases c2 : dgt D i ≤ dgt E i
      · rw [if_pos c2]
        have := dv_lt h (show dgt D i < dgt E i by omega)
        rw [decide_eq_false (by omega)]
      · rw [if_neg c2]
        have := dv_lt h.symm (show dgt E i < dgt D i by omega)
        rw [decide_eq_true (by omega)]
theorem m_notBelow {v : MS} {D E : Nat} (hD : Dig v 7 D) (hE : Dig v 8 E) (hd : D < 10 ^ 32) (he : E < 10 ^ 32) : f_MMo_notBelow v = some (decide (E ≤ D)) := by
  simp only [f_MMo_notBelow, jnE]
  refine m_nbL hD hE _ (fun i hi => ?_) 32 fuelM (by omega) (by unfold fuelM; omega) (by rw [Nat.div_eq_of_lt hd, Nat.div_eq_of_lt he])
  have d1 := dgt_lt D i
  have d2 := dgt_lt E i
  have q : (nI (dgt D i) ≤ nI (dgt E i)) = (dgt D i ≤ dgt E i) := le_nI (by omega) (by omega)
  simp only [ckIN (n := 32) (A := i) rfl hi (by decide), ckIN (n := 256) (A := i) rfl (show i < 256 by omega) (by decide), nI_clamp (show i < 2 ^ 31 by omega), hD i hi, hE i hi, q]
theorem m_zeroL {v : MS} {p N : Nat} (hN : Dig v p N) (hn : N < 10 ^ 32) : ∀ (d k fuel : Nat), k + d = 32 → d < fuel → N % 10 ^ k = 0 → lpN fuel (g_MMo_isZero_2 v p) (fun _ => none) (nI k) = some (decide (N = 0)) := by
  intro d
  induction d with
  | zero =>
    intro k fuel hk hf h
    obtain ⟨f, rfl⟩ : ∃ f, fuel = f + 1 := ⟨fuel - 1, by omega⟩
    obtain rfl : k = 32 := by omega
    show g_MMo_isZero_2 v p _ (nI 32) = _
    simp only [g_MMo_isZero_2]
    rw [Nat.mod_eq_of_lt hn] at h
    rw [if_pos (by decide), h]
    rfl
  | succ d ih =>
    intro k fuel hk hf h
    obtain ⟨f, rfl⟩ : ∃ f, fuel = f + 1 := ⟨fuel - 1, by omega⟩
    have hk2 : k < 32 := by omega
    have d1 := dgt_lt N k
    have q : (nI (dgt N k) = (0 : Int32)) = (dgt N k = 0) := eq_nI (c := 0) (by omega) (by decide)
    have hm := md_s N k
    show g_MMo_isZero_2 v p _ (nI k) = _
    simp only [g_MMo_isZero_2, if_neg (show ¬ (32 : Int32) ≤ nI k from nI_ge (b := 32) hk2 (by decide)), ckIN (n := 32) (A := k) rfl hk2 (by decide), nI_clamp (show k < 2 ^ 31 by omega), hN k hk2, q, nmE, nI_1]
    by_cases c : dgt N k = 0
    · rw [if_pos c]
      exact ih (k + 1) f (by omega) (by omega) (by rw [hm, h, c]; rfl)
    · rw [if_neg c, decide_eq_false]
      intro h0
      rw [h0] at c
      exact c (by unfold dgt; simp)
theorem m_isZero {v : MS} {p N : Nat} (hN : Dig v p N) (hn : N < 10 ^ 32) : f_MMo_isZero p v = some (decide (N = 0)) := m_zeroL hN hn 32 0 fuelM (by omega) (by unfold fuelM; omega) (by rw [Nat.pow_zero, Nat.mod_one])
theorem room_s (N k : Nat) : decide (N / 10 ^ k = 0) = (decide (dgt N k = 0) && decide (N / 10 ^ (k + 1) = 0)) := by
  have := dv_s N k
  by_cases c : dgt N k = 0
  · by_cases c2 : N / 10 ^ (k + 1) = 0
    · rw [decide_eq_true c, decide_eq_true c2, decide_eq_true (by omega)]; rfl
    · rw [decide_eq_true c, decide_eq_false c2, decide_eq_false (by omega)]; rfl
  · rw [decide_eq_false c, decide_eq_false (by omega)]; rfl
theorem room_lt (N k : Nat) : decide (N / 10 ^ k = 0) = decide (N < 10 ^ k) := by
  have h : (N / 10 ^ k = 0) = (N < 10 ^ k) := propext ⟨fun h => by
    rcases Nat.div_eq_zero_iff.mp h with h | h
    · have := p10 k; omega
    · exact h, fun h => Nat.div_eq_of_lt h⟩
  simp only [h]
theorem m_roomL {v : MS} {N : Nat} (hN : Dig v 6 N) (hn : N < 10 ^ 32) (K : Bool → Option MS) : ∀ (d k fuel : Nat) (z : Bool), k + d = 32 → d < fuel → lpN fuel (g_MMo_decimal_18 K v) (fun _ _ => none) z (nI k) = K (z && decide (N / 10 ^ k = 0)) := by
  intro d
  induction d with
  | zero =>
    intro k fuel z hk hf
    obtain ⟨f, rfl⟩ : ∃ f, fuel = f + 1 := ⟨fuel - 1, by omega⟩
    obtain rfl : k = 32 := by omega
    show g_MMo_decimal_18 K v _ z (nI 32) = _
    simp only [g_MMo_decimal_18]
    rw [if_pos (by decide), Nat.div_eq_of_lt hn]
    simp
  | succ d ih =>
    intro k fuel z hk hf
    obtain ⟨f, rfl⟩ : ∃ f, fuel = f + 1 := ⟨fuel - 1, by omega⟩
    have hk2 : k < 32 := by omega
    have d1 := dgt_lt N k
    have q : (nI (dgt N k) = (0 : Int32)) = (dgt N k = 0) := eq_nI (c := 0) (by omega) (by decide)
    show g_MMo_decimal_18 K v _ z (nI k) = _
    simp only [g_MMo_decimal_18, if_neg (show ¬ (32 : Int32) ≤ nI k from nI_ge (b := 32) hk2 (by decide)), ckIN (n := 32) (A := k) rfl hk2 (by decide), nI_clamp (show k < 2 ^ 31 by omega), hN k hk2, q, nmE, jnE, nI_1]
    rw [room_s]
    by_cases c : dgt N k = 0
    · rw [if_pos c, decide_eq_true c, ih (k + 1) f _ (by omega) (by omega)]
      simp
    · rw [if_neg c, decide_eq_false c, ih (k + 1) f _ (by omega) (by omega)]
      simp
theorem x_roomL {n : Nat} (hn : n ≤ 8) (K : Int64 → Bool) : ∀ (d k fuel : Nat), k + d = n → 1 ≤ k → d < fuel → lpN fuel (g_XDe_hasRoom_7 (nI n) K) (fun _ _ => default) (lN (10 ^ (2 * k - 1))) (nI k) = K (lN (10 ^ (2 * n - 1))) := by
  intro d
  induction d with
  | zero =>
    intro k fuel hk h1 hf
    obtain ⟨f, rfl⟩ : ∃ f, fuel = f + 1 := ⟨fuel - 1, by omega⟩
    obtain rfl : k = n := by omega
    show g_XDe_hasRoom_7 (nI k) K _ _ (nI k) = _
    simp only [g_XDe_hasRoom_7]
    rw [if_pos (nI_le (by omega) (by omega))]
  | succ d ih =>
    intro k fuel hk h1 hf
    obtain ⟨f, rfl⟩ : ∃ f, fuel = f + 1 := ⟨fuel - 1, by omega⟩
    have q : lN (10 ^ (2 * k - 1)) * (100 : Int64) = lN (10 ^ (2 * (k + 1) - 1)) := by
      rw [show (100 : Int64) = lN (10 ^ 2) from rfl, lN_mul, ← Nat.pow_add]
      congr 2
      omega
    show g_XDe_hasRoom_7 (nI n) K _ _ (nI k) = _
    simp only [g_XDe_hasRoom_7, if_neg (nI_ge (show k < n by omega) (show n < 2 ^ 31 by omega)), nmE, q, nI_1]
    exact ih (k + 1) f (by omega) (by omega) (by omega)
theorem x_room (u : XS) {n N : Nat} (h1 : 1 ≤ n) (hn : n ≤ 8) (hN : N < 9223372036854775808) : f_XDe_hasRoom u (lN N) (nI n) = decide (N < 10 ^ (2 * n - 1)) := by
  have hP : 10 ^ (2 * n - 1) ≤ 10 ^ 15 := p10_le (by omega)
  have fu : n - 1 < (Int32.toInt (nI n) - Int32.toInt (1 : Int32)).toNat + 1 := by rw [nI_toInt (by omega), show (1 : Int32).toInt = 1 from rfl]; omega
  have q : (lN (10 ^ (2 * n - 1)) ≤ lN N) = (10 ^ (2 * n - 1) ≤ N) := propext (pk_lLE (by omega) (by omega))
  have e := x_roomL hn (fun (y_1 : Int64) => if y_1 ≤ lN N then false else true) (n - 1) 1 _ (by omega) (by omega) fu
  simp only [f_XDe_hasRoom, jnE]
  rw [show (10 : Int64) = lN (10 ^ (2 * 1 - 1)) from rfl, show (1 : Int32) = nI 1 from rfl]
  refine e.trans ?_
  simp only [q]
  by_cases c : 10 ^ (2 * n - 1) ≤ N
  · rw [if_pos c, decide_eq_false (by omega)]
  · rw [if_neg c, decide_eq_true (by omega)]
/-! sums, products and quotients of digits -/
theorem m_copyL (K : MS → Option MS) : ∀ (d k fuel : Nat) (w : MS), k + d = 32 → d < fuel → (∀ i, i < k → mA w 6 i = mA w 5 i) → ∃ w', lpN fuel (g_MMo_digits_95 K) (fun _ _ => none) (nI k) w = K w' ∧ mF w' = mF w ∧ (∀ q, q ≠ 6 → mA w' q = mA w q) ∧ ∀ i, i < 32 → mA w' 6 i = mA w 5 i := by
  intro d
  induction d with
  | zero =>
    intro k fuel w hk hf h
    obtain ⟨f, rfl⟩ : ∃ f, fuel = f + 1 := ⟨fuel - 1, by omega⟩
    refine ⟨w, ?_, rfl, fun _ _ => rfl, fun i hi => h i (by omega)⟩
    show g_MMo_digits_95 K _ (nI k) w = _
    simp only [g_MMo_digits_95]
    rw [if_pos (show (32 : Int32) ≤ nI k from nI_le (a := 32) (by omega) (by omega))]
  | succ d ih =>
    intro k fuel w hk hf h
    obtain ⟨f, rfl⟩ : ∃ f, fuel = f + 1 := ⟨fuel - 1, by omega⟩
    have hk2 : k < 32 := by omega
    obtain ⟨w', e1, e2, e3, e4⟩ := ih (k + 1) f (msA w 6 k (mA w 5 k)) (by omega) (by omega) (fun i hi => by
      rw [mA_A, mA_A, if_pos rfl, if_neg (by decide), updE]
      split
      · rename_i c; rw [c]
      · exact h i (by omega))
    refine ⟨w', ?_, e2, fun q hq => by rw [e3 q hq, mA_A, if_neg hq], fun i hi => by rw [e4 i hi, mA_A, if_neg (by decide)]⟩
    rw [← e1]
    show g_MMo_digits_95 K _ (nI k) w = _
    simp only [g_MMo_digits_95, if_neg (show ¬ (32 : Int32) ≤ nI k from nI_ge (b := 32) hk2 (by decide)), nmE, ckIN (n := 32) (A := k) rfl hk2 (by decide), nI_clamp (show k < 2 ^ 31 by omega), nI_1]
theorem m_zeroedL (K : MS → Option MS) : ∀ (d k fuel : Nat) (w : MS), k + d = 32 → d < fuel → (∀ i, i < k → mA w 6 i = 0) → ∃ w', lpN fuel (g_MMo_digits_215 K) (fun _ _ => none) (nI k) w = K w' ∧ mF w' = mF w ∧ (∀ q, q ≠ 6 → mA w' q = mA w q) ∧ ∀ i, i < 32 → mA w' 6 i = 0 := by
  intro d
  induction d with
  | zero =>
    intro k fuel w hk hf h
    obtain ⟨f, rfl⟩ : ∃ f, fuel = f + 1 := ⟨fuel - 1, by omega⟩
    refine ⟨w, ?_, rfl, fun _ _ => rfl, fun i hi => h i (by omega)⟩
    show g_MMo_digits_215 K _ (nI k) w = _
    simp only [g_MMo_digits_215]
    rw [if_pos (show (32 : Int32) ≤ nI k from nI_le (a := 32) (by omega) (by omega))]
  | succ d ih =>
    intro k fuel w hk hf h
    obtain ⟨f, rfl⟩ : ∃ f, fuel = f + 1 := ⟨fuel - 1, by omega⟩
    have hk2 : k < 32 := by omega
    obtain ⟨w', e1, e2, e3, e4⟩ := ih (k + 1) f (msA w 6 k 0) (by omega) (by omega) (fun i hi => by
      rw [mA_A, if_pos rfl, updE]
      split
      · rfl
      · exact h i (by omega))
    refine ⟨w', ?_, e2, fun q hq => by rw [e3 q hq, mA_A, if_neg hq], e4⟩
    rw [← e1]
    show g_MMo_digits_215 K _ (nI k) w = _
    simp only [g_MMo_digits_215, if_neg (show ¬ (32 : Int32) ≤ nI k from nI_ge (b := 32) hk2 (by decide)), nmE, ckIN (n := 32) (A := k) rfl hk2 (by decide), nI_clamp (show k < 2 ^ 31 by omega), nI_1]
theorem m_mulL {D E : Nat} (hE : E < 10 ^ 16) (K : MS → Option MS) : ∀ (d k fuel : Nat) (w : MS), k + d = 16 → d < fuel → Dig w 4 D → Dig w 5 E → Dig w 6 (D * (E % 10 ^ k)) → ∃ w', lpN fuel (g_MMo_digits_239 K) (fun _ _ => none) (nI k) w = K w' ∧ mF w' = mF w ∧ (∀ q, q ≠ 6 → mA w' q = mA w q) ∧ Dig w' 6 (D * E) := by
  intro d
  induction d with
  | zero =>
    intro k fuel w hk hf h4 h5 h6
    obtain ⟨f, rfl⟩ : ∃ f, fuel = f + 1 := ⟨fuel - 1, by omega⟩
    obtain rfl : k = 16 := by omega
    rw [Nat.mod_eq_of_lt hE] at h6
    refine ⟨w, ?_, rfl, fun _ _ => rfl, h6⟩
    show g_MMo_digits_239 K _ (nI 16) w = _
    simp only [g_MMo_digits_239]
    rw [if_pos (by decide)]
  | succ d ih =>
    intro k fuel w hk hf h4 h5 h6
    obtain ⟨f, rfl⟩ : ∃ f, fuel = f + 1 := ⟨fuel - 1, by omega⟩
    have hk2 : k < 16 := by omega
    have hk3 : k < 32 := by omega
    have hd := dgt_lt E k
    obtain ⟨w1, a1, a2, a3, a4⟩ := m_adds (v := w) (p0 := 6) (p1 := 6) (p2 := 4) (left := k) (D := D * (E % 10 ^ k)) (E := D) (R := D * (E % 10 ^ (k + 1))) (t := ((dgt E k : Nat) : Int)) (x3 := nI (dgt E k)) (by decide) (by omega) (by omega) (nI_toInt (by omega)) hk3 (by
      rw [md_s, Nat.mul_add, Int.natCast_add, ← Int.natCast_mul, Nat.mul_comm (dgt E k) (D * 10 ^ k), Nat.mul_assoc D]) h6 h4
    obtain ⟨w', e1, e2, e3, e4⟩ := ih (k + 1) f w1 (by omega) (by omega) (fun i hi => by rw [a3 4 (by decide)]; exact h4 i hi) (fun i hi => by rw [a3 5 (by decide)]; exact h5 i hi) a4
    refine ⟨w', ?_, e2.trans a2, fun q hq => (e3 q hq).trans (a3 q hq), e4⟩
    rw [← e1]
    show g_MMo_digits_239 K _ (nI k) w = _
    simp only [g_MMo_digits_239, if_neg (show ¬ (16 : Int32) ≤ nI k from nI_ge (b := 16) hk2 (by decide)), nmE, ckIN (n := 32) (A := k) rfl hk3 (by decide), nI_clamp (show k < 2 ^ 31 by omega), h5 k hk3, a1, bd1S, nI_1]
theorem m_q2L (K : MS → Option (Bool × MS)) : ∀ (d k fuel : Nat) (w : MS), k + d = 32 → d < fuel → (∀ i, i < k → mA w 7 i = mA w 4 i ∧ mA w 6 i = 0) → ∃ w', lpN fuel (g_MMo_quotient_2 K) (fun _ _ => none) (nI k) w = K w' ∧ mF w' = mF w ∧ (∀ q, q ≠ 6 → q ≠ 7 → mA w' q = mA w q) ∧ ∀ i, i < 32 → mA w' 7 i = mA w 4 i ∧ mA w' 6 i = 0 := by
  intro d
  induction d with
  | zero =>
    intro k fuel w hk hf h
    obtain ⟨f, rfl⟩ : ∃ f, fuel = f + 1 := ⟨fuel - 1, by omega⟩
    refine ⟨w, ?_, rfl, fun _ _ _ => rfl, fun i hi => h i (by omega)⟩
    show g_MMo_quotient_2 K _ (nI k) w = _
    simp only [g_MMo_quotient_2]
    rw [if_pos (show (32 : Int32) ≤ nI k from nI_le (a := 32) (by omega) (by omega))]
  | succ d ih =>
    intro k fuel w hk hf h
    obtain ⟨f, rfl⟩ : ∃ f, fuel = f + 1 := ⟨fuel - 1, by omega⟩
    have hk2 : k < 32 := by omega
    obtain ⟨w', e1, e2, e3, e4⟩ := ih (k + 1) f (msA (msA w 7 k (mA w 4 k)) 6 k 0) (by omega) (by omega) (fun i hi => by
      simp only [mA_A, updE, Nat.reduceEqDiff, ↓reduceIte]
      by_cases c : i = k
      · rw [if_pos c, if_pos c, c]; exact ⟨rfl, rfl⟩
      · rw [if_neg c, if_neg c]; exact h i (by omega))
    refine ⟨w', ?_, e2, fun q hq hq2 => by rw [e3 q hq hq2, mA_A, if_neg hq, mA_A, if_neg hq2], fun i hi => by
      have := e4 i hi
      simp only [mA_A, Nat.reduceEqDiff, ↓reduceIte] at this
      exact this⟩
    rw [← e1]
    show g_MMo_quotient_2 K _ (nI k) w = _
    simp only [g_MMo_quotient_2, if_neg (show ¬ (32 : Int32) ≤ nI k from nI_ge (b := 32) hk2 (by decide)), nmE, ckIN (n := 32) (A := k) rfl hk2 (by decide), nI_clamp (show k < 2 ^ 31 by omega), nI_1]
theorem m_takenL {E left : Nat} (hl : left < 32) (K : MS → Option (Bool × MS)) : ∀ (d k fuel : Nat) (w : MS), k + d = 32 → d < fuel → Dig w 5 E → (∀ i, i < k → mA w 8 i = nI (dgt (E * 10 ^ left) i)) → ∃ w', lpN fuel (g_MMo_quotient_53 K (nI left)) (fun _ _ => none) (nI k) w = K w' ∧ mF w' = mF w ∧ (∀ q, q ≠ 8 → mA w' q = mA w q) ∧ Dig w' 8 (E * 10 ^ left) := by
  intro d
  induction d with
  | zero =>
    intro k fuel w hk hf h5 h
    obtain ⟨f, rfl⟩ : ∃ f, fuel = f + 1 := ⟨fuel - 1, by omega⟩
    refine ⟨w, ?_, rfl, fun _ _ => rfl, fun i hi => h i (by omega)⟩
    show g_MMo_quotient_53 K _ _ (nI k) w = _
    simp only [g_MMo_quotient_53]
    rw [if_pos (show (32 : Int32) ≤ nI k from nI_le (a := 32) (by omega) (by omega))]
  | succ d ih =>
    intro k fuel w hk hf h5 h
    obtain ⟨f, rfl⟩ : ∃ f, fuel = f + 1 := ⟨fuel - 1, by omega⟩
    have hk2 : k < 32 := by omega
    obtain ⟨w', e1, e2, e3, e4⟩ := ih (k + 1) f (msA w 8 k (nI (dgt (E * 10 ^ left) k))) (by omega) (by omega) (fun i hi => by rw [mA_A, if_neg (by decide)]; exact h5 i hi) (fun i hi => by
      rw [mA_A, if_pos rfl, updE]
      split
      · rename_i c; rw [c]
      · exact h i (by omega))
    have e7 : ∀ J : Int32 → Option (Bool × MS), (if nI k < nI left then J 0 else ckI (nI k - nI left) 32 (J (mA w 5 (Int32.toNatClampNeg (nI k - nI left))))) = J (nI (dgt (E * 10 ^ left) k)) := by
      intro J
      rw [dgt_sh]
      by_cases c1 : k < left
      · rw [if_pos (nI_lt c1 (by omega)), if_pos c1]; rfl
      · rw [if_neg (nI_nlt (by omega) (by omega)), if_neg c1, sI_le (by omega), ckIN (n := 32) (A := k - left) rfl (by omega) (by decide), nI_clamp (by omega), h5 (k - left) (by omega)]
    refine ⟨w', ?_, e2, fun q hq => by rw [e3 q hq, mA_A, if_neg hq], e4⟩
    rw [← e1]
    show g_MMo_quotient_53 K _ _ (nI k) w = _
    simp only [g_MMo_quotient_53, if_neg (show ¬ (32 : Int32) ≤ nI k from nI_ge (b := 32) hk2 (by decide)), nmE, jnE, e7, ckIN (n := 256) (A := k) rfl (show k < 256 by omega) (by decide), nI_clamp (show k < 2 ^ 31 by omega), nI_1]
theorem m_qiL {E left : Nat} (h0 : 0 < E) (hE : E < 10 ^ 16) (hl : left < 16) (K : MS → Option (Bool × MS)) : ∀ (m fuel : Nat) (w : MS) (r q : Nat), r / (E * 10 ^ left) = m → m + 1 < fuel → r < 10 ^ 32 → Dig w 7 r → Dig w 5 E → mA w 6 left = nI q → ∃ w', lpN fuel (g_MMo_quotient_45 K (nI left)) (fun _ _ => none) true w = K w' ∧ mF w' = mF w ∧ (∀ p, p ≠ 6 → p ≠ 7 → p ≠ 8 → mA w' p = mA w p) ∧ Dig w' 7 (r % (E * 10 ^ left)) ∧ ∀ k, mA w' 6 k = if k = left then nI (q + m) else mA w 6 k := by
  have hT : E * 10 ^ left < 10 ^ 32 := by
    have h1 : E * 10 ^ left < 10 ^ 16 * 10 ^ left := Nat.mul_lt_mul_of_pos_right hE (p10 left)
    have h2 : 10 ^ 16 * 10 ^ left ≤ 10 ^ 32 := by rw [← Nat.pow_add]; exact p10_le (by omega)
    omega
  have hT0 : 0 < E * 10 ^ left := Nat.mul_pos h0 (p10 left)
  intro m
  induction m with
  | zero =>
    intro fuel w r q hm hf hr h7 h5 h6
    obtain ⟨f, rfl⟩ : ∃ f, fuel = f + 2 := ⟨fuel - 2, by omega⟩
    have hlt : r < E * 10 ^ left := by
      rcases Nat.div_eq_zero_iff.mp hm with h | h
      · omega
      · exact h
    obtain ⟨w1, a1, a2, a3, a4⟩ := m_takenL (E := E) (left := left) (by omega) (fun (u_22 : MS) => bd1 (f_MMo_notBelow u_22) (fun (z_24 : Bool) => if z_24 = false then lpN (f + 1) (g_MMo_quotient_45 K (nI left)) (fun _ _ => none) z_24 u_22 else bd1 (f_MMo_adds 7 7 5 u_22 (-1 : Int32) (nI left)) (fun (u_26 : MS) => ckI (nI left) 32 (ckI (nI left) 32 (lpN (f + 1) (g_MMo_quotient_45 K (nI left)) (fun _ _ => none) z_24 (msA u_26 6 (Int32.toNatClampNeg (nI left)) ((mA u_26 6 (Int32.toNatClampNeg (nI left))) + (1 : Int32)))))))) 32 0 fuelM w (by omega) (by unfold fuelM; omega) h5 (fun i hi => by omega)
    have nb := m_notBelow (v := w1) (D := r) (E := E * 10 ^ left) (fun i hi => by rw [a3 7 (by decide)]; exact h7 i hi) a4 hr hT
    rw [decide_eq_false (by omega)] at nb
    refine ⟨w1, ?_, a2, fun p _ _ h8 => a3 p h8, ?_, fun k => ?_⟩
    · show g_MMo_quotient_45 K (nI left) _ true w = _
      simp only [g_MMo_quotient_45, bI0, reduceCtorEq, ↓reduceIte, jnE, nmE]
      refine Eq.trans a1 ?_
      simp only [nb, bd1S, ↓reduceIte]
      show g_MMo_quotient_45 K (nI left) _ false w1 = _
      simp only [g_MMo_quotient_45, bI0, ↓reduceIte]
    · rw [Nat.mod_eq_of_lt hlt]
      intro i hi
      rw [a3 7 (by decide)]
      exact h7 i hi
    · rw [a3 6 (by decide)]
      split
      · rename_i c; rw [c, h6]; rfl
      · rfl
  | succ m ih =>
    intro fuel w r q hm hf hr h7 h5 h6
    obtain ⟨f, rfl⟩ : ∃ f, fuel = f + 1 := ⟨fuel - 1, by omega⟩
    have hle : E * 10 ^ left ≤ r := by
      apply Nat.le_of_not_lt
      intro h
      rw [Nat.div_eq_of_lt h] at hm
      omega
    obtain ⟨w1, a1, a2, a3, a4⟩ := m_takenL (E := E) (left := left) (by omega) (fun (u_22 : MS) => bd1 (f_MMo_notBelow u_22) (fun (z_24 : Bool) => if z_24 = false then lpN f (g_MMo_quotient_45 K (nI left)) (fun _ _ => none) z_24 u_22 else bd1 (f_MMo_adds 7 7 5 u_22 (-1 : Int32) (nI left)) (fun (u_26 : MS) => ckI (nI left) 32 (ckI (nI left) 32 (lpN f (g_MMo_quotient_45 K (nI left)) (fun _ _ => none) z_24 (msA u_26 6 (Int32.toNatClampNeg (nI left)) ((mA u_26 6 (Int32.toNatClampNeg (nI left))) + (1 : Int32)))))))) 32 0 fuelM w (by omega) (by unfold fuelM; omega) h5 (fun i hi => by omega)
    have nb := m_notBelow (v := w1) (D := r) (E := E * 10 ^ left) (fun i hi => by rw [a3 7 (by decide)]; exact h7 i hi) a4 hr hT
    rw [decide_eq_true hle] at nb
    obtain ⟨w2, b1, b2, b3, b4⟩ := m_adds (v := w1) (p0 := 7) (p1 := 7) (p2 := 5) (left := left) (D := r) (E := E) (R := r - E * 10 ^ left) (t := -1) (x3 := -1) (by decide) (by decide) (by decide) rfl (by omega) (by omega) (fun i hi => by rw [a3 7 (by decide)]; exact h7 i hi) (fun i hi => by rw [a3 5 (by decide)]; exact h5 i hi)
    have hm2 : (r - E * 10 ^ left) / (E * 10 ^ left) = m := by
      have := Nat.sub_mul_div r (E * 10 ^ left) 1
      rw [Nat.mul_one, hm] at this
      exact this
    have e6 : mA w2 6 left = nI q := by rw [b3 6 (by decide), a3 6 (by decide), h6]
    obtain ⟨w', e1, e2, e3, e4, e5⟩ := ih f (msA w2 6 left (nI (q + 1))) (r - E * 10 ^ left) (q + 1) hm2 (by omega) (by omega) (fun i hi => by rw [mA_A, if_neg (by decide)]; exact b4 i hi) (fun i hi => by rw [mA_A, if_neg (by decide), b3 5 (by decide), a3 5 (by decide)]; exact h5 i hi) (msA_at _ _ _ _)
    refine ⟨w', ?_, ?_, fun p h6 h7 h8 => ?_, ?_, fun k => ?_⟩
    · rw [← e1]
      show g_MMo_quotient_45 K (nI left) _ true w = _
      simp only [g_MMo_quotient_45, bI0, reduceCtorEq, ↓reduceIte, jnE, nmE]
      refine Eq.trans a1 ?_
      simp only [nb, bd1S, bI0, reduceCtorEq, ↓reduceIte, b1, nmE, ckIN (n := 32) (A := left) rfl (show left < 32 by omega) (by decide), nI_clamp (show left < 2 ^ 31 by omega), e6, nI_1]
    · rw [e2, mF_A, b2, a2]
    · rw [e3 p h6 h7 h8, mA_A, if_neg h6, b3 p h7, a3 p h8]
    · rw [Nat.mod_eq_sub_mod hle]
      exact e4
    · rw [e5 k, mA_A, if_pos rfl, updE]
      by_cases c : k = left
      · rw [if_pos c, if_pos c]
        congr 1
        omega
      · rw [if_neg c, if_neg c, if_neg c, b3 6 (by decide), a3 6 (by decide)]
theorem m_qoL {D E most : Nat} (h0 : 0 < E) (hE : E < 10 ^ 16) (hD : D < 10 ^ 16) (hmost : most < 32) : ∀ (i fuel : Nat) (z : Bool) (w : MS), i ≤ 16 → i < fuel → Dig w 7 (D % (E * 10 ^ i)) → Dig w 5 E → (∀ k, k < 32 → mA w 6 k = nI (if i ≤ k then dgt (D / E) k else 0)) → z = decide (D / E / 10 ^ (max i most) = 0) → ∃ z' w', lpN fuel (g_MMo_quotient_38 (nI most)) (fun _ _ _ => none) z (nI i - 1) w = some (z', w') ∧ mF w' = mF w ∧ (∀ p, p ≠ 6 → p ≠ 7 → p ≠ 8 → mA w' p = mA w p) ∧ Dig w' 7 (D % E) ∧ Dig w' 6 (D / E) ∧ z' = decide (D / E < 10 ^ most) := by
  intro i
  induction i with
  | zero =>
    intro fuel z w hi hf h7 h5 h6 hz
    obtain ⟨f, rfl⟩ : ∃ f, fuel = f + 1 := ⟨fuel - 1, by omega⟩
    rw [Nat.pow_zero, Nat.mul_one] at h7
    refine ⟨z, w, ?_, rfl, fun _ _ _ _ => rfl, h7, fun k hk => by rw [h6 k hk, if_pos (by omega)], by rw [hz, room_lt, Nat.zero_max]⟩
    show g_MMo_quotient_38 (nI most) _ z (nI 0 - 1) w = _
    simp only [g_MMo_quotient_38]
    rw [if_pos (by decide)]
  | succ i ih =>
    intro fuel z w hi hf h7 h5 h6 hz
    obtain ⟨f, rfl⟩ : ∃ f, fuel = f + 1 := ⟨fuel - 1, by omega⟩
    have hi2 : i < 32 := by omega
    have hr1 : D % (E * 10 ^ (i + 1)) / (E * 10 ^ i) = dgt (D / E) i := by
      unfold dgt
      rw [Nat.pow_succ, ← Nat.mul_assoc, Nat.mod_mul_right_div_self, Nat.div_div_eq_div_mul]
    have hr2 : D % (E * 10 ^ (i + 1)) % (E * 10 ^ i) = D % (E * 10 ^ i) := by
      rw [Nat.pow_succ, ← Nat.mul_assoc, Nat.mod_mul_right_mod]
    have hlt : D % (E * 10 ^ (i + 1)) < 10 ^ 32 := Nat.lt_of_le_of_lt (Nat.mod_le _ _) (by omega)
    have hq := dgt_lt (D / E) i
    have e2 : nI i + -1 = nI i - 1 := by rw [Int32.sub_eq_add_neg]
    obtain ⟨w1, a1, a2, a3, a4, a5⟩ := m_qiL (E := E) (left := i) h0 hE (by omega) (fun (u_8 : MS) => ckI (nI i) 32 (if (mA u_8 6 (Int32.toNatClampNeg (nI i))) = (0 : Int32) then lpN f (g_MMo_quotient_38 (nI most)) (fun _ _ _ => none) (z && true) (nI i + -1) u_8 else if nI most ≤ nI i then lpN f (g_MMo_quotient_38 (nI most)) (fun _ _ _ => none) (z && false) (nI i + -1) u_8 else lpN f (g_MMo_quotient_38 (nI most)) (fun _ _ _ => none) (z && true) (nI i + -1) u_8)) (dgt (D / E) i) fuelM w (D % (E * 10 ^ (i + 1))) 0 hr1 (by unfold fuelM; omega) hlt h7 h5 (by rw [h6 i hi2, if_neg (by omega)])
    rw [hr2] at a4
    rw [Nat.zero_add] at a5
    have g6 : ∀ k, k < 32 → mA w1 6 k = nI (if i ≤ k then dgt (D / E) k else 0) := fun k hk => by
      rw [a5 k]
      by_cases c : k = i
      · rw [if_pos c, if_pos (by omega), c]
      · rw [if_neg c, h6 k hk]
        by_cases c2 : i ≤ k
        · rw [if_pos c2, if_pos (by omega)]
        · rw [if_neg c2, if_neg (by omega)]
    have m6 : mA w1 6 i = nI (dgt (D / E) i) := by rw [g6 i hi2, if_pos (Nat.le_refl _)]
    have q1 : (nI (dgt (D / E) i) = (0 : Int32)) = (dgt (D / E) i = 0) := eq_nI (c := 0) (by omega) (by decide)
    have q2 : (nI most ≤ nI i) = (most ≤ i) := le_nI (by omega) (by omega)
    obtain ⟨z1, hz1, ez⟩ : ∃ z1 : Bool, z1 = decide (D / E / 10 ^ (max i most) = 0) ∧ ∀ J : Bool → Option (Bool × MS), (if dgt (D / E) i = 0 then J (z && true) else if most ≤ i then J (z && false) else J (z && true)) = J z1 := by
      by_cases c2 : most ≤ i
      · rw [Nat.max_eq_left (by omega)] at hz
        refine ⟨_, rfl, fun J => ?_⟩
        rw [Nat.max_eq_left c2, room_s, ← hz, if_pos c2]
        by_cases c : dgt (D / E) i = 0
        · rw [if_pos c, decide_eq_true c]; simp
        · rw [if_neg c, decide_eq_false c]; simp
      · rw [Nat.max_eq_right (by omega)] at hz
        refine ⟨_, rfl, fun J => ?_⟩
        rw [Nat.max_eq_right (by omega), ← hz, if_neg c2]
        simp
    obtain ⟨z', w', e1, e3, e4, e5, e6, e7⟩ := ih f z1 w1 (by omega) (by omega) a4 (fun k hk => by rw [a3 5 (by decide) (by decide) (by decide)]; exact h5 k hk) g6 hz1
    refine ⟨z', w', ?_, e3.trans a2, fun p h6 h7 h8 => (e4 p h6 h7 h8).trans (a3 p h6 h7 h8), e5, e6, e7⟩
    rw [← e1]
    show g_MMo_quotient_38 (nI most) _ z (nI (i + 1) - 1) w = _
    simp only [g_MMo_quotient_38, nI_pred, if_neg (nI_pos (show i < 2 ^ 31 by omega)), jnE, nmE]
    refine Eq.trans a1 ?_
    simp only [ckIN (n := 32) (A := i) rfl hi2 (by decide), nI_clamp (show i < 2 ^ 31 by omega), m6, q1, q2, e2]
    exact ez (fun z => lpN f (g_MMo_quotient_38 (nI most)) (fun _ _ _ => none) z (nI i - 1) w1)
theorem m_quotient {v : MS} {D E most : Nat} (h0 : 0 < E) (hE : E < 10 ^ 16) (hD : D < 10 ^ 16) (hmost : most < 32) (h4 : Dig v 4 D) (h5 : Dig v 5 E) : ∃ w', f_MMo_quotient v (nI most) = some (decide (D / E < 10 ^ most), w') ∧ mF w' = mF v ∧ (∀ p, p ≠ 6 → p ≠ 7 → p ≠ 8 → mA w' p = mA v p) ∧ Dig w' 7 (D % E) ∧ Dig w' 6 (D / E) := by
  obtain ⟨w1, a1, a2, a3, a4⟩ := m_q2L (fun (u_1 : MS) => lpN fuelM (g_MMo_quotient_38 (nI most)) (fun _ _ _ => none) true (15 : Int32) u_1) 32 0 fuelM v (by omega) (by unfold fuelM; omega) (fun i hi => by omega)
  have hQ : D / E < 10 ^ 16 := Nat.lt_of_le_of_lt (Nat.div_le_self _ _) hD
  have hDE : D < E * 10 ^ 16 := Nat.lt_of_lt_of_le hD (Nat.le_mul_of_pos_left _ h0)
  obtain ⟨z', w', e1, e2, e3, e4, e5, e6⟩ := m_qoL (D := D) h0 hE hD hmost 16 fuelM true w1 (by omega) (by unfold fuelM; omega) (fun k hk => by rw [Nat.mod_eq_of_lt hDE, (a4 k hk).1]; exact h4 k hk) (fun k hk => by rw [a3 5 (by decide) (by decide)]; exact h5 k hk) (fun k hk => by
      rw [(a4 k hk).2]
      split
      · rename_i c
        unfold dgt
        rw [Nat.div_eq_of_lt (Nat.lt_of_lt_of_le hQ (p10_le c))]
        rfl
      · rfl) (by rw [decide_eq_true]; exact Nat.div_eq_of_lt (Nat.lt_of_lt_of_le hQ (p10_le (Nat.le_max_left _ _))))
  refine ⟨w', ?_, e2.trans a2, fun p h6 h7 h8 => (e3 p h6 h7 h8).trans (a3 p h6 h7), e4, e5⟩
  simp only [f_MMo_quotient, jnE]
  refine Eq.trans a1 ?_
  rw [show (15 : Int32) = nI 16 - 1 from rfl, e1, e6]
/-! a sum stored -/
theorem ng_lN {N : Nat} (hN : N < 9223372036854775808) : (-lN N).toInt = -(N : Int) := by
  rw [Int64.toInt_neg, pk_lT (by omega), Int.bmod_eq_of_le (by omega) (by omega)]
theorem sg_0 {N : Nat} (hN : N < 9223372036854775808) (s : Bool) : ((if s = false then lN N else -lN N) = 0) = (N = 0) := by
  have h0 : (0 : Int64).toInt = 0 := rfl
  apply propext
  rw [← Int64.toInt_inj, h0]
  split
  · rw [pk_lT (by omega)]; omega
  · rw [ng_lN hN]; omega
theorem sg_ge {N : Nat} (hN : N < 9223372036854775808) (s : Bool) : ((0 : Int64) ≤ if s = false then lN N else -lN N) = (s = false ∨ N = 0) := by
  have h0 : (0 : Int64).toInt = 0 := rfl
  apply propext
  rw [Int64.le_iff_toInt_le, h0]
  cases s with
  | false => rw [if_pos rfl, pk_lT (by omega)]; simp
  | true => rw [if_neg (by decide), ng_lN hN]; simp
theorem sg_abs {N : Nat} (hN : N < 9223372036854775808) (s : Bool) : (if 0 < (if s = false then lN N else -lN N) then (if s = false then lN N else -lN N) else -(if s = false then lN N else -lN N)) = lN N := by
  have h0 : (0 : Int64).toInt = 0 := rfl
  cases s with
  | false =>
    rw [if_pos rfl]
    by_cases c : 0 < lN N
    · rw [if_pos c]
    · rw [if_neg c]
      rw [Int64.lt_iff_toInt_lt, h0, pk_lT (by omega)] at c
      obtain rfl : N = 0 := by omega
      rfl
  | true =>
    rw [if_neg (show ¬ true = false by decide)]
    by_cases c : 0 < -lN N
    · rw [Int64.lt_iff_toInt_lt, h0, ng_lN hN] at c
      omega
    · rw [if_neg c, Int64.neg_neg]
theorem mask2 {x : Int32} (h0 : 0 ≤ x.toInt) (h3 : x.toInt ≤ 3) : (x &&& 2 ≤ 0) = (x &&& 2 = 0) := by
  obtain ⟨n, hn, rfl⟩ := ex_nI (x := x) (N := 4) h0 (by omega)
  have : n = 0 ∨ n = 1 ∨ n = 2 ∨ n = 3 := by omega
  rcases this with rfl | rfl | rfl | rfl <;> decide
theorem put_sum {u : XS} {v : MS} (hC : Core u v) (h13 : mF v 13 = 0) {a1 n N : Nat} (hm : mF v 11 = nI a1) (hA : a1 + n ≤ 1024) (h1 : 1 ≤ n) (hn : n ≤ 8) (hN : N < 1000000000000000000) (hD : Dig v 6 N) (s : Bool) {y : Int64} (hy : y = if s = false then lN N else -lN N) : Sim (f_XDe_putSum u (nI a1) (nI n) y) (f_MMo_decimal v (nI n) s) u v := by
  have hN63 : N < 9223372036854775808 := by omega
  have hN32 : N < 10 ^ 32 := by omega
  have hP : 0 < 10 ^ (2 * n - 1) := p10 _
  have e0 : (2 : Int32) * nI n - 1 = nI (2 * n - 1) := by rw [show (2 : Int32) = nI 2 from rfl, pk_mul, show (1 : Int32) = nI 1 from rfl, sI_le (by omega)]
  have hr := fun K z => m_roomL hD hN32 K (32 - (2 * n - 1)) (2 * n - 1) fuelM z (by omega) (by unfold fuelM; omega)
  have hz := m_isZero hD hN32
  have hmp := fun z => m_pd v (A := a1) (n := n) (N := N) (p := 6) z (by decide) (by omega) hA (fun k hk => hD k (by omega))
  have hxp := fun z => x_pd u (A := a1) (n := n) (N := N) z h1 hA hN63
  have hxr := fun w : XS => x_room w (n := n) (N := N) h1 hn hN63
  have hmk := mask2 (x := mF v 3) (by rw [← hC.2.2.1.2.1]; exact hC.2.2.2.2.2.1.1) (by rw [← hC.2.2.1.2.1]; exact hC.2.2.2.2.2.1.2)
  have hmx : xF u 2 = mF v 3 := hC.2.2.1.2.1
  have hcm : ∀ l, l < 16 → Core (xsMM u (pdM (xM u) a1 n N l)) (msMM v (pdM (mA v 1) a1 n N l)) := fun l hl => by
    rw [← hC.1]
    exact hC.mem (oct_pd hC.2.2.2.1 _ _ _ hl)
  have c3 : 0 ≤ (3 : Int32).toInt ∧ (3 : Int32).toInt ≤ 3 := by decide
  have c2 : 0 ≤ (2 : Int32).toInt ∧ (2 : Int32).toInt ≤ 3 := by decide
  have c1 : 0 ≤ (1 : Int32).toInt ∧ (1 : Int32).toInt ≤ 3 := by decide
  have c0 : 0 ≤ (0 : Int32).toInt ∧ (0 : Int32).toInt ≤ 3 := by decide
  simp only [f_XDe_putSum, f_MMo_decimal, nmE, jnE, hy, sg_abs hN63, sg_ge hN63, hxp, cond_sign, sg_0 hN63, hxr, bI0, hz, bd1S, e0, hr, hm, hmp, Bool.true_and, room_lt, prI, f_XSt_decimalOverflow, xsF_2]
  by_cases cr : N < 10 ^ (2 * n - 1)
  · by_cases cz : N = 0
    · subst cz
      cases s <;> simp +decide only [cr, decide_true, decide_false, ↓reduceIte, reduceCtorEq, or_true, true_or]
      · exact Sim.mk ok0 h13 ((hcm 12 (by decide)).cc 0 c0) rfl rfl rfl
      · exact Sim.mk ok0 h13 ((hcm 12 (by decide)).cc 0 c0) rfl rfl rfl
    · cases s <;> simp +decide only [cr, cz, decide_true, decide_false, ↓reduceIte, reduceCtorEq, or_true, true_or, or_false, false_or]
      · exact Sim.mk ok0 h13 ((hcm 12 (by decide)).cc 2 c2) rfl rfl rfl
      · exact Sim.mk ok0 h13 ((hcm 13 (by decide)).cc 1 c1) rfl rfl rfl
  · have cz : ¬ N = 0 := by omega
    have f3 : ∀ g x, mF (msF (msMM v g) 1 x) 3 = mF v 3 := fun _ _ => rfl
    have x2 : ∀ g x, xF (xsF (xsMM u g) 1 x) 2 = mF v 3 := fun _ _ => hmx
    cases s <;> simp +decide only [cr, cz, decide_true, decide_false, ↓reduceIte, reduceCtorEq, or_true, true_or, or_false, false_or, f3, x2, hmk]
    · by_cases cm : mF v 3 &&& 2 = 0
      · rw [if_pos cm, if_pos cm]
        exact Sim.mk ok0 h13 ((hcm 12 (by decide)).cc 3 c3) rfl rfl rfl
      · rw [if_neg cm, if_neg cm]
        exact Sim.mk (Or.inr (Or.inr rfl)) rfl (((hcm 12 (by decide)).cc 3 c3).fl 10) rfl rfl rfl
    · by_cases cm : mF v 3 &&& 2 = 0
      · rw [if_pos cm, if_pos cm]
        exact Sim.mk ok0 h13 ((hcm 13 (by decide)).cc 3 c3) rfl rfl rfl
      · rw [if_neg cm, if_neg cm]
        exact Sim.mk (Or.inr (Or.inr rfl)) rfl (((hcm 13 (by decide)).cc 3 c3).fl 10) rfl rfl rfl
