/-! octets as numbers; words and halves -/
def tk (b : Nat → Nat) (A : Nat) : Nat → Nat
  | 0 => 0
  | n + 1 => tk b A n * 256 + b (A + n)
theorem Core.nb {u : XS} {v : MS} (h : Core u v) : ∃ b : Nat → Nat, (∀ j, b j < 256) ∧ (∀ j, xM u j = nI (b j)) ∧ ∀ j, mA v 1 j = nI (b j) := by
  refine ⟨fun j => (xM u j).toInt.toNat, fun j => ?_, fun j => ?_, fun j => ?_⟩
  · have := h.2.2.2.1 j
    show (xM u j).toInt.toNat < 256
    omega
  · have := h.2.2.2.1 j
    exact ti_nI (by show (xM u j).toInt = (((xM u j).toInt.toNat : Nat) : Int); omega)
  · have := h.2.2.2.1 j
    rw [← h.1]
    exact ti_nI (by show (xM u j).toInt = (((xM u j).toInt.toNat : Nat) : Int); omega)
theorem tk_lt {b : Nat → Nat} (hb : ∀ j, b j < 256) (A : Nat) : ∀ n, tk b A n < 256 ^ n := by
  intro n
  induction n with
  | zero => simp [tk]
  | succ n ih =>
    have := hb (A + n)
    rw [tk, Nat.pow_succ]
    omega
theorem tk_lt8 {b : Nat → Nat} (hb : ∀ j, b j < 256) (A : Nat) {n : Nat} (hn : n < 8) : tk b A n < 72057594037927936 := by
  have h := tk_lt hb A n
  have h2 : 256 ^ n ≤ 256 ^ 7 := Nat.pow_le_pow_right (by decide) (by omega)
  have h3 : 256 ^ 7 = 72057594037927936 := by decide
  omega
theorem m_takeL (v : MS) {b : Nat → Nat} (hb : ∀ j, b j < 256) (hm : ∀ j, mA v 1 j = nI (b j)) (A N : Nat) (hA : A + N ≤ 1024) (hN : N ≤ 8) : ∀ (d fuel i : Nat), i + d = N → d < fuel → lpN fuel (g_MMo_take_5 (nI N) (nI A) v) (fun _ _ => none) (lN (tk b A i)) (nI i) = some (lN (tk b A N)) := by
  intro d
  induction d with
  | zero =>
    intro fuel i hi hf
    obtain ⟨f, rfl⟩ : ∃ f, fuel = f + 1 := ⟨fuel - 1, by omega⟩
    show g_MMo_take_5 (nI N) (nI A) v _ _ (nI i) = _
    simp only [g_MMo_take_5]
    rw [if_pos (nI_le (by omega) (by omega)), show i = N by omega]
  | succ d ih =>
    intro fuel i hi hf
    obtain ⟨f, rfl⟩ : ∃ f, fuel = f + 1 := ⟨fuel - 1, by omega⟩
    show g_MMo_take_5 (nI N) (nI A) v _ _ (nI i) = _
    have h8 := tk_lt8 hb A (show i < 8 by omega)
    have hbi := hb (A + i)
    simp only [g_MMo_take_5, nmE]
    rw [if_neg (nI_ge (by omega) (by omega)), ckIN (nI_add A i) (by omega) (by decide), clN (nI_add A i) (by omega), nI_1, hm, show (8 : Int32) = nI 8 from rfl, wb_shl _ (by omega), nI_l (by omega), g_or (k := 8) (by decide) (by omega) (by omega)]
    exact ih f (i + 1) (by omega) (by omega)
theorem m_take (v : MS) {b : Nat → Nat} (hb : ∀ j, b j < 256) (hm : ∀ j, mA v 1 j = nI (b j)) {a n : Int32} {A N : Nat} (ha : a = nI A) (hn : n = nI N) (hA : A + N ≤ 1024) (hN : N ≤ 8) : f_MMo_take v a n = some (lN (tk b A N)) := by
  subst ha; subst hn
  simp only [f_MMo_take]
  exact m_takeL v hb hm A N hA hN N fuelM 0 (by omega) (by unfold fuelM; omega)
theorem x_word (u : XS) {b : Nat → Nat} (hb : ∀ j, b j < 256) (hm : ∀ j, xM u j = nI (b j)) {a : Int32} {A : Nat} (ha : a = nI A) (hA : A + 4 ≤ 1024) : f_XMe_word u a = nI (tk b A 4) := by
  subst ha
  have h0 := hb A
  have h1 := hb (A + 1)
  have h2 := hb (A + 2)
  have h3 := hb (A + 3)
  simp only [f_XMe_word, nmE]
  rw [getN u rfl (by omega), getN u (nI_1 A) (by omega), getN u (show nI A + 2 = nI (A + 2) from nI_add A 2) (by omega), getN u (show nI A + 3 = nI (A + 3) from nI_add A 3) (by omega), hm, hm, hm, hm, pk_shlN _ 24 rfl (by omega), pk_shlN _ 16 rfl (by omega), pk_shlN _ 8 rfl (by omega), nx_orp (k := 24) (by decide) (by omega), show b A * 2 ^ 24 + b (A + 1) * 2 ^ 16 = (b A * 256 + b (A + 1)) * 2 ^ 16 by omega, nx_orp (k := 16) (by decide) (by omega), show (b A * 256 + b (A + 1)) * 2 ^ 16 + b (A + 2) * 2 ^ 8 = ((b A * 256 + b (A + 1)) * 256 + b (A + 2)) * 2 ^ 8 by omega, nx_orp (k := 8) (by decide) (by omega)]
  rw [show ((b A * 256 + b (A + 1)) * 256 + b (A + 2)) * 2 ^ 8 + b (A + 3) = tk b A 4 by simp only [tk, Nat.add_zero]; omega]
theorem x_half (u : XS) {b : Nat → Nat} (hb : ∀ j, b j < 256) (hm : ∀ j, xM u j = nI (b j)) {a : Int32} {A : Nat} (ha : a = nI A) (hA : A + 2 ≤ 1024) : f_XMe_half u a = (nI (tk b A 2)).toInt16.toInt32 := by
  subst ha
  have h0 := hb A
  have h1 := hb (A + 1)
  simp only [f_XMe_half, nmE]
  rw [getN u rfl (by omega), getN u (nI_1 A) (by omega), hm, hm, pk_shlN _ 8 rfl (by omega), nx_orp (k := 8) (by decide) (by omega)]
  rw [show b A * 2 ^ 8 + b (A + 1) = tk b A 2 by simp only [tk, Nat.add_zero]; omega]
theorem tk_1 (b : Nat → Nat) (A : Nat) : tk b A 1 = b A := by simp [tk]
theorem ckN32_ok {β : Type} {y : Int32} {t : Option β} (h : ¬ y = 0) : ckN32 y t = t := by
  unfold ckN32
  rw [if_neg h]
theorem al (u : XS) {a w m : Int32} {A W k : Nat} (ha : a = nI A) (hA : A < 16777216) (hw : w = nI W) (hm : w - 1 = m) (hk : m.toBitVec.toNat = 2 ^ k - 1) (hW : W = 2 ^ k) (hW8 : W ≤ 8) (hW0 : 0 < W) : (¬ a &&& (w - 1) = 0 ∧ ¬ a - a / w * w ≤ 0) ∨ (a &&& (w - 1) = 0 ∧ a - a / w * w ≤ 0 ∧ f_XMe_holds u a w = false) ∨ (a &&& (w - 1) = 0 ∧ a - a / w * w ≤ 0 ∧ f_XMe_holds u a w = true ∧ A + W ≤ 1024) := by
  subst ha; subst hw
  have e1 : nI A &&& (nI W - 1) = nI (A % W) := by rw [hm, pk_andN (by omega) k hk, hW]
  have e2 : nI A - nI A / nI W * nI W = nI (A % W) := pk_rem (by omega) hW0 (by omega)
  rw [e1, e2]
  have hlt : A % W < W := Nat.mod_lt _ hW0
  by_cases c : A % W = 0
  · right
    rw [c]
    cases hh : f_XMe_holds u (nI A) (nI W) with
    | false => exact Or.inl ⟨rfl, by decide, rfl⟩
    | true =>
      obtain ⟨A', e, h'⟩ := (holds_iff u (nI A) (n := nI W) (N := W) rfl (by omega)).mp hh
      have : A = A' := (nI_eq (by omega) (by omega)).mp e
      exact Or.inr ⟨rfl, by decide, rfl, by omega⟩
  · exact Or.inl ⟨nI_ne0 (by omega) (by omega), nI_nle (by omega) (by omega)⟩
theorem al_2 (u : XS) {A : Nat} (hA : A < 16777216) : (¬ nI A &&& ((2 : Int32) - 1) = 0 ∧ ¬ nI A - nI A / (2 : Int32) * (2 : Int32) ≤ 0) ∨ (nI A &&& ((2 : Int32) - 1) = 0 ∧ nI A - nI A / (2 : Int32) * (2 : Int32) ≤ 0 ∧ f_XMe_holds u (nI A) 2 = false) ∨ (nI A &&& ((2 : Int32) - 1) = 0 ∧ nI A - nI A / (2 : Int32) * (2 : Int32) ≤ 0 ∧ f_XMe_holds u (nI A) 2 = true ∧ A + 2 ≤ 1024) := al u (W := 2) (m := 1) (k := 1) rfl hA rfl rfl rfl rfl (by decide) (by decide)
theorem al_4 (u : XS) {A : Nat} (hA : A < 16777216) : (¬ nI A &&& ((4 : Int32) - 1) = 0 ∧ ¬ nI A - nI A / (4 : Int32) * (4 : Int32) ≤ 0) ∨ (nI A &&& ((4 : Int32) - 1) = 0 ∧ nI A - nI A / (4 : Int32) * (4 : Int32) ≤ 0 ∧ f_XMe_holds u (nI A) 4 = false) ∨ (nI A &&& ((4 : Int32) - 1) = 0 ∧ nI A - nI A / (4 : Int32) * (4 : Int32) ≤ 0 ∧ f_XMe_holds u (nI A) 4 = true ∧ A + 4 ≤ 1024) := al u (W := 4) (m := 3) (k := 2) rfl hA rfl rfl rfl rfl (by decide) (by decide)
theorem al_8 (u : XS) {A : Nat} (hA : A < 16777216) : (¬ nI A &&& ((8 : Int32) - 1) = 0 ∧ ¬ nI A - nI A / (8 : Int32) * (8 : Int32) ≤ 0) ∨ (nI A &&& ((8 : Int32) - 1) = 0 ∧ nI A - nI A / (8 : Int32) * (8 : Int32) ≤ 0 ∧ f_XMe_holds u (nI A) 8 = false) ∨ (nI A &&& ((8 : Int32) - 1) = 0 ∧ nI A - nI A / (8 : Int32) * (8 : Int32) ≤ 0 ∧ f_XMe_holds u (nI A) 8 = true ∧ A + 8 ≤ 1024) := al u (W := 8) (m := 7) (k := 3) rfl hA rfl rfl rfl rfl (by decide) (by decide)
theorem al_1 (u : XS) {A : Nat} (hA : A < 16777216) : nI A &&& ((1 : Int32) - 1) = 0 ∧ (f_XMe_holds u (nI A) 1 = false ∨ f_XMe_holds u (nI A) 1 = true ∧ A + 1 ≤ 1024) := by
  constructor
  · rw [show (1 : Int32) - 1 = 0 from rfl, pk_andN (by omega) 0 rfl, Nat.pow_zero, Nat.mod_one]; rfl
  · cases hh : f_XMe_holds u (nI A) 1 with
    | false => exact Or.inl rfl
    | true =>
      obtain ⟨A', e, h'⟩ := (holds_iff u (nI A) (n := 1) (N := 1) rfl (by omega)).mp hh
      have : A = A' := (nI_eq (by omega) (by omega)).mp e
      exact Or.inr ⟨rfl, by omega⟩
theorem wrong_6 (v : MS) (z : Bool) (c : Int32) : f_MMo_wrong (msF v 13 6) z c = some (msF v 13 6) := wrong_n _ _ _ (by show ¬ (6 : Int32) = 0; decide)
theorem wrong_5 (v : MS) (z : Bool) (c : Int32) : f_MMo_wrong (msF v 13 5) z c = some (msF v 13 5) := wrong_n _ _ _ (by show ¬ (5 : Int32) = 0; decide)
theorem wrong_7 (v : MS) (z : Bool) (c : Int32) : f_MMo_wrong (msF v 13 7) z c = some (msF v 13 7) := wrong_n _ _ _ (by show ¬ (7 : Int32) = 0; decide)
