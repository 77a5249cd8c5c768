/-! digits of packed fields -/
def valD (d : Nat → Nat) : Nat → Nat
  | 0 => 0
  | m + 1 => valD d m + d m * 10 ^ m
theorem valD_lt {d : Nat → Nat} : ∀ {m : Nat}, (∀ k, k < m → d k ≤ 9) → valD d m < 10 ^ m := by
  intro m
  induction m with
  | zero => intro _; simp [valD]
  | succ m ih =>
    intro h
    have h1 := ih (fun k hk => h k (by omega))
    have h2 := h m (by omega)
    have h3 : d m * 10 ^ m ≤ 9 * 10 ^ m := Nat.mul_le_mul_right _ h2
    rw [valD, Nat.pow_succ]
    omega
theorem valD_ext {d e : Nat → Nat} : ∀ {m : Nat}, (∀ k, k < m → d k = e k) → valD d m = valD e m := by
  intro m
  induction m with
  | zero => intro _; rfl
  | succ m ih =>
    intro h
    rw [valD, valD, ih (fun k hk => h k (by omega)), h m (by omega)]
theorem valD_pad {d : Nat → Nat} {m : Nat} : ∀ (j : Nat), (∀ k, m ≤ k → k < m + j → d k = 0) → valD d (m + j) = valD d m := by
  intro j
  induction j with
  | zero => intro _; rfl
  | succ j ih =>
    intro h
    rw [← Nat.add_assoc, valD, ih (fun k h1 h2 => h k h1 (by omega)), h (m + j) (by omega) (by omega), Nat.zero_mul, Nat.add_zero]
theorem valD_dig {d : Nat → Nat} : ∀ {m : Nat}, (∀ k, k < m → d k ≤ 9) → ∀ k, valD d m / 10 ^ k % 10 = if k < m then d k else 0 := by
  intro m
  induction m with
  | zero => intro _ k; simp [valD]
  | succ m ih =>
    intro h k
    have h0 := ih (fun k hk => h k (by omega)) k
    have hl := valD_lt (d := d) (m := m) (fun k hk => h k (by omega))
    have h9 := h m (by omega)
    rw [valD]
    rcases Nat.lt_trichotomy k m with c | c | c
    · rw [if_pos (by omega)]
      rw [if_pos c] at h0
      have e : 10 ^ m = 10 ^ k * (10 * 10 ^ (m - k - 1)) := by
        rw [← Nat.pow_succ', ← Nat.pow_add]
        congr 1
        omega
      rw [e, show d m * (10 ^ k * (10 * 10 ^ (m - k - 1))) = 10 ^ k * (10 * (d m * 10 ^ (m - k - 1))) by
        rw [Nat.mul_left_comm (d m), Nat.mul_left_comm (d m)], Nat.add_mul_div_left _ _ (Nat.pow_pos (by decide)), Nat.add_mul_mod_self_left]
      exact h0
    · subst c
      rw [if_pos (by omega), Nat.add_mul_div_right _ _ (Nat.pow_pos (by decide)), Nat.div_eq_of_lt hl]
      omega
    · rw [if_neg (by omega)]
      have : valD d m + d m * 10 ^ m < 10 ^ k := by
        have h1 : valD d (m + 1) < 10 ^ (m + 1) := valD_lt (fun k hk => h k hk)
        have h2 : 10 ^ (m + 1) ≤ 10 ^ k := Nat.pow_le_pow_right (by decide) c
        rw [valD] at h1
        omega
      rw [Nat.div_eq_of_lt this]
def dg (b : Nat → Nat) (A n k : Nat) : Nat := if k % 2 = 0 then b (A + n - 1 - (k + 1) / 2) / 16 else b (A + n - 1 - (k + 1) / 2) % 16
def sgn (b : Nat → Nat) (A n : Nat) : Nat := b (A + n - 1) % 16
def Gd (b : Nat → Nat) (A n : Nat) : Prop := 10 ≤ sgn b A n ∧ ∀ k, k < 2 * n - 1 → dg b A n k ≤ 9
def mns (b : Nat → Nat) (A n : Nat) : Bool := decide (sgn b A n = 11 ∨ sgn b A n = 13)
theorem dg_lt {b : Nat → Nat} (hb : ∀ j, b j < 256) (A n k : Nat) : dg b A n k < 16 := by
  have := hb (A + n - 1 - (k + 1) / 2)
  unfold dg
  split <;> omega
theorem lastI {A n : Nat} (hn : 1 ≤ n) : nI A + nI n - 1 = nI (A + n - 1) := by
  rw [nI_add, show (1 : Int32) = nI 1 from rfl, sI_le (by omega)]
theorem Gd_iff {b : Nat → Nat} {A n : Nat} (hn : 1 ≤ n) : Gd b A n ↔ (b (A + n - 1) / 16 ≤ 9 ∧ 10 ≤ b (A + n - 1) % 16) ∧ ∀ i, i < n - 1 → b (A + i) / 16 ≤ 9 ∧ b (A + i) % 16 ≤ 9 := by
  unfold Gd sgn
  constructor
  · rintro ⟨h1, h2⟩
    refine ⟨⟨?_, h1⟩, fun i hi => ⟨?_, ?_⟩⟩
    · have := h2 0 (by omega)
      unfold dg at this
      rw [if_pos (by decide)] at this
      exact this
    · have := h2 (2 * (n - 1 - i)) (by omega)
      unfold dg at this
      rw [if_pos (by omega), show A + n - 1 - (2 * (n - 1 - i) + 1) / 2 = A + i by omega] at this
      exact this
    · have := h2 (2 * (n - 1 - i) - 1) (by omega)
      unfold dg at this
      rw [if_neg (by omega), show A + n - 1 - (2 * (n - 1 - i) - 1 + 1) / 2 = A + i by omega] at this
      exact this
  · rintro ⟨⟨h1, h2⟩, h3⟩
    refine ⟨h2, fun k hk => ?_⟩
    unfold dg
    by_cases c0 : k = 0
    · subst c0
      rw [if_pos (by decide)]
      exact h1
    · have := h3 (n - 1 - (k + 1) / 2) (by omega)
      rw [show A + (n - 1 - (k + 1) / 2) = A + n - 1 - (k + 1) / 2 by omega] at this
      split
      · exact this.1
      · exact this.2
theorem x_minus (u : XS) {b : Nat → Nat} (hb : ∀ j, b j < 256) (hxb : ∀ j, xM u j = nI (b j)) {A n : Nat} (hn : 1 ≤ n) (hA : A + n ≤ 1024) : f_XMe_isMinus u (nI A) (nI n) = mns b A n := by
  have h := hb (A + n - 1)
  have e1 : (nI (b (A + n - 1) % 16) = (13 : Int32)) = (b (A + n - 1) % 16 = 13) := eq_nI (c := 13) (by omega) (by decide)
  have e2 : (nI (b (A + n - 1) % 16) = (11 : Int32)) = (b (A + n - 1) % 16 = 11) := eq_nI (c := 11) (by omega) (by decide)
  simp only [f_XMe_isMinus, nmE, lastI hn, getN u (A := A + n - 1) rfl (show A + n - 1 < 1024 by omega), hxb, a15 _ (show b (A + n - 1) < 4294967296 by omega), e1, e2]
  unfold mns sgn
  by_cases c1 : b (A + n - 1) % 16 = 13
  · simp [c1]
  · by_cases c2 : b (A + n - 1) % 16 = 11
    · simp [c2]
    · simp [c1, c2]
theorem m_minus (v : MS) {b : Nat → Nat} (hb : ∀ j, b j < 256) (hmb : ∀ j, mA v 1 j = nI (b j)) {A n : Nat} (hn : 1 ≤ n) (hA : A + n ≤ 1024) : f_MMo_isMinus v (nI A) (nI n) = some (mns b A n) := by
  have h := hb (A + n - 1)
  have e1 : (nI (b (A + n - 1) % 16) = (13 : Int32)) = (b (A + n - 1) % 16 = 13) := eq_nI (c := 13) (by omega) (by decide)
  have e2 : (nI (b (A + n - 1) % 16) = (11 : Int32)) = (b (A + n - 1) % 16 = 11) := eq_nI (c := 11) (by omega) (by decide)
  simp only [f_MMo_isMinus, nmE, lastI hn, ckIN (n := 1024) (A := A + n - 1) rfl (show A + n - 1 < 1024 by omega) (by decide), nI_clamp (show A + n - 1 < 2 ^ 31 by omega), hmb, a15 _ (show b (A + n - 1) < 4294967296 by omega), e1, e2]
  unfold mns sgn
  by_cases c1 : b (A + n - 1) % 16 = 11
  · simp [c1]
  · by_cases c2 : b (A + n - 1) % 16 = 13
    · simp [c2]
    · simp [c1, c2]
theorem sh4 {n : Nat} (h : n < 2147483648) : nI n >>> ((4 : Int32) &&& 31) = nI (n / 16) := pk_shrN h _ 4 rfl
theorem x_packedL (u : XS) {b : Nat → Nat} (hb : ∀ j, b j < 256) (hxb : ∀ j, xM u j = nI (b j)) {A n : Nat} (hn : 1 ≤ n) (hA : A + n ≤ 1024) : ∀ (d t f : Nat) (z : Bool), t + d = n - 1 → d < f → (lpN f (g_XMe_isPacked_37 (nI n) u (nI A)) (fun _ _ => default) z (nI t) = true ↔ z = true ∧ ∀ i, t ≤ i → i < n - 1 → b (A + i) / 16 ≤ 9 ∧ b (A + i) % 16 ≤ 9) := by
  have e0 : nI n - 1 = nI (n - 1) := by rw [show (1 : Int32) = nI 1 from rfl, sI_le hn]
  intro d
  induction d with
  | zero =>
    intro t f z ht hf
    obtain ⟨f, rfl⟩ : ∃ g, f = g + 1 := ⟨f - 1, by omega⟩
    have e : lpN (f + 1) (g_XMe_isPacked_37 (nI n) u (nI A)) (fun _ _ => default) z (nI t) = z := by
      show g_XMe_isPacked_37 (nI n) u (nI A) _ z (nI t) = _
      simp only [g_XMe_isPacked_37, e0]
      rw [if_pos (nI_le (by omega) (by omega))]
    rw [e]
    exact ⟨fun h => ⟨h, fun i h1 h2 => by omega⟩, fun h => h.1⟩
  | succ d ih =>
    intro t f z ht hf
    obtain ⟨f, rfl⟩ : ∃ g, f = g + 1 := ⟨f - 1, by omega⟩
    have hbt := hb (A + t)
    have q1 : ((9 : Int32) < nI (b (A + t) / 16)) = (9 < b (A + t) / 16) := lt_nI (k := 9) (by decide) (by omega)
    have q2 : ((9 : Int32) < nI (b (A + t) % 16)) = (9 < b (A + t) % 16) := lt_nI (k := 9) (by decide) (by omega)
    have e : lpN (f + 1) (g_XMe_isPacked_37 (nI n) u (nI A)) (fun _ _ => default) z (nI t) = lpN f (g_XMe_isPacked_37 (nI n) u (nI A)) (fun _ _ => default) (if z = false then false else if 9 < b (A + t) / 16 then false else if 9 < b (A + t) % 16 then false else true) (nI (t + 1)) := by
      show g_XMe_isPacked_37 (nI n) u (nI A) _ z (nI t) = _
      simp only [g_XMe_isPacked_37, e0, if_neg (nI_ge (show t < n - 1 by omega) (show n - 1 < 2 ^ 31 by omega)), nmE, jnE, bI0, nI_add, getN u (A := A + t) rfl (show A + t < 1024 by omega), hxb, sh4 (show b (A + t) < 2147483648 by omega), a15 _ (show b (A + t) < 4294967296 by omega), q1, q2, nI_1]
      split
      · rfl
      · split
        · rfl
        · split <;> rfl
    rw [e, ih (t + 1) f _ (by omega) (by omega)]
    constructor
    · rintro ⟨h1, h2⟩
      split at h1
      · cases h1
      · rename_i hz
        split at h1
        · cases h1
        · split at h1
          · cases h1
          · refine ⟨by cases z <;> simp_all, fun i hi1 hi2 => ?_⟩
            by_cases c : i = t
            · subst c; omega
            · exact h2 i (by omega) hi2
    · rintro ⟨h1, h2⟩
      have := h2 t (Nat.le_refl _) (by omega)
      rw [h1]
      refine ⟨?_, fun i hi1 hi2 => h2 i (by omega) hi2⟩
      rw [if_neg (by decide), if_neg (by omega), if_neg (by omega)]
theorem x_packed (u : XS) {b : Nat → Nat} (hb : ∀ j, b j < 256) (hxb : ∀ j, xM u j = nI (b j)) {A n : Nat} (hn : 1 ≤ n) (hA : A + n ≤ 1024) : f_XMe_isPacked u (nI A) (nI n) = true ↔ Gd b A n := by
  have h := hb (A + n - 1)
  have e0 : nI n - 1 = nI (n - 1) := by rw [show (1 : Int32) = nI 1 from rfl, sI_le hn]
  have q1 : ((9 : Int32) < nI (b (A + n - 1) / 16)) = (9 < b (A + n - 1) / 16) := lt_nI (k := 9) (by decide) (by omega)
  have q2 : (nI (b (A + n - 1) % 16) < (10 : Int32)) = (b (A + n - 1) % 16 < 10) := lt_nI (c := 10) (by omega) (by decide)
  have fu : n - 1 < (Int32.toInt (nI n - 1) - Int32.toInt (0 : Int32)).toNat + 1 := by rw [e0, nI_toInt (by omega), show (0 : Int32).toInt = 0 from rfl]; omega
  have L := fun z => x_packedL u hb hxb hn hA (n - 1) 0 _ z (by omega) fu
  rw [Gd_iff hn]
  simp only [f_XMe_isPacked, nmE, jnE, lastI hn, getN u (A := A + n - 1) rfl (show A + n - 1 < 1024 by omega), hxb, sh4 (show b (A + n - 1) < 2147483648 by omega), a15 _ (show b (A + n - 1) < 4294967296 by omega), q1, q2]
  have L0 := L false
  have L1 := L true
  rw [show nI 0 = (0 : Int32) from rfl] at L0 L1
  by_cases c1 : 9 < b (A + n - 1) / 16
  · rw [if_pos c1, L0]
    constructor
    · rintro ⟨h1, -⟩; cases h1
    · rintro ⟨⟨h1, -⟩, -⟩; omega
  · rw [if_neg c1]
    by_cases c2 : b (A + n - 1) % 16 < 10
    · rw [if_pos c2, L0]
      constructor
      · rintro ⟨h1, -⟩; cases h1
      · rintro ⟨⟨-, h1⟩, -⟩; omega
    · rw [if_neg c2, L1]
      constructor
      · rintro ⟨-, h1⟩
        exact ⟨⟨by omega, by omega⟩, fun i hi => h1 i (by omega) hi⟩
      · rintro ⟨-, h1⟩
        exact ⟨rfl, fun i _ hi => h1 i hi⟩
theorem m_packs0 (p : Nat) (K : MS → Option (Bool × MS)) : ∀ (d t f : Nat) (w : MS), t + d = 32 → d < f → (∀ k, k < t → mA w p k = 0) → ∃ w', lpN f (g_MMo_packs_32 K p) (fun _ _ => none) (nI t) w = K w' ∧ mF w' = mF w ∧ (∀ q, q ≠ p → mA w' q = mA w q) ∧ ∀ k, k < 32 → mA w' p k = 0 := by
  intro d
  induction d with
  | zero =>
    intro t f w ht hf hk
    obtain ⟨f, rfl⟩ : ∃ g, f = g + 1 := ⟨f - 1, by omega⟩
    refine ⟨w, ?_, rfl, fun _ _ => rfl, fun k h => hk k (by omega)⟩
    show g_MMo_packs_32 K p _ (nI t) w = _
    simp only [g_MMo_packs_32]
    rw [if_pos (show (32 : Int32) ≤ nI t from nI_le (a := 32) (by omega) (by omega))]
  | succ d ih =>
    intro t f w ht hf hk
    obtain ⟨f, rfl⟩ : ∃ g, f = g + 1 := ⟨f - 1, by omega⟩
    have ht2 : t < 32 := by omega
    obtain ⟨w', e1, e2, e3, e4⟩ := ih (t + 1) f (msA w p t 0) (by omega) (by omega) (fun k h => by
      rw [mA_A, if_pos rfl, updE]
      split
      · rfl
      · exact hk k (by omega))
    refine ⟨w', ?_, e2, fun q hq => by rw [e3 q hq, mA_A, if_neg hq], e4⟩
    show g_MMo_packs_32 K p _ (nI t) w = _
    simp only [g_MMo_packs_32, if_neg (show ¬ (32 : Int32) ≤ nI t from nI_ge (b := 32) ht2 (by decide)), nmE, ckIN (n := 32) (A := t) rfl ht2 (by decide), nI_clamp (show t < 2 ^ 31 by omega), nI_1]
    exact e1
theorem m_packsL {b : Nat → Nat} (hb : ∀ j, b j < 256) {A n : Nat} (hn : 1 ≤ n ∧ n ≤ 16) (hA : A + n ≤ 1024) {p : Nat} (hp : p ≠ 1) : ∀ (d t f : Nat) (z : Bool) (w : MS), t + d = 2 * n - 1 → d < f → (∀ j, mA w 1 j = nI (b j)) → ∃ z' w', lpN f (g_MMo_packs_53 (nI n) (nI A) p) (fun _ _ _ => none) z (nI t) w = some (z', w') ∧ mF w' = mF w ∧ (∀ q, q ≠ p → mA w' q = mA w q) ∧ (∀ k, mA w' p k = if t ≤ k ∧ k < 2 * n - 1 then nI (dg b A n k) else mA w p k) ∧ (z' = true ↔ z = true ∧ ∀ k, t ≤ k → k < 2 * n - 1 → dg b A n k ≤ 9) := by
  have e0 : (2 : Int32) * nI n - 1 = nI (2 * n - 1) := by rw [show (2 : Int32) = nI 2 from rfl, pk_mul, show (1 : Int32) = nI 1 from rfl, sI_le (by omega)]
  intro d
  induction d with
  | zero =>
    intro t f z w ht hf hw
    obtain ⟨f, rfl⟩ : ∃ g, f = g + 1 := ⟨f - 1, by omega⟩
    refine ⟨z, w, ?_, rfl, fun _ _ => rfl, fun k => by rw [if_neg (by omega)], fun h => ⟨h, fun k h1 h2 => by omega⟩, fun h => h.1⟩
    show g_MMo_packs_53 (nI n) (nI A) p _ z (nI t) w = _
    simp only [g_MMo_packs_53, e0]
    rw [if_pos (nI_le (by omega) (by omega))]
  | succ d ih =>
    intro t f z w ht hf hw
    obtain ⟨f, rfl⟩ : ∃ g, f = g + 1 := ⟨f - 1, by omega⟩
    have ht2 : t < 32 := by omega
    have hlt := dg_lt hb A n t
    have hbt := hb (A + n - 1 - (t + 1) / 2)
    obtain ⟨z', w', e1, e2, e3, e4, e5⟩ := ih (t + 1) f (z && decide (dg b A n t ≤ 9)) (msA w p t (nI (dg b A n t))) (by omega) (by omega) (fun j => by rw [mA_A, if_neg (by omega)]; exact hw j)
    have q1 : nI (t + 1) / (2 : Int32) = nI ((t + 1) / 2) := pk_div (d := 2) (by omega) (by decide) (by decide)
    have q2 : nI t - nI t / (2 : Int32) * (2 : Int32) = nI (t % 2) := pk_rem (d := 2) (by omega) (by decide) (by decide)
    have q3 : nI (A + n - 1) - nI ((t + 1) / 2) = nI (A + n - 1 - (t + 1) / 2) := sI_le (by omega)
    have q4 : (nI (t % 2) = (0 : Int32)) = (t % 2 = 0) := eq_nI (c := 0) (by omega) (by decide)
    have q5 : ((10 : Int32) ≤ nI (dg b A n t)) = (10 ≤ dg b A n t) := le_nI (k := 10) (by decide) (by omega)
    refine ⟨z', w', ?_, e2, fun q hq => by rw [e3 q hq, mA_A, if_neg hq], fun k => ?_, ?_⟩
    · rw [← e1]
      show g_MMo_packs_53 (nI n) (nI A) p _ z (nI t) w = _
      simp only [g_MMo_packs_53, e0, if_neg (nI_ge (show t < 2 * n - 1 by omega) (show 2 * n - 1 < 2 ^ 31 by omega)), nmE, jnE, lastI hn.1, nI_1, q1, q2, q3, q4, ckIN (n := 1024) (A := A + n - 1 - (t + 1) / 2) rfl (show A + n - 1 - (t + 1) / 2 < 1024 by omega) (by decide), nI_clamp (show A + n - 1 - (t + 1) / 2 < 2 ^ 31 by omega), hw, sh4 (show b (A + n - 1 - (t + 1) / 2) < 2147483648 by omega), a15 _ (show b (A + n - 1 - (t + 1) / 2) < 4294967296 by omega), ckIN (n := 32) (A := t) rfl ht2 (by decide), nI_clamp (show t < 2 ^ 31 by omega), msA_at]
      by_cases c : t % 2 = 0
      · have ed : dg b A n t = b (A + n - 1 - (t + 1) / 2) / 16 := by unfold dg; rw [if_pos c]
        rw [if_pos c, ← ed]
        simp only [q5]
        by_cases c9 : 10 ≤ dg b A n t
        · rw [if_pos c9, decide_eq_false (by omega)]
        · rw [if_neg c9, decide_eq_true (by omega)]
      · have ed : dg b A n t = b (A + n - 1 - (t + 1) / 2) % 16 := by unfold dg; rw [if_neg c]
        rw [if_neg c, ← ed]
        simp only [q5]
        by_cases c9 : 10 ≤ dg b A n t
        · rw [if_pos c9, decide_eq_false (by omega)]
        · rw [if_neg c9, decide_eq_true (by omega)]
    · rw [e4 k, mA_A, if_pos rfl, updE]
      by_cases c : k = t
      · rw [if_neg (by omega), if_pos c, if_pos (by omega), c]
      · by_cases c2 : t + 1 ≤ k ∧ k < 2 * n - 1
        · rw [if_pos c2, if_pos (by omega)]
        · rw [if_neg c2, if_neg c, if_neg (by omega)]
    · rw [e5, Bool.and_eq_true, decide_eq_true_eq]
      constructor
      · rintro ⟨⟨h1, h2⟩, h3⟩
        refine ⟨h1, fun k k1 k2 => ?_⟩
        by_cases c : k = t
        · rw [c]; exact h2
        · exact h3 k (by omega) k2
      · rintro ⟨h1, h2⟩
        exact ⟨⟨h1, h2 t (Nat.le_refl _) (by omega)⟩, fun k k1 k2 => h2 k (by omega) k2⟩
theorem m_packs {b : Nat → Nat} (hb : ∀ j, b j < 256) {A n : Nat} (hn : 1 ≤ n ∧ n ≤ 16) (hA : A + n ≤ 1024) {p : Nat} (hp : p ≠ 1) (v : MS) (hmb : ∀ j, mA v 1 j = nI (b j)) : ∃ z v', f_MMo_packs p v (nI A) (nI n) = some (z, v') ∧ (z = true ↔ Gd b A n) ∧ mF v' = mF v ∧ (∀ q, q ≠ p → mA v' q = mA v q) ∧ ∀ k, k < 32 → mA v' p k = nI (if k < 2 * n - 1 then dg b A n k else 0) := by
  have h := hb (A + n - 1)
  have q1 : (nI (b (A + n - 1) % 16) ≤ (9 : Int32)) = (b (A + n - 1) % 16 ≤ 9) := le_nI (c := 9) (by omega) (by decide)
  have hz : ∀ K : Bool → Option (Bool × MS), (if b (A + n - 1) % 16 ≤ 9 then K false else K true) = K (decide (10 ≤ sgn b A n)) := by
    intro K
    unfold sgn
    by_cases c : b (A + n - 1) % 16 ≤ 9
    · rw [if_pos c, decide_eq_false (by omega)]
    · rw [if_neg c, decide_eq_true (by omega)]
  obtain ⟨w, e1, e2, e3, e4⟩ := m_packs0 p (fun (u_5 : MS) => lpN fuelM (g_MMo_packs_53 (nI n) (nI A) p) (fun _ _ _ => none) (decide (10 ≤ sgn b A n)) (0 : Int32) u_5) 32 0 fuelM v (by omega) (by unfold fuelM; omega) (fun k h => by omega)
  obtain ⟨z, v', r1, r2, r3, r4, r5⟩ := m_packsL hb hn hA hp (2 * n - 1) 0 fuelM (decide (10 ≤ sgn b A n)) w (by omega) (by unfold fuelM; omega) (fun j => by rw [e3 1 (fun h => hp h.symm)]; exact hmb j)
  refine ⟨z, v', ?_, ?_, r2.trans e2, fun q hq => (r3 q hq).trans (e3 q hq), fun k hk => ?_⟩
  · rw [← r1]
    simp only [f_MMo_packs, nmE, jnE, lastI hn.1, ckIN (n := 1024) (A := A + n - 1) rfl (show A + n - 1 < 1024 by omega) (by decide), nI_clamp (show A + n - 1 < 2 ^ 31 by omega), hmb, a15 _ (show b (A + n - 1) < 4294967296 by omega), q1]
    rw [hz (fun z => lpN fuelM (g_MMo_packs_32 (fun (u_5 : MS) => lpN fuelM (g_MMo_packs_53 (nI n) (nI A) p) (fun _ _ _ => none) z (0 : Int32) u_5) p) (fun _ _ => none) (0 : Int32) v)]
    exact e1
  · rw [r5, decide_eq_true_eq]
    unfold Gd
    exact ⟨fun h => ⟨h.1, fun k hk => h.2 k (by omega) hk⟩, fun h => ⟨h.1, fun k _ hk => h.2 k hk⟩⟩
  · rw [r4 k]
    by_cases c : k < 2 * n - 1
    · rw [if_pos (by omega), if_pos c]
    · rw [if_neg (by omega), if_neg c, e4 k hk]
      rfl
/-- a field's number, without its sign -/
def fv (b : Nat → Nat) (A n : Nat) : Nat := valD (dg b A n) (2 * n - 1)
theorem x_decL (u : XS) {b : Nat → Nat} (hb : ∀ j, b j < 256) (hxb : ∀ j, xM u j = nI (b j)) {A n : Nat} (hn : 1 ≤ n) (hA : A + n ≤ 1024) (K : Int64 → Int64) : ∀ (d t f D : Nat), t + d = n - 1 → d < f → D * 10 ^ (2 * (n - t) - 1) + valD (dg b A n) (2 * (n - t) - 1) = fv b A n → ∃ D', lpN f (g_XMe_decimal_5 (nI n) K u (nI A)) (fun _ _ => default) (lN D) (nI t) = K (lN D') ∧ D' * 10 + dg b A n 0 = fv b A n := by
  have e0 : nI n - 1 = nI (n - 1) := by rw [show (1 : Int32) = nI 1 from rfl, sI_le hn]
  intro d
  induction d with
  | zero =>
    intro t f D ht hf hD
    obtain ⟨f, rfl⟩ : ∃ g, f = g + 1 := ⟨f - 1, by omega⟩
    refine ⟨D, ?_, ?_⟩
    · show g_XMe_decimal_5 (nI n) K u (nI A) _ (lN D) (nI t) = _
      simp only [g_XMe_decimal_5, e0]
      rw [if_pos (nI_le (by omega) (by omega))]
    · rw [show 2 * (n - t) - 1 = 1 by omega] at hD
      simpa [valD] using hD
  | succ d ih =>
    intro t f D ht hf hD
    obtain ⟨f, rfl⟩ : ∃ g, f = g + 1 := ⟨f - 1, by omega⟩
    have hbt := hb (A + t)
    obtain ⟨m, hm⟩ : ∃ m, 2 * (n - t) - 1 = m + 2 := ⟨2 * (n - t) - 3, by omega⟩
    have hm2 : 2 * (n - (t + 1)) - 1 = m := by omega
    have d1 : dg b A n (m + 1) = b (A + t) / 16 := by
      unfold dg
      rw [if_pos (by omega), show A + n - 1 - (m + 1 + 1) / 2 = A + t by omega]
    have d0 : dg b A n m = b (A + t) % 16 := by
      unfold dg
      rw [if_neg (by omega), show A + n - 1 - (m + 1) / 2 = A + t by omega]
    obtain ⟨D', e1, e2⟩ := ih (t + 1) f (D * 100 + b (A + t) / 16 * 10 + b (A + t) % 16) (by omega) (by omega) (by
      rw [hm2, ← hD, hm, valD, valD, d1, d0, Nat.pow_succ, Nat.pow_succ]
      generalize 10 ^ m = P
      have e : (D * 100 + b (A + t) / 16 * 10 + b (A + t) % 16) * P = D * (P * 10 * 10) + b (A + t) / 16 * (P * 10) + b (A + t) % 16 * P := by
        rw [Nat.add_mul, Nat.add_mul]
        congr 2
        · rw [Nat.mul_assoc, Nat.mul_comm 100 P, Nat.mul_assoc P 10 10]
        · rw [Nat.mul_assoc, Nat.mul_comm 10 P]
      rw [e]
      omega)
    refine ⟨D', ?_, e2⟩
    rw [← e1]
    show g_XMe_decimal_5 (nI n) K u (nI A) _ (lN D) (nI t) = _
    have q1 : nI (b (A + t) / 16) * (10 : Int32) = nI (b (A + t) / 16 * 10) := pk_mul _ 10
    have q2 : lN D * (100 : Int64) = lN (D * 100) := lN_mul D 100
    simp only [g_XMe_decimal_5, e0, if_neg (nI_ge (show t < n - 1 by omega) (show n - 1 < 2 ^ 31 by omega)), nmE, nI_add, getN u (A := A + t) rfl (show A + t < 1024 by omega), hxb, sh4 (show b (A + t) < 2147483648 by omega), a15 _ (show b (A + t) < 4294967296 by omega), q1, q2, nI_l (show b (A + t) / 16 * 10 < 2 ^ 31 by omega), nI_l (show b (A + t) % 16 < 2 ^ 31 by omega), lN_add, nI_1]
theorem x_dec (u : XS) {b : Nat → Nat} (hb : ∀ j, b j < 256) (hxb : ∀ j, xM u j = nI (b j)) {A n : Nat} (hn : 1 ≤ n) (hA : A + n ≤ 1024) : f_XMe_decimal u (nI A) (nI n) = if mns b A n = false then lN (fv b A n) else -lN (fv b A n) := by
  have h := hb (A + n - 1)
  have e0 : nI n - 1 = nI (n - 1) := by rw [show (1 : Int32) = nI 1 from rfl, sI_le hn]
  have fu : n - 1 < (Int32.toInt (nI n - 1) - Int32.toInt (0 : Int32)).toNat + 1 := by rw [e0, nI_toInt (by omega), show (0 : Int32).toInt = 0 from rfl]; omega
  obtain ⟨D, e1, e2⟩ := x_decL u hb hxb hn hA (fun (y_1 : Int64) => nm (f_XMe_get u ((nI A + nI n) - (1 : Int32))) (fun (x_3 : Int32) => nm ((y_1 * (10 : Int64)) + (Int32.toInt64 (x_3 >>> ((4 : Int32) &&& 31)))) (fun (y_4 : Int64) => nm (f_XMe_isMinus u (nI A) (nI n)) (fun (z_5 : Bool) => if (bI z_5) = (0 : Int32) then y_4 else (-y_4))))) (n - 1) 0 _ 0 (by omega) fu (by rw [Nat.zero_mul, Nat.zero_add]; rfl)
  have ed : dg b A n 0 = b (A + n - 1) / 16 := by unfold dg; rw [if_pos (by decide)]; rfl
  have q2 : lN D * (10 : Int64) = lN (D * 10) := lN_mul D 10
  have q3 : (nI (dg b A n 0)).toInt64 = lN (dg b A n 0) := nI_l (by rw [ed]; omega)
  rw [show f_XMe_decimal u (nI A) (nI n) = _ from e1]
  simp only [nmE, lastI hn, getN u (A := A + n - 1) rfl (show A + n - 1 < 1024 by omega), hxb, sh4 (show b (A + n - 1) < 2147483648 by omega), x_minus u hb hxb hn hA, bI0, q2, ← ed, q3, lN_add, e2]
theorem m_valL (v : MS) (p : Nat) (K : Int64 → Option Int64) {d : Nat → Nat} (hd : ∀ k, k < 18 → d k < 16 ∧ mA v p k = nI (d k)) : ∀ (i f D : Nat), i ≤ 18 → i < f → D * 10 ^ i + valD d i = valD d 18 → lpN f (g_MMo_value_6 K v p) (fun _ _ => none) (lN D) (nI i - 1) = K (lN (valD d 18)) := by
  intro i
  induction i with
  | zero =>
    intro f D hi hf hD
    obtain ⟨f, rfl⟩ : ∃ g, f = g + 1 := ⟨f - 1, by omega⟩
    show g_MMo_value_6 K v p _ (lN D) (nI 0 - 1) = _
    simp only [g_MMo_value_6]
    rw [if_pos (by decide)]
    congr 2
    simpa [valD] using hD
  | succ i ih =>
    intro f D hi hf hD
    obtain ⟨f, rfl⟩ : ∃ g, f = g + 1 := ⟨f - 1, by omega⟩
    obtain ⟨h1, h2⟩ := hd i (by omega)
    have e2 : nI i + -1 = nI i - 1 := by rw [Int32.sub_eq_add_neg]
    have q : (10 : Int64) * lN D = lN (10 * D) := lN_mul 10 D
    show g_MMo_value_6 K v p _ (lN D) (nI (i + 1) - 1) = _
    simp only [g_MMo_value_6, nI_pred, if_neg (nI_pos (show i < 2 ^ 31 by omega)), nmE, ckIN (n := 32) (A := i) rfl (show i < 32 by omega) (by decide), nI_clamp (show i < 2 ^ 31 by omega), h2, nI_l (show d i < 2 ^ 31 by omega), q, lN_add, e2]
    refine ih f (10 * D + d i) (by omega) (by omega) ?_
    rw [← hD, valD, Nat.pow_succ, Nat.add_mul]
    have : 10 * D * 10 ^ i = D * (10 ^ i * 10) := by rw [Nat.mul_comm 10 D, Nat.mul_assoc, Nat.mul_comm 10]
    omega
theorem m_val (v : MS) (p : Nat) {d : Nat → Nat} (hd : ∀ k, k < 18 → d k < 16 ∧ mA v p k = nI (d k)) (z : Bool) : f_MMo_value p v z = some (if z = false then lN (valD d 18) else -lN (valD d 18)) := by
  have e := m_valL v p (fun (y_1 : Int64) => if z = false then some y_1 else some (-y_1)) hd 18 fuelM 0 (by omega) (by unfold fuelM; omega) (by omega)
  simp only [f_MMo_value, jnE, bI0]
  rw [show (17 : Int32) = nI 18 - 1 from rfl, show (0 : Int64) = lN 0 from rfl, e]
  split <;> rfl
theorem fv_18 {b : Nat → Nat} {A n : Nat} (hn : 1 ≤ n ∧ n ≤ 8) : valD (fun k => if k < 2 * n - 1 then dg b A n k else 0) 18 = fv b A n := by
  obtain ⟨j, hj⟩ : ∃ j, 18 = (2 * n - 1) + j := ⟨18 - (2 * n - 1), by omega⟩
  rw [hj, valD_pad j (fun k h1 h2 => by rw [if_neg (by omega)])]
  exact valD_ext (fun k hk => by rw [if_pos hk])
theorem P_packed {u : XS} {v : MS} (h : Rel u v) (f : Nat → Int64) (x1 : Int32) (x2 : Int32) : ∃ b v1, f_MMo_packed v x1 x2 = some (b, v1) ∧ mF v1 0 = (h_packed (u, f) x1 x2).1 ∧ ((h_packed (u, f) x1 x2).1 = 0 → (h_packed (u, f) x1 x2).2.2 0 = b) ∧ Rel (h_packed (u, f) x1 x2).2.1 v1 := by
  have h0 : mF (msF v 0 0) 0 = 0 := rfl
  have hR := h.err 0
  generalize hw : msF v 0 0 = w at h0 hR
  simp only [f_MMo_packed, nmE, jnE, hw, in_within w u x2 1 8 (y1 := 1) (y2 := 8) rfl (by decide) (by decide), h_packed, f_XDM_packed, bI0, bd1S]
  cases hb : f_XDM_isWithin u x2 1 8 with
  | false =>
    simp only [reduceCtorEq, ↓reduceIte, demand_f, fails_t w 1 h0 (show ¬ (1 : Int32) = 0 by decide), bx, bd2S]
    exact ⟨0, _, rfl, rfl, fun e => absurd e (by simp [hj, xc]), hR⟩
  | true =>
    simp only [reduceCtorEq, ↓reduceIte, demand_t, fails_f w _ h0, bx, bd2S]
    have k1 := (within_iff u x2 1 8).mp hb
    have l1 : (1 : Int32).toInt = 1 := rfl
    have l2 : (8 : Int32).toInt = 8 := rfl
    obtain ⟨N, hN, rfl⟩ := ex_nI (x := x2) (N := 9) (by omega) (by omega)
    rw [nI_toInt (by omega)] at k1
    simp only [lies_holds w u x1 (n := nI N) (N := N) rfl (by omega), bd1S]
    cases hc : f_XMe_holds u x1 (nI N) with
    | false =>
      simp only [demM_f hc, ↓reduceIte, fails_t w 2 h0 (show ¬ (2 : Int32) = 0 by decide), bd2S, reduceCtorEq]
      exact ⟨0, _, rfl, rfl, fun e => absurd e (by simp [hj, xc]), hR⟩
    | true =>
      simp only [demM_t hc, ↓reduceIte, fails_f w 2 h0, bd2S, reduceCtorEq]
      obtain ⟨A, rfl, hA⟩ := (holds_iff u x1 (n := nI N) (N := N) rfl (by omega)).mp hc
      obtain ⟨b, hb, hxb, hmb⟩ := hR.core.nb
      obtain ⟨z, v', p1, p2, p3, p4, p5⟩ := m_packs hb (n := N) (A := A) (by omega) hA (p := 4) (by decide) w hmb
      have hR' : Rel u v' := by
        unfold Rel at hR ⊢
        rw [p3, p4 1 (by decide), p4 2 (by decide)]
        exact hR
      have hxp := x_packed u hb hxb (n := N) (A := A) (by omega) hA
      have h0' : mF v' 0 = 0 := by rw [p3]; exact h0
      rw [p1, bd2S]
      cases z with
      | false =>
        have hp : f_XMe_isPacked u (nI A) (nI N) = false := by
          cases e : f_XMe_isPacked u (nI A) (nI N) with
          | false => rfl
          | true => exact absurd (p2.mpr (hxp.mp e)) (by decide)
        simp only [hp, ↓reduceIte, demand_f, fails_t v' 1 h0' (show ¬ (1 : Int32) = 0 by decide), bd2S, reduceCtorEq]
        exact ⟨0, _, rfl, rfl, fun e => absurd e (by simp [hj, xc]), hR'.err 1⟩
      | true =>
        have hp : f_XMe_isPacked u (nI A) (nI N) = true := hxp.mpr (p2.mp rfl)
        have hmv := m_minus v' hb (fun j => by rw [p4 1 (by decide)]; exact hmb j) (n := N) (A := A) (by omega) hA
        have hvv := m_val v' 4 (d := fun k => if k < 2 * N - 1 then dg b A N k else 0) (fun k hk => ⟨by
          show (if k < 2 * N - 1 then dg b A N k else 0) < 16
          split
          · exact dg_lt hb _ _ _
          · omega, p5 k (by omega)⟩) (mns b A N)
        rw [fv_18 (by omega)] at hvv
        simp only [hp, ↓reduceIte, demand_t, fails_f v' 1 h0', bd2S, bd1S, reduceCtorEq, hmv, hvv]
        refine ⟨_, _, rfl, h0', fun _ => ?_, hR'⟩
        show vp_updL f 0 (f_XMe_decimal u (nI A) (nI N)) 0 = _
        rw [pk_uLs, x_dec u hb hxb (by omega) hA]
