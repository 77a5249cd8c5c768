/-! decimal instructions: what they look at -/
theorem bIE (a b : Bool) : (bI a = bI b) = (a = b) := by cases a <;> cases b <;> simp [bI]
def xRest (u : XS) (c a1 a2 n1 n2 : Nat) : Int32 := if c = 248 then (if f_XMe_isPacked u (nI a2) (nI n2) = false then 7 else if c = 252 then (if f_XDe_startsWithZeros u (nI a1) (nI n2) = false then 7 else 0) else 0) else if f_XMe_isPacked u (nI a1) (nI n1) = false then 7 else (if f_XMe_isPacked u (nI a2) (nI n2) = false then 7 else if c = 252 then (if f_XDe_startsWithZeros u (nI a1) (nI n2) = false then 7 else 0) else 0)
theorem dec_front {u : XS} {v : MS} {c s i j a1 a2 at0 : Nat} (h : Dd u v c s i j a1 a2 at0) (hc : 248 ≤ c) (hc2 : c ≤ 253) : (f_MMo_looks v = some (msF v 13 6) ∧ f_XDe_faultOfFields u (nI (i + 1)) (nI (j + 1)) = 6) ∨ (f_MMo_looks v = some (msF v 13 5) ∧ f_XDe_faultOfFields u (nI (i + 1)) (nI (j + 1)) = 5) ∨ (i + 1 ≤ 8 ∧ j + 1 ≤ 8 ∧ (252 ≤ c → j < i) ∧ a1 + (i + 1) ≤ 1024 ∧ a2 + (j + 1) ≤ 1024 ∧ f_MMo_looks v = f_MMo_looksAtDigits v (nI (i + 1)) (nI (j + 1)) ∧ f_XDe_faultOfFields u (nI (i + 1)) (nI (j + 1)) = xRest u c a1 a2 (i + 1) (j + 1)) := by
  obtain ⟨hC, ⟨-, hs, hi, hj, h1, h2⟩, ⟨hlo, hhi, hsij⟩, ⟨hx4, hm8⟩, ⟨hx5, hm10⟩, ⟨hx6, hx7⟩, hA2, hA1, hA12, ⟨h13, h0, hat⟩, -⟩ := h
  obtain ⟨hx8, hm11⟩ := hA1 (by omega)
  obtain ⟨hx9, hm12⟩ := hA2 (by omega)
  have k1 : ((64 : Int32) ≤ nI c) = True := by rw [show ((64 : Int32) ≤ nI c) = (64 ≤ c) from le_nI (k := 64) (by decide) (by omega)]; exact eq_true (by omega)
  have k2 : ((128 : Int32) ≤ nI c) = True := by rw [show ((128 : Int32) ≤ nI c) = (128 ≤ c) from le_nI (k := 128) (by decide) (by omega)]; exact eq_true (by omega)
  have k3 : ((192 : Int32) ≤ nI c) = True := by rw [show ((192 : Int32) ≤ nI c) = (192 ≤ c) from le_nI (k := 192) (by decide) (by omega)]; exact eq_true (by omega)
  have k4 : ((240 : Int32) ≤ nI c) = True := by rw [show ((240 : Int32) ≤ nI c) = (240 ≤ c) from le_nI (k := 240) (by decide) (by omega)]; exact eq_true (by omega)
  have k5 : (nI c ≤ (243 : Int32)) = False := by rw [show (nI c ≤ (243 : Int32)) = (c ≤ 243) from le_nI (c := 243) (by omega) (by decide)]; exact eq_false (by omega)
  have k6 : (nI c ≤ (251 : Int32)) = (c ≤ 251) := le_nI (c := 251) (by omega) (by decide)
  have k7 : (nI c < (252 : Int32)) = (c < 252) := lt_nI (c := 252) (by omega) (by decide)
  have k8 : (nI c = (248 : Int32)) = (c = 248) := eq_nI (c := 248) (by omega) (by decide)
  have k9 : (nI c = (252 : Int32)) = (c = 252) := eq_nI (c := 252) (by omega) (by decide)
  have q1 : ((8 : Int32) < nI (i + 1)) = (8 < i + 1) := lt_nI (k := 8) (by decide) (by omega)
  have q2 : ((8 : Int32) < nI (j + 1)) = (8 < j + 1) := lt_nI (k := 8) (by decide) (by omega)
  have q3 : (nI (j + 1) ≤ nI i) = (j + 1 ≤ i) := le_nI (by omega) (by omega)
  have q4 : (nI (j + 1) ≤ (8 : Int32)) = (j + 1 ≤ 8) := le_nI (c := 8) (by omega) (by decide)
  have q5 : (nI (j + 1) < nI (i + 1)) = (j + 1 < i + 1) := lt_nI (by omega) (by omega)
  have l1 := fun w => lies_holds w u (nI a1) (n := nI (i + 1)) (N := i + 1) rfl (by omega)
  have l2 := fun w => lies_holds w u (nI a2) (n := nI (j + 1)) (N := j + 1) rfl (by omega)
  have w6 : ∀ z c, f_MMo_wrong (msF v 13 6) z c = some (msF v 13 6) := fun z c => wrong_n _ z c (by rw [mF_F, if_pos rfl]; decide)
  have eM : f_MMo_looks v = if 8 < i + 1 ∨ 8 < j + 1 ∨ ¬ c ≤ 251 ∧ ¬ j + 1 ≤ i then some (msF v 13 6) else if f_XMe_holds u (nI a1) (nI (i + 1)) = false ∨ f_XMe_holds u (nI a2) (nI (j + 1)) = false then some (msF v 13 5) else f_MMo_looksAtDigits v (nI (i + 1)) (nI (j + 1)) := by
    simp only [f_MMo_looks, f_MMo_low, f_MMo_high, nmE, jnE, bd1S, hm10, hm8, hlo, hhi, k1, k2, k3, k4, k5, k6, ↓reduceIte, nI_1, nI_pred, q1, q2, q3, bI0, reduceCtorEq]
    by_cases d1 : 8 < i + 1
    · rw [if_pos d1, if_pos (Or.inl d1)]
      simp +decide only [wrong_t v 6 h13, bd1S, mF_F, Nat.reduceEqDiff, ↓reduceIte, hm11, hm12, l1, l2, w6, ite_self]
    · rw [if_neg d1]
      by_cases d2 : 8 < j + 1
      · rw [if_pos d2, if_pos (Or.inr (Or.inl d2))]
        simp +decide only [wrong_t v 6 h13, bd1S, mF_F, Nat.reduceEqDiff, ↓reduceIte, hm11, hm12, l1, l2, w6, ite_self]
      · rw [if_neg d2]
        have tail : (bd1 (f_MMo_wrong v false 6) fun u_14 => bd1 (f_MMo_lies u_14 (mF u_14 11) (nI (i + 1))) fun z_15 => if z_15 = false then bd1 (f_MMo_wrong u_14 true 5) fun u_18 => if mF u_18 13 = 0 then bd1 (f_MMo_looksAtDigits u_18 (nI (i + 1)) (nI (j + 1))) fun u_21 => some u_21 else some u_18 else bd1 (f_MMo_lies u_14 (mF u_14 12) (nI (j + 1))) fun z_24 => if z_24 = false then bd1 (f_MMo_wrong u_14 true 5) fun u_18 => if mF u_18 13 = 0 then bd1 (f_MMo_looksAtDigits u_18 (nI (i + 1)) (nI (j + 1))) fun u_21 => some u_21 else some u_18 else bd1 (f_MMo_wrong u_14 false 5) fun u_18 => if mF u_18 13 = 0 then bd1 (f_MMo_looksAtDigits u_18 (nI (i + 1)) (nI (j + 1))) fun u_21 => some u_21 else some u_18) = if f_XMe_holds u (nI a1) (nI (i + 1)) = false ∨ f_XMe_holds u (nI a2) (nI (j + 1)) = false then some (msF v 13 5) else f_MMo_looksAtDigits v (nI (i + 1)) (nI (j + 1)) := by
          simp only [wrong_f, bd1S, hm11, hm12, l1, l2, wrong_t v 5 h13, h13, ↓reduceIte, mF_F, bd1_id]
          cases f_XMe_holds u (nI a1) (nI (i + 1)) with
          | false => simp +decide only [↓reduceIte, true_or]
          | true =>
            cases f_XMe_holds u (nI a2) (nI (j + 1)) with
            | false => simp +decide only [↓reduceIte, or_true]
            | true => simp +decide only [↓reduceIte, or_self]
        by_cases d3 : c ≤ 251
        · rw [if_pos d3, if_neg (show ¬ (8 < i + 1 ∨ 8 < j + 1 ∨ ¬ c ≤ 251 ∧ ¬ j + 1 ≤ i) by omega)]
          exact tail
        · rw [if_neg d3]
          by_cases d4 : j + 1 ≤ i
          · rw [if_pos d4, if_neg (show ¬ (8 < i + 1 ∨ 8 < j + 1 ∨ ¬ c ≤ 251 ∧ ¬ j + 1 ≤ i) by omega)]
            exact tail
          · rw [if_neg d4, if_pos (Or.inr (Or.inr ⟨d3, d4⟩))]
            simp +decide only [wrong_t v 6 h13, bd1S, mF_F, Nat.reduceEqDiff, ↓reduceIte, hm11, hm12, l1, l2, w6, ite_self]
  have eX : f_XDe_faultOfFields u (nI (i + 1)) (nI (j + 1)) = if 8 < i + 1 ∨ 8 < j + 1 ∨ ¬ c ≤ 251 ∧ ¬ j + 1 ≤ i then 6 else if f_XMe_holds u (nI a1) (nI (i + 1)) = false ∨ f_XMe_holds u (nI a2) (nI (j + 1)) = false then 5 else xRest u c a1 a2 (i + 1) (j + 1) := by
    simp only [f_XDe_faultOfFields, nmE, jnE, hx4, hx8, hx9, k7, k8, k9, q1, q4, q5, bI0, reduceCtorEq, ↓reduceIte]
    by_cases d1 : 8 < i + 1
    · rw [if_pos d1, if_pos (Or.inl d1)]
    · rw [if_neg d1]
      by_cases d2 : 8 < j + 1
      · rw [if_neg (show ¬ j + 1 ≤ 8 by omega), if_pos (Or.inr (Or.inl d2))]
      · rw [if_pos (show j + 1 ≤ 8 by omega)]
        have tail : (if f_XMe_holds u (nI a1) (nI (i + 1)) = false then (5 : Int32) else if f_XMe_holds u (nI a2) (nI (j + 1)) = false then 5 else xRest u c a1 a2 (i + 1) (j + 1)) = if f_XMe_holds u (nI a1) (nI (i + 1)) = false ∨ f_XMe_holds u (nI a2) (nI (j + 1)) = false then 5 else xRest u c a1 a2 (i + 1) (j + 1) := by
          cases f_XMe_holds u (nI a1) (nI (i + 1)) with
          | false => simp +decide only [↓reduceIte, true_or]
          | true =>
            cases f_XMe_holds u (nI a2) (nI (j + 1)) with
            | false => simp +decide only [↓reduceIte, or_true]
            | true => simp +decide only [↓reduceIte, or_self]
        by_cases d3 : c < 252
        · rw [if_pos d3, if_neg (show ¬ (8 < i + 1 ∨ 8 < j + 1 ∨ ¬ c ≤ 251 ∧ ¬ j + 1 ≤ i) by omega)]
          exact tail
        · rw [if_neg d3]
          by_cases d4 : j + 1 < i + 1
          · rw [if_pos d4, if_neg (show ¬ (8 < i + 1 ∨ 8 < j + 1 ∨ ¬ c ≤ 251 ∧ ¬ j + 1 ≤ i) by omega)]
            exact tail
          · rw [if_neg d4, if_pos (Or.inr (Or.inr ⟨by omega, by omega⟩))]
  rw [eM, eX]
  by_cases d : 8 < i + 1 ∨ 8 < j + 1 ∨ ¬ c ≤ 251 ∧ ¬ j + 1 ≤ i
  · rw [if_pos d, if_pos d]; exact Or.inl ⟨rfl, rfl⟩
  · rw [if_neg d, if_neg d]
    by_cases e : f_XMe_holds u (nI a1) (nI (i + 1)) = false ∨ f_XMe_holds u (nI a2) (nI (j + 1)) = false
    · rw [if_pos e, if_pos e]; exact Or.inr (Or.inl ⟨rfl, rfl⟩)
    · rw [if_neg e, if_neg e]
      have e1 : f_XMe_holds u (nI a1) (nI (i + 1)) = true := by
        cases q : f_XMe_holds u (nI a1) (nI (i + 1)) with
        | false => exact absurd (Or.inl q) e
        | true => rfl
      have e2 : f_XMe_holds u (nI a2) (nI (j + 1)) = true := by
        cases q : f_XMe_holds u (nI a2) (nI (j + 1)) with
        | false => exact absurd (Or.inr q) e
        | true => rfl
      obtain ⟨A, hA, hA3⟩ := (holds_iff u (nI a1) (n := nI (i + 1)) (N := i + 1) rfl (by omega)).mp e1
      obtain ⟨B, hB, hB3⟩ := (holds_iff u (nI a2) (n := nI (j + 1)) (N := j + 1) rfl (by omega)).mp e2
      have hA' : a1 = A := (nI_eq (by omega) (by omega)).mp hA
      have hB' : a2 = B := (nI_eq (by omega) (by omega)).mp hB
      exact Or.inr (Or.inr ⟨by omega, by omega, by omega, by omega, by omega, rfl, rfl⟩)
def tailD (x1 x2 : Int32) : MS → Option MS := fun u_9 => if (mF u_9 8) = (253 : Int32) then if (mF u_9 13) = (0 : Int32) then bd1 (f_MMo_isZero 5 u_9) (fun (z_13 : Bool) => if (bI z_13) = (0 : Int32) then bd2 (f_MMo_quotient u_9 (((2 : Int32) * (x1 - x2)) - (1 : Int32))) (fun (z_17 : Bool) (u_16 : MS) => if (bI z_17) = (0 : Int32) then bd1 (f_MMo_wrong u_16 true (11 : Int32)) (fun (u_20 : MS) => some u_20) else bd1 (f_MMo_wrong u_16 false (11 : Int32)) (fun (u_19 : MS) => some u_19)) else bd1 (f_MMo_wrong u_9 true (11 : Int32)) (fun (u_15 : MS) => some u_15)) else some u_9 else some u_9
theorem lad_eq (u0 : MS) (x1 x2 : Int32) : f_MMo_looksAtDigits u0 x1 x2 = (fun (K_3 : Bool → MS → Option MS) => if mF u0 8 = (248 : Int32) then K_3 true u0 else bd2 (f_MMo_packs 4 u0 (mF u0 11) x1) (fun (z_39 : Bool) (u_38 : MS) => if bI z_39 = (0 : Int32) then K_3 false u_38 else K_3 true u_38)) (fun (z_1 : Bool) (u_2 : MS) => bd2 (f_MMo_packs 5 u_2 (mF u_2 12) x2) (fun (z_5 : Bool) (u_4 : MS) => (fun (K_7 : Bool → Option MS) => if bI z_1 = (0 : Int32) then K_7 true else if bI z_5 = (0 : Int32) then K_7 true else K_7 false) (fun (z_6 : Bool) => bd1 (f_MMo_wrong u_4 z_6 (7 : Int32)) (fun (u_8 : MS) => lpN fuelM (g_MMo_looksAtDigits_70 x2 (tailD x1 x2)) (fun _ _ => none) (0 : Int32) u_8)))) := by
  simp only [f_MMo_looksAtDigits, jnE, tailD]
  rfl
theorem m_ldL {b : Nat → Nat} (hb : ∀ j, b j < 256) {a1 n2 : Nat} (hA : a1 + n2 ≤ 1024) (K : MS → Option MS) : ∀ (d t fuel : Nat) (w : MS), t + d = n2 → d < fuel → (∀ j, mA w 1 j = nI (b j)) → mF w 8 = 252 → mF w 11 = nI a1 → (mF w 13 = 0 ∨ mF w 13 = 7) → ∃ w', lpN fuel (g_MMo_looksAtDigits_70 (nI n2) K) (fun _ _ => none) (nI t) w = K w' ∧ (∀ f, f ≠ 13 → mF w' f = mF w f) ∧ mA w' = mA w ∧ ((mF w 13 = 0 ∧ (∀ k, t ≤ k → k < n2 → b (a1 + k) = 0) ∧ w' = w) ∨ (¬ (mF w 13 = 0 ∧ ∀ k, t ≤ k → k < n2 → b (a1 + k) = 0) ∧ mF w' 13 = 7)) := by
  intro d
  induction d with
  | zero =>
    intro t fuel w ht hf hm h8 h11 h13
    obtain ⟨f, rfl⟩ : ∃ f, fuel = f + 1 := ⟨fuel - 1, by omega⟩
    refine ⟨w, ?_, fun _ _ => rfl, rfl, ?_⟩
    · show g_MMo_looksAtDigits_70 (nI n2) K _ (nI t) w = _
      simp only [g_MMo_looksAtDigits_70]
      rw [if_pos (nI_le (by omega) (by omega))]
    · rcases h13 with h | h
      · exact Or.inl ⟨h, fun k h1 h2 => by omega, rfl⟩
      · exact Or.inr ⟨fun h2 => absurd (h.symm.trans h2.1) (by decide), h⟩
  | succ d ih =>
    intro t fuel w ht hf hm h8 h11 h13
    obtain ⟨f, rfl⟩ : ∃ f, fuel = f + 1 := ⟨fuel - 1, by omega⟩
    have hbt := hb (a1 + t)
    have hpos : a1 + t < 1024 := by omega
    have q : (nI (b (a1 + t)) = (0 : Int32)) = (b (a1 + t) = 0) := eq_nI (c := 0) (by omega) (by decide)
    have eL : lpN (f + 1) (g_MMo_looksAtDigits_70 (nI n2) K) (fun _ _ => none) (nI t) w = if b (a1 + t) = 0 then lpN f (g_MMo_looksAtDigits_70 (nI n2) K) (fun _ _ => none) (nI (t + 1)) w else bd1 (f_MMo_wrong w true 7) (fun u_29 => lpN f (g_MMo_looksAtDigits_70 (nI n2) K) (fun _ _ => none) (nI (t + 1)) u_29) := by
      show g_MMo_looksAtDigits_70 (nI n2) K _ (nI t) w = _
      simp only [g_MMo_looksAtDigits_70, if_neg (nI_ge (show t < n2 by omega) (show n2 < 2 ^ 31 by omega)), h8, h11, ↓reduceIte, nI_add, ckIN (n := 1024) (A := a1 + t) rfl hpos (by decide), nI_clamp (show a1 + t < 2 ^ 31 by omega), hm, q, jnE, nmE, wrong_f, bd1S, nI_1]
    by_cases c : b (a1 + t) = 0
    · obtain ⟨w', e1, e2, e3, e4⟩ := ih (t + 1) f w (by omega) (by omega) hm h8 h11 h13
      refine ⟨w', by rw [eL, if_pos c, e1], e2, e3, ?_⟩
      rcases e4 with ⟨r1, r2, r3⟩ | ⟨r1, r2⟩
      · refine Or.inl ⟨r1, fun k k1 k2 => ?_, r3⟩
        by_cases ck : k = t
        · rw [ck]; exact c
        · exact r2 k (by omega) k2
      · exact Or.inr ⟨fun h => r1 ⟨h.1, fun k k1 k2 => h.2 k (by omega) k2⟩, r2⟩
    · obtain ⟨w1, g1, g2, g3, g4⟩ : ∃ w1, f_MMo_wrong w true 7 = some w1 ∧ (∀ f, f ≠ 13 → mF w1 f = mF w f) ∧ mA w1 = mA w ∧ mF w1 13 = 7 := by
        rcases h13 with h | h
        · exact ⟨msF w 13 7, wrong_t w 7 h, fun f hf => by rw [mF_F, if_neg hf], rfl, rfl⟩
        · exact ⟨w, wrong_n w true 7 (by rw [h]; decide), fun _ _ => rfl, rfl, h⟩
      obtain ⟨w', e1, e2, e3, e4⟩ := ih (t + 1) f w1 (by omega) (by omega) (fun j => by rw [g3]; exact hm j) (by rw [g2 8 (by decide)]; exact h8) (by rw [g2 11 (by decide)]; exact h11) (Or.inr g4)
      refine ⟨w', by rw [eL, if_neg c, g1, bd1S, e1], fun f hf => (e2 f hf).trans (g2 f hf), e3.trans g3, Or.inr ⟨fun h => c (h.2 t (Nat.le_refl _) (by omega)), ?_⟩⟩
      rcases e4 with ⟨r1, -⟩ | ⟨-, r2⟩
      · exact absurd (g4.symm.trans r1) (by decide)
      · exact r2
theorem x_zerosL (u : XS) {b : Nat → Nat} (hb : ∀ j, b j < 256) (hxb : ∀ j, xM u j = nI (b j)) {a1 n2 : Nat} (hA : a1 + n2 ≤ 1024) (K : Int32 → Bool) : ∀ (d t fuel o : Nat), t + d = n2 → d < fuel → o < 256 → ∃ o', lpN fuel (g_XDe_startsWithZeros_5 (nI n2) K u (nI a1)) (fun _ _ => default) (nI o) (nI t) = K (nI o') ∧ o' < 256 ∧ (o' = 0 ↔ o = 0 ∧ ∀ k, t ≤ k → k < n2 → b (a1 + k) = 0) := by
  intro d
  induction d with
  | zero =>
    intro t fuel o ht hf ho
    obtain ⟨f, rfl⟩ : ∃ f, fuel = f + 1 := ⟨fuel - 1, by omega⟩
    refine ⟨o, ?_, ho, fun h => ⟨h, fun k k1 k2 => by omega⟩, fun h => h.1⟩
    show g_XDe_startsWithZeros_5 (nI n2) K u (nI a1) _ (nI o) (nI t) = _
    simp only [g_XDe_startsWithZeros_5]
    rw [if_pos (nI_le (by omega) (by omega))]
  | succ d ih =>
    intro t fuel o ht hf ho
    obtain ⟨f, rfl⟩ : ∃ f, fuel = f + 1 := ⟨fuel - 1, by omega⟩
    have hbt := hb (a1 + t)
    obtain ⟨o', e1, e2, e3⟩ := ih (t + 1) f (o ||| b (a1 + t)) (by omega) (by omega) (Nat.or_lt_two_pow (n := 8) ho hbt)
    refine ⟨o', ?_, e2, ?_⟩
    · rw [← e1]
      show g_XDe_startsWithZeros_5 (nI n2) K u (nI a1) _ (nI o) (nI t) = _
      simp only [g_XDe_startsWithZeros_5, if_neg (nI_ge (show t < n2 by omega) (show n2 < 2 ^ 31 by omega)), nmE, nI_add, getN u (A := a1 + t) rfl (show a1 + t < 1024 by omega), hxb, nx_or, nI_1]
    · rw [e3, Nat.or_eq_zero_iff]
      constructor
      · rintro ⟨⟨h1, h2⟩, h3⟩
        refine ⟨h1, fun k k1 k2 => ?_⟩
        by_cases ck : k = t
        · rw [ck]; exact h2
        · exact h3 k (by omega) k2
      · rintro ⟨h1, h2⟩
        exact ⟨⟨h1, h2 t (Nat.le_refl _) (by omega)⟩, fun k k1 k2 => h2 k (by omega) k2⟩
theorem x_zeros (u : XS) {b : Nat → Nat} (hb : ∀ j, b j < 256) (hxb : ∀ j, xM u j = nI (b j)) {a1 n2 : Nat} (hA : a1 + n2 ≤ 1024) : f_XDe_startsWithZeros u (nI a1) (nI n2) = true ↔ ∀ k, k < n2 → b (a1 + k) = 0 := by
  have fu : n2 < (Int32.toInt (nI n2) - Int32.toInt (0 : Int32)).toNat + 1 := by rw [nI_toInt (by omega), show (0 : Int32).toInt = 0 from rfl]; omega
  obtain ⟨o, e1, e2, e3⟩ := x_zerosL u hb hxb hA (fun (x_1 : Int32) => if x_1 = (0 : Int32) then true else false) n2 0 _ 0 (by omega) fu (by omega)
  have q : (nI o = (0 : Int32)) = (o = 0) := eq_nI (c := 0) (by omega) (by decide)
  have e : f_XDe_startsWithZeros u (nI a1) (nI n2) = if o = 0 then true else false := by
    rw [show f_XDe_startsWithZeros u (nI a1) (nI n2) = _ from e1]
    simp only [q]
  rw [e]
  by_cases c : o = 0
  · rw [if_pos c]
    exact ⟨fun _ k hk => (e3.mp c).2 k (Nat.zero_le _) hk, fun _ => rfl⟩
  · rw [if_neg c]
    exact ⟨fun h => (by cases h), fun h => absurd (e3.mpr ⟨rfl, fun k _ hk => h k hk⟩) c⟩
theorem dec_data {u : XS} {v : MS} {b : Nat → Nat} (hb : ∀ j, b j < 256) (hxb : ∀ j, xM u j = nI (b j)) (hmb : ∀ j, mA v 1 j = nI (b j)) {c a1 a2 n1 n2 : Nat} (hc : 248 ≤ c) (hc2 : c ≤ 253) (h1 : 1 ≤ n1) (h2 : 1 ≤ n2) (h18 : n1 ≤ 8) (h28 : n2 ≤ 8) (hlt : 252 ≤ c → n2 < n1) (hA1 : a1 + n1 ≤ 1024) (hA2 : a2 + n2 ≤ 1024) (h8 : mF v 8 = nI c) (h11 : mF v 11 = nI a1) (h12 : mF v 12 = nI a2) (h13 : mF v 13 = 0) : ∃ v1, f_MMo_looksAtDigits v (nI n1) (nI n2) = tailD (nI n1) (nI n2) v1 ∧ (∀ f, f ≠ 13 → mF v1 f = mF v f) ∧ mA v1 1 = mA v 1 ∧ mA v1 2 = mA v 2 ∧ ((mF v1 13 = 7 ∧ xRest u c a1 a2 n1 n2 = 7) ∨ (mF v1 = mF v ∧ xRest u c a1 a2 n1 n2 = 0 ∧ (c ≠ 248 → Gd b a1 n1 ∧ Dig v1 4 (fv b a1 n1)) ∧ Gd b a2 n2 ∧ Dig v1 5 (fv b a2 n2) ∧ (c = 252 → ∀ k, k < n2 → b (a1 + k) = 0))) := by
  have k8 : (nI c = (248 : Int32)) = (c = 248) := eq_nI (c := 248) (by omega) (by decide)
  have k9 : (nI c = (252 : Int32)) = (c = 252) := eq_nI (c := 252) (by omega) (by decide)
  have hx1 := x_packed u hb hxb (n := n1) (A := a1) h1 hA1
  have hx2 := x_packed u hb hxb (n := n2) (A := a2) h2 hA2
  -- the first field
  obtain ⟨z1, w1, s1, s2, s3, s4, s5⟩ : ∃ z1 w1, (∀ K_3 : Bool → MS → Option MS, (if mF v 8 = (248 : Int32) then K_3 true v else bd2 (f_MMo_packs 4 v (mF v 11) (nI n1)) (fun (z_39 : Bool) (u_38 : MS) => if bI z_39 = (0 : Int32) then K_3 false u_38 else K_3 true u_38)) = K_3 z1 w1) ∧ mF w1 = mF v ∧ (∀ q, q ≠ 4 → mA w1 q = mA v q) ∧ (z1 = true ↔ c = 248 ∨ Gd b a1 n1) ∧ (c ≠ 248 → ∀ k, k < 32 → mA w1 4 k = nI (if k < 2 * n1 - 1 then dg b a1 n1 k else 0)) := by
    by_cases c0 : c = 248
    · refine ⟨true, v, fun K => ?_, rfl, fun _ _ => rfl, ⟨fun _ => Or.inl c0, fun _ => rfl⟩, fun h => absurd c0 h⟩
      simp only [h8, k8, if_pos c0]
    · obtain ⟨z, v', p1, p2, p3, p4, p5⟩ := m_packs hb (n := n1) (A := a1) (by omega) hA1 (p := 4) (by decide) v hmb
      refine ⟨z, v', fun K => ?_, p3, p4, ⟨fun h => Or.inr (p2.mp h), fun h => p2.mpr (h.resolve_left c0)⟩, fun _ => p5⟩
      simp only [h8, k8, if_neg c0, h11, p1, bd2S, bI0]
      cases z <;> simp only [↓reduceIte, reduceCtorEq]
  obtain ⟨z2, w2, p1, p2, p3, p4, p5⟩ := m_packs hb (n := n2) (A := a2) (by omega) hA2 (p := 5) (by decide) w1 (fun j => by rw [s3 1 (by decide)]; exact hmb j)
  have f2 : mF w2 = mF v := p3.trans s2
  have h13' : mF w2 13 = 0 := by rw [f2]; exact h13
  have eM : f_MMo_looksAtDigits v (nI n1) (nI n2) = bd1 (f_MMo_wrong w2 (!(z1 && z2)) 7) (fun (u_8 : MS) => lpN fuelM (g_MMo_looksAtDigits_70 (nI n2) (tailD (nI n1) (nI n2))) (fun _ _ => none) (nI 0) u_8) := by
    rw [lad_eq]
    refine Eq.trans (s1 (fun (z_1 : Bool) (u_2 : MS) => bd2 (f_MMo_packs 5 u_2 (mF u_2 12) (nI n2)) (fun (z_5 : Bool) (u_4 : MS) => (fun (K_7 : Bool → Option MS) => if bI z_1 = (0 : Int32) then K_7 true else if bI z_5 = (0 : Int32) then K_7 true else K_7 false) (fun (z_6 : Bool) => bd1 (f_MMo_wrong u_4 z_6 (7 : Int32)) (fun (u_8 : MS) => lpN fuelM (g_MMo_looksAtDigits_70 (nI n2) (tailD (nI n1) (nI n2))) (fun _ _ => none) (0 : Int32) u_8))))) ?_
    simp only [s2, h12, p1, bd2S, bI0]
    cases z1 <;> cases z2 <;> rfl
  have m1 : mA w2 1 = mA v 1 := (p4 1 (by decide)).trans (s3 1 (by decide))
  have m2 : mA w2 2 = mA v 2 := (p4 2 (by decide)).trans (s3 2 (by decide))
  obtain ⟨w3, g1, g2, g3, g4⟩ : ∃ w3, f_MMo_wrong w2 (!(z1 && z2)) 7 = some w3 ∧ (∀ f, f ≠ 13 → mF w3 f = mF v f) ∧ mA w3 = mA w2 ∧ ((z1 && z2) = true ∧ w3 = w2 ∨ (z1 && z2) = false ∧ mF w3 13 = 7) := by
    cases hz : (z1 && z2) with
    | true => exact ⟨w2, wrong_f _ _, fun f _ => by rw [f2], rfl, Or.inl ⟨rfl, rfl⟩⟩
    | false => exact ⟨msF w2 13 7, wrong_t _ _ h13', fun f hf => by rw [mF_F, if_neg hf, f2], rfl, Or.inr ⟨rfl, rfl⟩⟩
  rw [g1, bd1S] at eM
  have bad : (z1 && z2) = false → xRest u c a1 a2 n1 n2 = 7 := by
    intro hz
    unfold xRest
    by_cases c0 : c = 248
    · rw [if_pos c0]
      have : z1 = true := s4.mpr (Or.inl c0)
      rw [this, Bool.true_and] at hz
      rw [if_pos]
      cases q : f_XMe_isPacked u (nI a2) (nI n2) with
      | false => rfl
      | true => rw [p2.mpr (hx2.mp q)] at hz; cases hz
    · rw [if_neg c0]
      cases q1 : f_XMe_isPacked u (nI a1) (nI n1) with
      | false => rw [if_pos rfl]
      | true =>
        rw [s4.mpr (Or.inr (hx1.mp q1)), Bool.true_and] at hz
        rw [if_neg (by decide), if_pos]
        cases q : f_XMe_isPacked u (nI a2) (nI n2) with
        | false => rfl
        | true => rw [p2.mpr (hx2.mp q)] at hz; cases hz
  have good : (z1 && z2) = true → xRest u c a1 a2 n1 n2 = if c = 252 then (if f_XDe_startsWithZeros u (nI a1) (nI n2) = false then 7 else 0) else 0 := by
    intro hz
    rw [Bool.and_eq_true] at hz
    have e2 : f_XMe_isPacked u (nI a2) (nI n2) = true := hx2.mpr (p2.mp hz.2)
    unfold xRest
    rw [e2]
    rcases s4.mp hz.1 with h | h
    · rw [if_pos h, if_neg (by decide)]
    · rw [hx1.mpr h]
      simp only [reduceCtorEq, ↓reduceIte, ite_self]
  have dg1 : (z1 && z2) = true → (c ≠ 248 → Gd b a1 n1 ∧ Dig w2 4 (fv b a1 n1)) ∧ Gd b a2 n2 ∧ Dig w2 5 (fv b a2 n2) := by
    intro hz
    rw [Bool.and_eq_true] at hz
    have g2 := p2.mp hz.2
    refine ⟨fun h => ?_, g2, fun k hk => by rw [g2.dgt]; exact p5 k hk⟩
    have g1 := (s4.mp hz.1).resolve_left h
    exact ⟨g1, fun k hk => by rw [g1.dgt, p4 4 (by decide)]; exact s5 h k hk⟩
  by_cases c2 : c = 252
  · obtain ⟨w4, e1, e2, e3, e4⟩ := m_ldL hb (a1 := a1) (n2 := n2) (by have := hlt (by omega); omega) (tailD (nI n1) (nI n2)) n2 0 fuelM w3 (by omega) (by unfold fuelM; omega) (fun j => by rw [g3, m1]; exact hmb j) (by rw [g2 8 (by decide), h8, c2]; rfl) (by rw [g2 11 (by decide)]; exact h11) (by
      rcases g4 with ⟨-, h⟩ | ⟨-, h⟩
      · rw [h]; exact Or.inl h13'
      · exact Or.inr h)
    refine ⟨w4, eM.trans e1, fun f hf => (e2 f hf).trans (g2 f hf), by rw [e3, g3]; exact m1, by rw [e3, g3]; exact m2, ?_⟩
    have hz := x_zeros u hb hxb (a1 := a1) (n2 := n2) (by have := hlt (by omega); omega)
    rcases g4 with ⟨gz, gw⟩ | ⟨gz, gf⟩
    · subst gw
      rcases e4 with ⟨r1, r2, r3⟩ | ⟨r1, r2⟩
      · subst r3
        refine Or.inr ⟨f2, ?_, (dg1 gz).1, (dg1 gz).2.1, (dg1 gz).2.2, fun _ k hk => r2 k (Nat.zero_le _) hk⟩
        rw [good gz, if_pos c2, hz.mpr (fun k hk => r2 k (Nat.zero_le _) hk)]
        rfl
      · refine Or.inl ⟨r2, ?_⟩
        rw [good gz, if_pos c2, if_pos]
        cases q : f_XDe_startsWithZeros u (nI a1) (nI n2) with
        | false => rfl
        | true => exact absurd ⟨h13', fun k _ hk => hz.mp q k hk⟩ r1
    · refine Or.inl ⟨?_, bad gz⟩
      rcases e4 with ⟨r1, -⟩ | ⟨-, r2⟩
      · exact absurd (gf.symm.trans r1) (by decide)
      · exact r2
  · have e8 : mF w3 8 = nI c := by rw [g2 8 (by decide)]; exact h8
    have e1 : lpN fuelM (g_MMo_looksAtDigits_70 (nI n2) (tailD (nI n1) (nI n2))) (fun _ _ => none) (nI 0) w3 = tailD (nI n1) (nI n2) w3 := by
      obtain ⟨f, hf⟩ : ∃ f, fuelM = f + 1 := ⟨1099, rfl⟩
      rw [hf]
      show g_MMo_looksAtDigits_70 (nI n2) (tailD (nI n1) (nI n2)) _ (nI 0) w3 = _
      simp only [g_MMo_looksAtDigits_70, e8, k9, if_neg c2, ite_self]
    refine ⟨w3, eM.trans e1, g2, by rw [g3]; exact m1, by rw [g3]; exact m2, ?_⟩
    rcases g4 with ⟨gz, gw⟩ | ⟨gz, gf⟩
    · subst gw
      refine Or.inr ⟨f2, ?_, (dg1 gz).1, (dg1 gz).2.1, (dg1 gz).2.2, fun h => absurd h c2⟩
      rw [good gz, if_neg c2]
    · exact Or.inl ⟨gf, bad gz⟩
/-! ZAP, CP, AP, SP, MP, DP -/
theorem Sim.of {p : Int32 × XS} {r : Option MS} {u : XS} {v v' : MS} (h : Sim p r u v') (hf : mF v' = mF v) : Sim p r u v := by
  obtain ⟨h1, v2, e1, e2, e3, e4, e5, e6⟩ := h
  exact ⟨h1, v2, e1, e2, e3, by rw [e4, hf], by rw [e5, hf], e6⟩
theorem valD_dgt (N : Nat) : ∀ m, valD (dgt N) m = N % 10 ^ m := by
  intro m
  induction m with
  | zero => simp [valD, Nat.mod_one]
  | succ m ih => rw [valD, ih, md_s, Nat.mul_comm]
theorem m_value {v : MS} {p N : Nat} (h : Dig v p N) (hN : N < 1000000000000000000) (z : Bool) : f_MMo_value p v z = some (if z = false then lN N else -lN N) := by
  have e := m_val v p (d := dgt N) (fun k hk => ⟨by have := dgt_lt N k; omega, h k (by omega)⟩) z
  rw [valD_dgt, Nat.mod_eq_of_lt (by omega)] at e
  exact e
theorem dec_case {u : XS} {v : MS} {c s i j a1 a2 at0 : Nat} (h : Dd u v c s i j a1 a2 at0) (hc : 248 ≤ c) (hc2 : c ≤ 252) (hp : f_XPr_perform u = f_XDe_calculate u) (hs : ∀ (b : Nat → Nat) (w : MS) (n : Nat), (∀ j, b j < 256) → (∀ j, xM u j = nI (b j)) → (∀ j, mA w 1 j = nI (b j)) → i + 1 ≤ 8 → j + 1 ≤ 8 → (252 ≤ c → j < i) → a1 + (i + 1) ≤ 1024 → a2 + (j + 1) ≤ 1024 → f_XDe_faultOfFields u (nI (i + 1)) (nI (j + 1)) = 0 → (c ≠ 248 → Gd b a1 (i + 1) ∧ Dig w 4 (fv b a1 (i + 1))) → Gd b a2 (j + 1) → Dig w 5 (fv b a2 (j + 1)) → (c = 252 → ∀ k, k < j + 1 → b (a1 + k) = 0) → Core u w → mF w 13 = 0 → mF w 8 = nI c → mF w 10 = nI s → mF w 11 = nI a1 → mF w 12 = nI a2 → Sim (f_XDe_calculate u) (f_MMo_digits w) u w) : Out (f_XPr_perform u) v := by
  have hDd := h
  have hfr := dec_front h hc (by omega)
  obtain ⟨hC, ⟨-, hs', hi, hj, h1, h2⟩, ⟨hlo, hhi, hsij⟩, ⟨hx4, hm8⟩, ⟨hx5, hm10⟩, ⟨hx6, hx7⟩, hA2, hA1, hA12, ⟨h13, h0, hat⟩, -⟩ := h
  obtain ⟨hx8, hm11⟩ := hA1 (by omega)
  obtain ⟨hx9, hm12⟩ := hA2 (by omega)
  obtain ⟨b, hb, hxb, hmb⟩ := hC.nb
  have eF : ∀ f, ¬ f = 0 → f_XDe_faultOfFields u (nI (i + 1)) (nI (j + 1)) = f → f_XDe_calculate u = (f, u) := fun f hf hq => by
    simp only [f_XDe_calculate, nmE, hx6, hx7, nI_1, hq, if_neg hf]
  rw [hp]
  rcases hfr with ⟨g1, g2⟩ | ⟨g1, g2⟩ | ⟨g1, g2, g3, g4, g5, g6, g7⟩
  · rw [eF 6 (by decide) g2]
    exact Out.no g1 rfl (by unfold nok; decide) hC
  · rw [eF 5 (by decide) g2]
    exact Out.no g1 rfl (by unfold nok; decide) hC
  · obtain ⟨v1, e1, e2, e3, e4, e5⟩ := dec_data hb hxb hmb hc (by omega) (by omega) (by omega) g1 g2 (fun h => by have := g3 h; omega) g4 g5 hm8 hm11 hm12 h13 (n1 := i + 1) (n2 := j + 1) (u := u) (v := v)
    have m8 : mF v1 8 = nI c := by rw [e2 8 (by decide)]; exact hm8
    have k : ¬ nI c = (253 : Int32) := by
      rw [show (nI c = (253 : Int32)) = (c = 253) from eq_nI (c := 253) (by omega) (by decide)]
      omega
    have et : tailD (nI (i + 1)) (nI (j + 1)) v1 = some v1 := by simp only [tailD, m8, if_neg k]
    rw [et] at e1
    rw [← g6] at e1
    rw [← g7] at e5
    rcases e5 with ⟨f1, f2⟩ | ⟨f1, f2, f3, f4, f5, f6⟩
    · rw [eF 7 (by decide) f2]
      refine ⟨v1, e1, e2 0 (by decide), Or.inr ⟨f1, by show nok 7; unfold nok; decide, ?_, e2 2 (by decide)⟩⟩
      unfold Core
      rw [e3, e4, e2 1 (by decide), e2 3 (by decide), e2 4 (by decide), e2 5 (by decide), e2 6 (by decide), e2 7 (by decide)]
      exact hC
    · obtain ⟨n, hn, hnx, hbh, hact⟩ := (hDd.alike e3 e4 f1).act
      have hact := hact.2.2.2.2.2 (by omega)
      refine Out.sim (v1 := v1) (n := n) (u := u) e1 (by rw [f1]) (by rw [f1]; exact h13) ?_ hnx hn
      rw [hact]
      exact hs b (msF v1 2 (nI n)) n hb hxb (fun j => by rw [mA_F, e3]; exact hmb j) g1 g2 g3 g4 g5 f2 f3 f4 f5 f6 ((hC.same rfl rfl rfl e3 e4 f1).mn _) (by rw [mF_F, if_neg (by decide), f1]; exact h13) (by rw [mF_F, if_neg (by decide), f1]; exact hm8) (by rw [mF_F, if_neg (by decide), f1]; exact hm10) (by rw [mF_F, if_neg (by decide), f1]; exact hm11) (by rw [mF_F, if_neg (by decide), f1]; exact hm12)
theorem fv_18' {b : Nat → Nat} {A n : Nat} (h : Gd b A n) (hn : n ≤ 8) : fv b A n < 1000000000000000 := by
  have h1 := h.lt
  have h2 : 10 ^ (2 * n - 1) ≤ 10 ^ 15 := p10_le (by omega)
  omega
theorem op_248 {u : XS} {v : MS} {s i j a1 a2 at0 : Nat} (h : Dd u v 248 s i j a1 a2 at0) : Out (f_XPr_perform u) v := by
  have hDd := h
  obtain ⟨hC, ⟨-, hs, hi, hj, h1, h2⟩, ⟨hlo, hhi, hsij⟩, ⟨hx4, hm8⟩, ⟨hx5, hm10⟩, ⟨hx6, hx7⟩, hA2, hA1, hA12, ⟨h13, h0, hat⟩, -⟩ := h
  obtain ⟨hx8, hm11⟩ := hA1 (by omega)
  obtain ⟨hx9, hm12⟩ := hA2 (by omega)
  have hx4 : xF u 4 = 248 := hx4
  refine dec_case hDd (by decide) (by decide) (by simp +decide only [f_XPr_perform, prI, nmE, jnE, hx4, ↓reduceIte]) (fun b w n hb hxb hmb g1 g2 g3 g4 g5 hF k1 k2 k3 k4 hC h13 w8 w10 w11 w12 => ?_)
  have w8 : mF w 8 = 248 := w8
  have x2 := x_dec u hb hxb (n := j + 1) (A := a2) (by omega) g5
  have m2 := m_minus w hb hmb (n := j + 1) (A := a2) (by omega) g5
  have b2 := fv_18' k2 g2
  obtain ⟨w', e1, e2, e3, e4⟩ := m_copyL (fun (u_10 : MS) => f_MMo_decimal u_10 (nI (i + 1)) (mns b a2 (j + 1))) 32 0 fuelM w (by omega) (by unfold fuelM; omega) (fun k hk => by omega)
  have eX : f_XDe_calculate u = f_XDe_putSum u (nI a1) (nI (i + 1)) (if mns b a2 (j + 1) = false then lN (fv b a2 (j + 1)) else -lN (fv b a2 (j + 1))) := by
    simp +decide only [f_XDe_calculate, nmE, prI, hx4, hx6, hx7, hx8, hx9, nI_1, hF, ↓reduceIte, x2]
  have eM : f_MMo_digits w = f_MMo_decimal w' (nI (i + 1)) (mns b a2 (j + 1)) := by
    simp +decide only [f_MMo_digits, f_MMo_low, f_MMo_high, nmE, jnE, bd1S, bd1_id, w8, w10, w12, hlo, hhi, nI_1, ↓reduceIte, m2]
    exact e1
  rw [eX, eM]
  exact (put_sum (hC.same rfl rfl rfl (e3 1 (by decide)) (e3 2 (by decide)) e2) (by rw [e2]; exact h13) (by rw [e2]; exact w11) g4 (by omega) g1 (by omega) (fun k hk => by rw [e4 k hk]; exact k3 k hk) _ rfl).of e2
theorem op_249 {u : XS} {v : MS} {s i j a1 a2 at0 : Nat} (h : Dd u v 249 s i j a1 a2 at0) : Out (f_XPr_perform u) v := by
  have hDd := h
  obtain ⟨hC, ⟨-, hs, hi, hj, h1, h2⟩, ⟨hlo, hhi, hsij⟩, ⟨hx4, hm8⟩, ⟨hx5, hm10⟩, ⟨hx6, hx7⟩, hA2, hA1, hA12, ⟨h13, h0, hat⟩, -⟩ := h
  obtain ⟨hx8, hm11⟩ := hA1 (by omega)
  obtain ⟨hx9, hm12⟩ := hA2 (by omega)
  have hx4 : xF u 4 = 249 := hx4
  refine dec_case hDd (by decide) (by decide) (by simp +decide only [f_XPr_perform, prI, nmE, jnE, hx4, ↓reduceIte]) (fun b w n hb hxb hmb g1 g2 g3 g4 g5 hF k1 k2 k3 k4 hC h13 w8 w10 w11 w12 => ?_)
  have w8 : mF w 8 = 249 := w8
  obtain ⟨k1, k1'⟩ := k1 (by decide)
  have x1 := x_dec u hb hxb (n := i + 1) (A := a1) (by omega) g4
  have x2 := x_dec u hb hxb (n := j + 1) (A := a2) (by omega) g5
  have m1 := m_minus w hb hmb (n := i + 1) (A := a1) (by omega) g4
  have m2 := m_minus w hb hmb (n := j + 1) (A := a2) (by omega) g5
  have b1 := fv_18' k1 g1
  have b2 := fv_18' k2 g2
  have v1 := m_value k1' (by omega) (mns b a1 (i + 1))
  have v2 := m_value k3 (by omega) (mns b a2 (j + 1))
  obtain ⟨Y, hY⟩ : ∃ Y, Y = (if mns b a1 (i + 1) = false then lN (fv b a1 (i + 1)) else -lN (fv b a1 (i + 1))) := ⟨_, rfl⟩
  obtain ⟨Z, hZ⟩ : ∃ Z, Z = (if mns b a2 (j + 1) = false then lN (fv b a2 (j + 1)) else -lN (fv b a2 (j + 1))) := ⟨_, rfl⟩
  rw [← hY] at x1 v1
  rw [← hZ] at x2 v2
  have eX : f_XDe_calculate u = (0, xsF u 1 (if Y - Z = 0 then 0 else if 0 ≤ Y - Z then 2 else 1)) := by
    simp +decide only [f_XDe_calculate, nmE, prI, hx4, hx6, hx7, hx8, hx9, nI_1, hF, ↓reduceIte, x1, x2, cond_sign]
  have eM : f_MMo_digits w = some (msF w 1 (if Y - Z = 0 then 0 else if 0 ≤ Y - Z then 2 else 1)) := by
    have d1 : f_MMo_digits w = if Y - Z = 0 then some (msF w 1 0) else if 0 ≤ Y - Z then some (msF w 1 2) else some (msF w 1 1) := by
      cases q : mns b a1 (i + 1) <;> rw [q] at v1 m1 <;> simp +decide only [f_MMo_digits, f_MMo_low, f_MMo_high, nmE, jnE, bd1S, bd1_id, w8, w10, w11, w12, hlo, hhi, nI_1, ↓reduceIte, m1, m2, v1, v2, bI0, reduceCtorEq]
    rw [d1]
    split
    · rfl
    · split <;> rfl
  rw [eX, eM]
  exact Sim.mk ok0 h13 (hC.cc _ (sgn_3 _ _)) rfl rfl rfl
theorem m_together {u : XS} {w : MS} (hC : Core u w) (h13 : mF w 13 = 0) {a1 n D E : Nat} (hm : mF w 11 = nI a1) (hA : a1 + n ≤ 1024) (h1 : 1 ≤ n) (hn : n ≤ 8) (hD : D < 1000000000000000) (hE : E < 1000000000000000) (h4 : Dig w 4 D) (h5 : Dig w 5 E) (z2 z3 : Bool) {y : Int64} (hy : y = (if z2 = false then lN D else -lN D) + (if z3 = false then lN E else -lN E)) : Sim (f_XDe_putSum u (nI a1) (nI n) y) (f_MMo_together w (nI n) z2 z3) u w := by
  have step : ∀ (w' : MS) (N : Nat) (s : Bool), mF w' = mF w → (∀ q, q ≠ 6 → mA w' q = mA w q) → Dig w' 6 N → N < 1000000000000000000 → y = (if s = false then lN N else -lN N) → Sim (f_XDe_putSum u (nI a1) (nI n) y) (f_MMo_decimal w' (nI n) s) u w := fun w' N s e2 e3 e4 hN hy => (put_sum (hC.same rfl rfl rfl (e3 1 (by decide)) (e3 2 (by decide)) e2) (by rw [e2]; exact h13) (by rw [e2]; exact hm) hA h1 hn hN e4 s hy).of e2
  have nadd : ∀ a b : Nat, -lN a + -lN b = -lN (a + b) := fun a b => by rw [← lN_add, Int64.neg_add, Int64.sub_eq_add_neg]
  have nsub : ∀ a b : Nat, b ≤ a → lN a + -lN b = lN (a - b) := fun a b h => by rw [← lN_sub h, Int64.sub_eq_add_neg]
  have nsub2 : ∀ a b : Nat, b ≤ a → -lN a + lN b = -lN (a - b) := fun a b h => by rw [← lN_sub h, Int64.neg_sub, Int64.add_comm, Int64.sub_eq_add_neg]
  by_cases c : z2 = z3
  · subst c
    obtain ⟨w', e1, e2, e3, e4⟩ := m_adds (v := w) (p0 := 6) (p1 := 4) (p2 := 5) (left := 0) (D := D) (E := E) (R := D + E) (t := 1) (x3 := 1) (by decide) (by decide) (by decide) rfl (by decide) (by omega) h4 h5
    rw [show nI 0 = (0 : Int32) from rfl] at e1
    simp only [f_MMo_together, ↓reduceIte, e1, bd1S, bd1_id]
    refine step w' (D + E) z2 e2 e3 e4 (by omega) ?_
    rw [hy]
    cases z2 with
    | false => simp only [↓reduceIte]; exact lN_add D E
    | true => simp only [reduceCtorEq, ↓reduceIte]; exact nadd D E
  · obtain ⟨r, a1', a2'⟩ := m_against h4 h5 (by omega) (by omega)
    simp only [f_MMo_together, bIE, if_neg c, a1', bd1S, bd1_id]
    by_cases cr : 0 ≤ r
    · have hle := a2'.mp cr
      obtain ⟨w', e1, e2, e3, e4⟩ := m_adds (v := w) (p0 := 6) (p1 := 4) (p2 := 5) (left := 0) (D := D) (E := E) (R := D - E) (t := -1) (x3 := -1) (by decide) (by decide) (by decide) rfl (by decide) (by omega) h4 h5
      rw [show nI 0 = (0 : Int32) from rfl] at e1
      simp only [if_pos cr, e1, bd1S]
      refine step w' (D - E) z2 e2 e3 e4 (by omega) ?_
      rw [hy]
      cases z2 with
      | false =>
        cases z3 with
        | false => exact absurd rfl c
        | true => simp only [reduceCtorEq, ↓reduceIte]; exact nsub D E hle
      | true =>
        cases z3 with
        | true => exact absurd rfl c
        | false => simp only [reduceCtorEq, ↓reduceIte]; exact nsub2 D E hle
    · have hle : D ≤ E := by
        have := mt a2'.mpr cr
        omega
      obtain ⟨w', e1, e2, e3, e4⟩ := m_adds (v := w) (p0 := 6) (p1 := 5) (p2 := 4) (left := 0) (D := E) (E := D) (R := E - D) (t := -1) (x3 := -1) (by decide) (by decide) (by decide) rfl (by decide) (by omega) h5 h4
      rw [show nI 0 = (0 : Int32) from rfl] at e1
      simp only [if_neg cr, e1, bd1S]
      refine step w' (E - D) z3 e2 e3 e4 (by omega) ?_
      rw [hy, Int64.add_comm]
      cases z2 with
      | false =>
        cases z3 with
        | false => exact absurd rfl c
        | true => simp only [reduceCtorEq, ↓reduceIte]; exact nsub2 E D hle
      | true =>
        cases z3 with
        | true => exact absurd rfl c
        | false => simp only [reduceCtorEq, ↓reduceIte]; exact nsub E D hle
theorem op_250 {u : XS} {v : MS} {s i j a1 a2 at0 : Nat} (h : Dd u v 250 s i j a1 a2 at0) : Out (f_XPr_perform u) v := by
  have hDd := h
  obtain ⟨hC, ⟨-, hs, hi, hj, h1, h2⟩, ⟨hlo, hhi, hsij⟩, ⟨hx4, hm8⟩, ⟨hx5, hm10⟩, ⟨hx6, hx7⟩, hA2, hA1, hA12, ⟨h13, h0, hat⟩, -⟩ := h
  obtain ⟨hx8, hm11⟩ := hA1 (by omega)
  obtain ⟨hx9, hm12⟩ := hA2 (by omega)
  have hx4 : xF u 4 = 250 := hx4
  refine dec_case hDd (by decide) (by decide) (by simp +decide only [f_XPr_perform, prI, nmE, jnE, hx4, ↓reduceIte]) (fun b w n hb hxb hmb g1 g2 g3 g4 g5 hF k1 k2 k3 k4 hC h13 w8 w10 w11 w12 => ?_)
  have w8 : mF w 8 = 250 := w8
  obtain ⟨k1, k1'⟩ := k1 (by decide)
  have x1 := x_dec u hb hxb (n := i + 1) (A := a1) (by omega) g4
  have x2 := x_dec u hb hxb (n := j + 1) (A := a2) (by omega) g5
  have m1 := m_minus w hb hmb (n := i + 1) (A := a1) (by omega) g4
  have m2 := m_minus w hb hmb (n := j + 1) (A := a2) (by omega) g5
  have eX : f_XDe_calculate u = f_XDe_putSum u (nI a1) (nI (i + 1)) ((if mns b a1 (i + 1) = false then lN (fv b a1 (i + 1)) else -lN (fv b a1 (i + 1))) + (if mns b a2 (j + 1) = false then lN (fv b a2 (j + 1)) else -lN (fv b a2 (j + 1)))) := by
    simp +decide only [f_XDe_calculate, nmE, prI, hx4, hx6, hx7, hx8, hx9, nI_1, hF, ↓reduceIte, x1, x2]
  have eM : f_MMo_digits w = f_MMo_together w (nI (i + 1)) (mns b a1 (i + 1)) (mns b a2 (j + 1)) := by
    cases q : mns b a1 (i + 1) <;> rw [q] at m1 <;> simp +decide only [f_MMo_digits, f_MMo_low, f_MMo_high, nmE, jnE, bd1S, bd1_id, w8, w10, w11, w12, hlo, hhi, nI_1, ↓reduceIte, m1, m2, bI0, reduceCtorEq]
  rw [eX, eM]
  exact m_together hC h13 w11 g4 (by omega) g1 (fv_18' k1 g1) (fv_18' k2 g2) k1' k3 _ _ rfl
theorem op_251 {u : XS} {v : MS} {s i j a1 a2 at0 : Nat} (h : Dd u v 251 s i j a1 a2 at0) : Out (f_XPr_perform u) v := by
  have hDd := h
  obtain ⟨hC, ⟨-, hs, hi, hj, h1, h2⟩, ⟨hlo, hhi, hsij⟩, ⟨hx4, hm8⟩, ⟨hx5, hm10⟩, ⟨hx6, hx7⟩, hA2, hA1, hA12, ⟨h13, h0, hat⟩, -⟩ := h
  obtain ⟨hx8, hm11⟩ := hA1 (by omega)
  obtain ⟨hx9, hm12⟩ := hA2 (by omega)
  have hx4 : xF u 4 = 251 := hx4
  refine dec_case hDd (by decide) (by decide) (by simp +decide only [f_XPr_perform, prI, nmE, jnE, hx4, ↓reduceIte]) (fun b w n hb hxb hmb g1 g2 g3 g4 g5 hF k1 k2 k3 k4 hC h13 w8 w10 w11 w12 => ?_)
  have w8 : mF w 8 = 251 := w8
  obtain ⟨k1, k1'⟩ := k1 (by decide)
  have x1 := x_dec u hb hxb (n := i + 1) (A := a1) (by omega) g4
  have x2 := x_dec u hb hxb (n := j + 1) (A := a2) (by omega) g5
  have m1 := m_minus w hb hmb (n := i + 1) (A := a1) (by omega) g4
  have m2 := m_minus w hb hmb (n := j + 1) (A := a2) (by omega) g5
  have eX : f_XDe_calculate u = f_XDe_putSum u (nI a1) (nI (i + 1)) ((if mns b a1 (i + 1) = false then lN (fv b a1 (i + 1)) else -lN (fv b a1 (i + 1))) - (if mns b a2 (j + 1) = false then lN (fv b a2 (j + 1)) else -lN (fv b a2 (j + 1)))) := by
    simp +decide only [f_XDe_calculate, nmE, prI, hx4, hx6, hx7, hx8, hx9, nI_1, hF, ↓reduceIte, x1, x2]
  have eM : f_MMo_digits w = f_MMo_together w (nI (i + 1)) (mns b a1 (i + 1)) (!mns b a2 (j + 1)) := by
    cases q : mns b a1 (i + 1) <;> rw [q] at m1 <;> cases r : mns b a2 (j + 1) <;> rw [r] at m2 <;> simp +decide only [f_MMo_digits, f_MMo_low, f_MMo_high, nmE, jnE, bd1S, bd1_id, w8, w10, w11, w12, hlo, hhi, nI_1, ↓reduceIte, m1, m2, bI0, reduceCtorEq, Bool.not_true, Bool.not_false]
  rw [eX, eM]
  refine m_together hC h13 w11 g4 (by omega) g1 (fv_18' k1 g1) (fv_18' k2 g2) k1' k3 _ _ ?_
  rw [Int64.sub_eq_add_neg]
  congr 1
  cases mns b a2 (j + 1)
  · rfl
  · exact Int64.neg_neg
theorem mA_M1 (v : MS) (g : Nat → Int32) : mA (msMM v g) 1 = g := by
  show (if 1 = 1 then g else v.1 1) = g
  exact if_pos rfl
theorem val_zero {d : Nat → Nat} : ∀ (m k : Nat), (∀ i, m ≤ i → i < m + k → d i = 0) → valD d (m + k) = valD d m := fun _ k h => valD_pad k h
/-- a field that starts with n2 zero octets is small -/
theorem fv_zero {b : Nat → Nat} {A n1 n2 : Nat} (h : Gd b A n1) (hlt : n2 < n1) (hz : ∀ k, k < n2 → b (A + k) = 0) : fv b A n1 < 10 ^ (2 * (n1 - n2) - 1) := by
  have e : fv b A n1 = valD (dg b A n1) (2 * (n1 - n2) - 1) := by
    unfold fv
    have : 2 * n1 - 1 = 2 * (n1 - n2) - 1 + 2 * n2 := by omega
    rw [this]
    refine valD_pad _ (fun i h1 h2 => ?_)
    unfold dg
    have hi : b (A + n1 - 1 - (i + 1) / 2) = 0 := by
      have := hz (n1 - 1 - (i + 1) / 2) (by omega)
      rw [show A + (n1 - 1 - (i + 1) / 2) = A + n1 - 1 - (i + 1) / 2 by omega] at this
      exact this
    rw [hi]
    split <;> rfl
  rw [e]
  exact valD_lt (fun k hk => h.2 k (by omega))
theorem sg_mul (a b : Nat) (s t : Bool) : (if s = false then lN a else -lN a) * (if t = false then lN b else -lN b) = if (s ^^ t) = false then lN (a * b) else -lN (a * b) := by
  cases s <;> cases t <;> simp only [reduceCtorEq, ↓reduceIte, Bool.xor_false, Bool.xor_true, Bool.not_false, Bool.not_true]
  · exact lN_mul a b
  · rw [Int64.mul_neg, lN_mul]
  · rw [Int64.neg_mul, lN_mul]
  · rw [Int64.neg_mul, Int64.mul_neg, Int64.neg_neg, lN_mul]
theorem op_252 {u : XS} {v : MS} {s i j a1 a2 at0 : Nat} (h : Dd u v 252 s i j a1 a2 at0) : Out (f_XPr_perform u) v := by
  have hDd := h
  obtain ⟨hC, ⟨-, hs, hi, hj, h1, h2⟩, ⟨hlo, hhi, hsij⟩, ⟨hx4, hm8⟩, ⟨hx5, hm10⟩, ⟨hx6, hx7⟩, hA2, hA1, hA12, ⟨h13, h0, hat⟩, -⟩ := h
  obtain ⟨hx8, hm11⟩ := hA1 (by omega)
  obtain ⟨hx9, hm12⟩ := hA2 (by omega)
  have hx4 : xF u 4 = 252 := hx4
  refine dec_case hDd (by decide) (by decide) (by simp +decide only [f_XPr_perform, prI, nmE, jnE, hx4, ↓reduceIte]) (fun b w n hb hxb hmb g1 g2 g3 g4 g5 hF k1 k2 k3 k4 hC h13 w8 w10 w11 w12 => ?_)
  have w8 : mF w 8 = 252 := w8
  obtain ⟨k1, k1'⟩ := k1 (by decide)
  have hji : j < i := g3 (by decide)
  have x1 := x_dec u hb hxb (n := i + 1) (A := a1) (by omega) g4
  have x2 := x_dec u hb hxb (n := j + 1) (A := a2) (by omega) g5
  have y1 := x_minus u hb hxb (n := i + 1) (A := a1) (by omega) g4
  have y2 := x_minus u hb hxb (n := j + 1) (A := a2) (by omega) g5
  have m1 := m_minus w hb hmb (n := i + 1) (A := a1) (by omega) g4
  have m2 := m_minus w hb hmb (n := j + 1) (A := a2) (by omega) g5
  have b1 : fv b a1 (i + 1) < 10 ^ (2 * ((i + 1) - (j + 1)) - 1) := fv_zero k1 (by omega) (k4 rfl)
  have b2 := k2.lt
  have b3 := fv_18' k2 g2
  have hP : fv b a1 (i + 1) * fv b a2 (j + 1) < 1000000000000000 := by
    have l1 : fv b a1 (i + 1) * fv b a2 (j + 1) ≤ 10 ^ (2 * ((i + 1) - (j + 1)) - 1) * 10 ^ (2 * (j + 1) - 1) := Nat.mul_le_mul (Nat.le_of_lt b1) (Nat.le_of_lt b2)
    rw [← Nat.pow_add] at l1
    have l2 : 10 ^ (2 * ((i + 1) - (j + 1)) - 1 + (2 * (j + 1) - 1)) ≤ 10 ^ 14 := p10_le (by omega)
    omega
  obtain ⟨D, hD⟩ : ∃ D, D = fv b a1 (i + 1) := ⟨_, rfl⟩
  obtain ⟨E, hE⟩ : ∃ E, E = fv b a2 (j + 1) := ⟨_, rfl⟩
  rw [← hD] at x1 k1' hP
  rw [← hE] at x2 k3 hP b3
  obtain ⟨q1, hq1⟩ : ∃ q, q = mns b a1 (i + 1) := ⟨_, rfl⟩
  obtain ⟨q2, hq2⟩ : ∃ q, q = mns b a2 (j + 1) := ⟨_, rfl⟩
  rw [← hq1] at x1 y1 m1
  rw [← hq2] at x2 y2 m2
  obtain ⟨Y, hY⟩ : ∃ Y, Y = (if q1 = false then lN D else -lN D) := ⟨_, rfl⟩
  obtain ⟨Z, hZ⟩ : ∃ Z, Z = (if q2 = false then lN E else -lN E) := ⟨_, rfl⟩
  rw [← hY] at x1
  rw [← hZ] at x2
  have ab : (if 0 < Y * Z then Y * Z else -(Y * Z)) = lN (D * E) := by
    rw [hY, hZ, sg_mul]
    exact sg_abs (by omega) _
  have xp := x_pd u (A := a1) (n := i + 1) (N := D * E) (q1 ^^ q2) (by omega) g4 (by omega)
  have eX : f_XDe_calculate u = (0, xsMM u (pdM (xM u) a1 (i + 1) (D * E) (if (q1 ^^ q2) = false then 12 else 13))) := by
    rw [← xp]
    clear hY hZ
    cases q1 <;> cases q2 <;> simp +decide only [f_XDe_calculate, f_XDe_multiply, nmE, jnE, prI, hx4, hx6, hx7, hx8, hx9, nI_1, hF, ↓reduceIte, x1, x2, y1, y2, ab, bIE, Bool.xor_false, Bool.xor_true, Bool.not_true, Bool.not_false]
  obtain ⟨w1, e1, e2, e3, e4⟩ := m_zeroedL (fun (u_37 : MS) => lpN fuelM (g_MMo_digits_239 (fun (u_39 : MS) => f_MMo_unpacks 6 u_39 (mF u_39 11) (nI (i + 1)) (q1 ^^ q2))) (fun _ _ => none) (nI 0) u_37) 32 0 fuelM w (by omega) (by unfold fuelM; omega) (fun k hk => by omega)
  obtain ⟨w2, r1, r2, r3, r4⟩ := m_mulL (D := D) (E := E) (by omega) (fun (u_39 : MS) => f_MMo_unpacks 6 u_39 (mF u_39 11) (nI (i + 1)) (q1 ^^ q2)) 16 0 fuelM w1 (by omega) (by unfold fuelM; omega) (fun k hk => by rw [e3 4 (by decide)]; exact k1' k hk) (fun k hk => by rw [e3 5 (by decide)]; exact k3 k hk) (fun k hk => by
    rw [e4 k hk, Nat.pow_zero, Nat.mod_one, Nat.mul_zero]
    unfold dgt
    rw [Nat.zero_div]
    rfl)
  have f2 : mF w2 = mF w := r2.trans e2
  have a1' : mA w2 1 = mA w 1 := (r3 1 (by decide)).trans (e3 1 (by decide))
  have a2' : mA w2 2 = mA w 2 := (r3 2 (by decide)).trans (e3 2 (by decide))
  have mp := m_pd w2 (A := a1) (n := i + 1) (N := D * E) (p := 6) (q1 ^^ q2) (by decide) (by omega) g4 (fun k hk => r4 k (by omega))
  have eM : f_MMo_digits w = some (msMM w2 (pdM (mA w2 1) a1 (i + 1) (D * E) (if (q1 ^^ q2) = false then 12 else 13))) := by
    rw [← mp]
    have tl : f_MMo_digits w = lpN fuelM (g_MMo_digits_215 (fun (u_37 : MS) => lpN fuelM (g_MMo_digits_239 (fun (u_39 : MS) => f_MMo_unpacks 6 u_39 (mF u_39 11) (nI (i + 1)) (q1 ^^ q2))) (fun _ _ => none) (nI 0) u_37)) (fun _ _ => none) (nI 0) w := by
      cases q1 <;> cases q2 <;> simp +decide only [f_MMo_digits, f_MMo_low, f_MMo_high, nmE, jnE, bd1S, bd1_id, w8, w10, w11, w12, hlo, hhi, nI_1, ↓reduceIte, m1, m2, bI0, bIE, reduceCtorEq, Bool.xor_false, Bool.xor_true, Bool.not_true, Bool.not_false, show nI 0 = (0 : Int32) from rfl]
    rw [tl, e1, r1, f2, w11]
  rw [eX, eM, a1', ← hC.1]
  exact Sim.mk ok0 (by rw [mF_MM, f2]; exact h13) ((hC.same rfl rfl rfl a1' a2' f2).mem (oct_pd hC.2.2.2.1 _ _ _ (l_12 _))) (by rw [mF_MM, f2]) (by rw [mF_MM, f2]) rfl
theorem op_253 {u : XS} {v : MS} {s i j a1 a2 at0 : Nat} (h : Dd u v 253 s i j a1 a2 at0) : Out (f_XPr_perform u) v := by
  have hDd := h
  have hfr := dec_front h (by decide) (by decide)
  obtain ⟨hC, ⟨-, hs, hi, hj, h1, h2⟩, ⟨hlo, hhi, hsij⟩, ⟨hx4, hm8⟩, ⟨hx5, hm10⟩, ⟨hx6, hx7⟩, hA2, hA1, hA12, ⟨h13, h0, hat⟩, -⟩ := h
  obtain ⟨hx8, hm11⟩ := hA1 (by omega)
  obtain ⟨hx9, hm12⟩ := hA2 (by omega)
  obtain ⟨b, hb, hxb, hmb⟩ := hC.nb
  have hx4' : xF u 4 = 253 := hx4
  have hp : f_XPr_perform u = f_XDe_calculate u := by simp +decide only [f_XPr_perform, prI, nmE, jnE, hx4', ↓reduceIte]
  have eF : ∀ f, ¬ f = 0 → f_XDe_faultOfFields u (nI (i + 1)) (nI (j + 1)) = f → f_XDe_calculate u = (f, u) := fun f hf hq => by
    simp only [f_XDe_calculate, nmE, hx6, hx7, nI_1, hq, if_neg hf]
  rw [hp]
  rcases hfr with ⟨g1, g2⟩ | ⟨g1, g2⟩ | ⟨g1, g2, g3, g4, g5, g6, g7⟩
  · rw [eF 6 (by decide) g2]
    exact Out.no g1 rfl (by unfold nok; decide) hC
  · rw [eF 5 (by decide) g2]
    exact Out.no g1 rfl (by unfold nok; decide) hC
  · have hji : j < i := g3 (by decide)
    obtain ⟨v1, e1, e2, e3, e4, e5⟩ := dec_data hb hxb hmb (c := 253) (by omega) (by omega) (by omega) (by omega) g1 g2 (fun h => by have := g3 h; omega) g4 g5 hm8 hm11 hm12 h13 (n1 := i + 1) (n2 := j + 1) (u := u) (v := v)
    have m8 : mF v1 8 = 253 := by rw [e2 8 (by decide)]; exact hm8
    rw [← g6] at e1
    rw [← g7] at e5
    rcases e5 with ⟨f1, f2⟩ | ⟨f1, f2, f3, f4, f5, f6⟩
    · rw [eF 7 (by decide) f2]
      have et : tailD (nI (i + 1)) (nI (j + 1)) v1 = some v1 := by simp +decide only [tailD, m8, f1, ↓reduceIte]
      rw [et] at e1
      refine ⟨v1, e1, e2 0 (by decide), Or.inr ⟨f1, by show nok 7; unfold nok; decide, ?_, e2 2 (by decide)⟩⟩
      unfold Core
      rw [e3, e4, e2 1 (by decide), e2 3 (by decide), e2 4 (by decide), e2 5 (by decide), e2 6 (by decide), e2 7 (by decide)]
      exact hC
    · obtain ⟨k1, k1'⟩ := f3 (by decide)
      have hC1 : Core u v1 := hC.same rfl rfl rfl e3 e4 f1
      have h13' : mF v1 13 = 0 := by rw [f1]; exact h13
      have x1 := x_dec u hb hxb (n := i + 1) (A := a1) (by omega) g4
      have x2 := x_dec u hb hxb (n := j + 1) (A := a2) (by omega) g5
      have y1 := x_minus u hb hxb (n := i + 1) (A := a1) (by omega) g4
      have y2 := x_minus u hb hxb (n := j + 1) (A := a2) (by omega) g5
      have b1 := fv_18' k1 g1
      have b2 := fv_18' f4 g2
      have b3 := f4.lt
      obtain ⟨D, hD⟩ : ∃ D, D = fv b a1 (i + 1) := ⟨_, rfl⟩
      obtain ⟨E, hE⟩ : ∃ E, E = fv b a2 (j + 1) := ⟨_, rfl⟩
      rw [← hD] at x1 k1' b1
      rw [← hE] at x2 f5 b2 b3
      obtain ⟨q1, hq1⟩ : ∃ q, q = mns b a1 (i + 1) := ⟨_, rfl⟩
      obtain ⟨q2, hq2⟩ : ∃ q, q = mns b a2 (j + 1) := ⟨_, rfl⟩
      rw [← hq1] at x1 y1
      rw [← hq2] at x2 y2
      obtain ⟨Y, hY⟩ : ∃ Y, Y = (if q1 = false then lN D else -lN D) := ⟨_, rfl⟩
      obtain ⟨Z, hZ⟩ : ∃ Z, Z = (if q2 = false then lN E else -lN E) := ⟨_, rfl⟩
      rw [← hY] at x1
      rw [← hZ] at x2
      have ab1 : (if 0 < Y then Y else -Y) = lN D := by rw [hY]; exact sg_abs (by omega) _
      have ab2 : (if 0 < Z then Z else -Z) = lN E := by rw [hZ]; exact sg_abs (by omega) _
      have sb : nI (i + 1) - nI (j + 1) = nI (i - j) := by rw [sI_le (by omega), show i + 1 - (j + 1) = i - j by omega]
      have mo : (2 : Int32) * nI (i - j) - 1 = nI (2 * (i - j) - 1) := by rw [show (2 : Int32) = nI 2 from rfl, pk_mul, show (1 : Int32) = nI 1 from rfl, sI_le (by omega)]
      have hz := m_isZero f5 (by omega)
      have qE : (lN E = (0 : Int64)) = (E = 0) := propext (pk_lEQ (b := 0) (by omega) (by omega))
      by_cases cE : E = 0
      · rw [decide_eq_true cE] at hz
        have et : tailD (nI (i + 1)) (nI (j + 1)) v1 = some (msF v1 13 11) := by simp +decide only [tailD, m8, h13', ↓reduceIte, hz, bd1S, bI0, wrong_t v1 11 h13']
        rw [et] at e1
        have eX : f_XDe_calculate u = (11, u) := by
          simp +decide only [f_XDe_calculate, f_XDe_divide, nmE, jnE, prI, hx4', hx6, hx7, hx8, hx9, nI_1, f2, ↓reduceIte, x1, x2, ab1, ab2, qE, cE]
        rw [eX]
        exact ⟨msF v1 13 11, e1, by rw [mF_F, if_neg (by decide), f1], Or.inr ⟨rfl, by show nok 11; unfold nok; decide, hC1.fl _, by rw [mF_F, if_neg (by decide), f1]⟩⟩
      · rw [decide_eq_false cE] at hz
        have hE0 : 0 < E := Nat.pos_of_ne_zero cE
        have dv : lN D / lN E = lN (D / E) := pk_lDiv (by omega) hE0 (by omega)
        have hQ : D / E < 1000000000000000 := Nat.lt_of_le_of_lt (Nat.div_le_self _ _) b1
        have hxr := fun w : XS => x_room w (n := i - j) (N := D / E) (by omega) (by omega) (by omega)
        obtain ⟨w', r1, r2, r3, r4, r5⟩ := m_quotient (v := v1) (D := D) (E := E) (most := 2 * (i - j) - 1) hE0 (by omega) (by omega) (by omega) k1' f5
        have h13w : mF w' 13 = 0 := by rw [r2]; exact h13'
        have ma1 : mA w' 1 = mA v 1 := (r3 1 (by decide) (by decide) (by decide)).trans e3
        have ma2 : mA w' 2 = mA v 2 := (r3 2 (by decide) (by decide) (by decide)).trans e4
        have mf : mF w' = mF v := r2.trans f1
        by_cases cQ : D / E < 10 ^ (2 * (i - j) - 1)
        · rw [decide_eq_true cQ] at r1
          have et : tailD (nI (i + 1)) (nI (j + 1)) v1 = some w' := by simp +decide only [tailD, m8, h13', ↓reduceIte, hz, bd1S, bd2S, bI0, sb, mo, r1, wrong_f]
          rw [et] at e1
          obtain ⟨n, hn, hnx, hbh, hact⟩ := (hDd.alike ma1 ma2 mf).act
          have hact := hact.2.2.2.2.2 (by omega)
          have hCw : Core u (msF w' 2 (nI n)) := (hC.same rfl rfl rfl ma1 ma2 mf).mn _
          have w8 : mF (msF w' 2 (nI n)) 8 = 253 := by rw [mF_F, if_neg (by decide), mf]; exact hm8
          have w10 : mF (msF w' 2 (nI n)) 10 = nI s := by rw [mF_F, if_neg (by decide), mf]; exact hm10
          have w11 : mF (msF w' 2 (nI n)) 11 = nI a1 := by rw [mF_F, if_neg (by decide), mf]; exact hm11
          have w12 : mF (msF w' 2 (nI n)) 12 = nI a2 := by rw [mF_F, if_neg (by decide), mf]; exact hm12
          have w13 : mF (msF w' 2 (nI n)) 13 = 0 := by rw [mF_F, if_neg (by decide)]; exact h13w
          have g7' : Dig (msF w' 2 (nI n)) 7 (D % E) := r4
          have g6' : Dig (msF w' 2 (nI n)) 6 (D / E) := r5
          have hmw : ∀ j, mA (msF w' 2 (nI n)) 1 j = nI (b j) := fun j => by rw [mA_F, ma1]; exact hmb j
          refine Out.sim (v1 := w') (n := n) (u := u) e1 (by rw [mf]) h13w ?_ hnx hn
          rw [hact]
          generalize msF w' 2 (nI n) = w at hCw w8 w10 w11 w12 w13 g7' g6' hmw
          have m1 := m_minus w hb hmw (n := i + 1) (A := a1) (by omega) g4
          have m2 := m_minus w hb hmw (n := j + 1) (A := a2) (by omega) g5
          rw [← hq1] at m1
          rw [← hq2] at m2
          have hmod : D % E < 9223372036854775808 := Nat.lt_of_le_of_lt (Nat.mod_le _ _) (by omega)
          have rm : lN D - lN D / lN E * lN E = lN (D % E) := pk_lRem (by omega) hE0 (by omega)
          rw [dv] at rm
          have xp := x_pd u (A := a1) (n := i - j) (N := D / E) (q1 ^^ q2) (by omega) (by omega) (by omega)
          have xp2 := fun u' => x_pd u' (A := a1 + (i - j)) (n := j + 1) (N := D % E) q1 (by omega) (by omega) hmod
          have ad : nI a1 + nI (i - j) = nI (a1 + (i - j)) := nI_add _ _
          have ad2 : nI a1 + nI (i + 1) - nI (j + 1) = nI (a1 + (i - j)) := by
            rw [nI_add, sI_le (by omega), show a1 + (i + 1) - (j + 1) = a1 + (i - j) by omega]
          have eX : f_XDe_calculate u = (0, xsMM (xsMM u (pdM (xM u) a1 (i - j) (D / E) (if (q1 ^^ q2) = false then 12 else 13))) (pdM (pdM (xM u) a1 (i - j) (D / E) (if (q1 ^^ q2) = false then 12 else 13)) (a1 + (i - j)) (j + 1) (D % E) (if q1 = false then 12 else 13))) := by
            have k8 : ∀ z, xF (f_XMe_putDecimal u (nI a1) (nI (i - j)) (lN (D / E)) z) 8 = nI a1 := fun z => by
              rw [x_pd u (A := a1) (n := i - j) (N := D / E) z (by omega) (by omega) (by omega)]
              exact hx8
            have e0 : f_XDe_calculate u = (0, f_XMe_putDecimal (f_XMe_putDecimal u (nI a1) (nI (i - j)) (lN (D / E)) (q1 ^^ q2)) (nI (a1 + (i - j))) (nI (j + 1)) (lN (D % E)) q1) := by
              cases q1 <;> cases q2 <;> simp +decide only [f_XDe_calculate, f_XDe_divide, nmE, jnE, prI, hx4', hx6, hx7, hx8, hx9, nI_1, f2, ↓reduceIte, x1, x2, y1, y2, ab1, ab2, qE, cE, sb, dv, hxr, cQ, decide_true, bI0, bIE, reduceCtorEq, Bool.xor_false, Bool.xor_true, Bool.not_true, Bool.not_false, rm, k8, ad]
            rw [e0]
            exact congrArg (Prod.mk 0) ((congrArg (fun U => f_XMe_putDecimal U (nI (a1 + (i - j))) (nI (j + 1)) (lN (D % E)) q1) xp).trans ((xp2 _).trans (by rw [xM_MM])))
          have mp := m_pd w (A := a1) (n := i - j) (N := D / E) (p := 6) (q1 ^^ q2) (by decide) (by omega) (by omega) (fun k hk => g6' k (by omega))
          have mp2 := m_pd (msMM w (pdM (mA w 1) a1 (i - j) (D / E) (if (q1 ^^ q2) = false then 12 else 13))) (A := a1 + (i - j)) (n := j + 1) (N := D % E) (p := 7) q1 (by decide) (by omega) (by omega) (fun k hk => g7' k (by omega))
          have eM : f_MMo_digits w = some (msMM (msMM w (pdM (mA w 1) a1 (i - j) (D / E) (if (q1 ^^ q2) = false then 12 else 13))) (pdM (pdM (mA w 1) a1 (i - j) (D / E) (if (q1 ^^ q2) = false then 12 else 13)) (a1 + (i - j)) (j + 1) (D % E) (if q1 = false then 12 else 13))) := by
            have k11 : ∀ g, mF (msMM w g) 11 = nI a1 := fun _ => w11
            have e0 : f_MMo_digits w = bd1 (f_MMo_unpacks 6 w (nI a1) (nI (i - j)) (q1 ^^ q2)) (fun (u_60 : MS) => f_MMo_unpacks 7 u_60 ((mF u_60 11 + nI (i + 1)) - nI (j + 1)) (nI (j + 1)) q1) := by
              cases q1 <;> cases q2 <;> simp +decide only [f_MMo_digits, f_MMo_low, f_MMo_high, nmE, jnE, bd1S, bd1_id, w8, w10, w11, w12, hlo, hhi, nI_1, ↓reduceIte, m1, m2, bI0, bIE, reduceCtorEq, Bool.xor_false, Bool.xor_true, Bool.not_true, Bool.not_false, sb]
            rw [e0, mp, bd1S, k11, ad2, mp2, mA_M1]
          rw [eX, eM, ← hCw.1]
          have o1 := oct_pd hC.2.2.2.1 a1 (i - j) (D / E) (l_12 (q1 ^^ q2))
          exact Sim.mk ok0 w13 ((hCw.mem o1).mem (oct_pd o1 _ _ _ (l_12 q1))) rfl rfl rfl
        · rw [decide_eq_false cQ] at r1
          have et : tailD (nI (i + 1)) (nI (j + 1)) v1 = some (msF w' 13 11) := by simp +decide only [tailD, m8, h13', ↓reduceIte, hz, bd1S, bd2S, bI0, sb, mo, r1, wrong_t w' 11 h13w]
          rw [et] at e1
          have eX : f_XDe_calculate u = (11, u) := by
            simp +decide only [f_XDe_calculate, f_XDe_divide, nmE, jnE, prI, hx4', hx6, hx7, hx8, hx9, nI_1, f2, ↓reduceIte, x1, x2, ab1, ab2, qE, cE, sb, dv, hxr, cQ, decide_false, bI0]
          rw [eX]
          exact ⟨msF w' 13 11, e1, by rw [mF_F, if_neg (by decide), mf], Or.inr ⟨rfl, by show nok 11; unfold nok; decide, (hC.same rfl rfl rfl ma1 ma2 mf).fl _, by rw [mF_F, if_neg (by decide), mf]⟩⟩
