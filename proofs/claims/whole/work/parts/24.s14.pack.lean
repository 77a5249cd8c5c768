/-! PACK and UNPK -/
theorem sI_sub (x y z : Int32) : x - y - z = x - (y + z) := by simp only [Int32.sub_eq_add_neg, Int32.neg_add, Int32.add_assoc]
theorem sI_le {n m : Nat} (h : m ≤ n) : nI n - nI m = nI (n - m) := pk_sub h
theorem sI_lt {n m : Nat} (h : n < m) (hm : m < 1073741824) : nI n - nI m < 0 := pk_sneg hm h
theorem sI_add1 (a p : Nat) (hp : 1 ≤ p) (k : Nat) (hk : k < p) : ((nI a + nI p) - 1) - nI k = nI (a + (p - 1 - k)) := by
  rw [nI_add, show (1 : Int32) = nI 1 from rfl, sI_sub, nI_add, sI_le (by omega)]
  congr 1
  omega
theorem srcO (u : XS) {S : Nat → Nat} {m : Nat} (hm : m ≤ 16) (hS : ∀ t, t < m → xO u t = nI (S t)) {x : Int32} {r : Nat} (hx : x = nI m - nI r) (hr : 1 ≤ r) (hr2 : r < 1000) : f_XDe_sourceOctet u x = if r ≤ m then nI (S (m - r)) else 0 := by
  subst hx
  unfold f_XDe_sourceOctet
  by_cases c : r ≤ m
  · rw [sI_le c, if_neg (nI_pos (by omega)), if_neg (show ¬ (16 : Int32) ≤ nI (m - r) from nI_ge (b := 16) (by omega) (by decide)), nI_clamp (by omega), hS _ (by omega), if_pos c]
  · rw [if_pos (sI_lt (by omega) (by omega)), if_neg c]
def pkO (S : Nat → Nat) (m k : Nat) : Nat := (if 2 * k ≤ m then S (m - 2 * k) % 16 else 0) + 16 * (if 2 * k + 1 ≤ m then S (m - (2 * k + 1)) % 16 else 0)
def ukO (S : Nat → Nat) (m k : Nat) : Nat := 240 + (if 1 + (k + 1) / 2 ≤ m then (if k % 2 = 1 then S (m - (1 + (k + 1) / 2)) % 16 else S (m - (1 + (k + 1) / 2)) / 16) else 0)
theorem pkO_lt (S : Nat → Nat) (m k : Nat) : pkO S m k < 256 := by
  unfold pkO
  split <;> split <;> omega
theorem ukO_lt {S : Nat → Nat} (hS : ∀ t, S t < 256) (m k : Nat) : ukO S m k < 256 := by
  have := hS (m - (1 + (k + 1) / 2))
  unfold ukO
  split
  · split <;> omega
  · omega
theorem a15 (n : Nat) (h : n < 4294967296) : nI n &&& 15 = nI (n % 16) := pk_andN h 4 rfl
theorem nib_or {x y : Nat} (hx : x < 16) (hy : y < 16) : (nI y <<< ((4 : Int32) &&& 31)) ||| nI x = nI (x + 16 * y) := by
  rw [pk_shlN _ 4 rfl (by omega), nx_orp (k := 4) (by decide) (by omega)]
  congr 1
  omega
theorem nib_or' {x y : Nat} (hx : x < 16) (hy : y < 16) : nI x ||| (nI y <<< ((4 : Int32) &&& 31)) = nI (x + 16 * y) := by
  rw [Int32.or_comm, nib_or hx hy]
theorem z240 {x : Nat} (hx : x < 16) : (240 : Int32) ||| nI x = nI (240 + x) := nx_orp (k := 4) (b := 15) (p := 16) (by decide) hx
/-- PACK's octets behind the last -/
theorem sim_pk {a1 p m : Nat} {S : Nat → Nat} (hSS : ∀ t, S t < 256) (hm : 1 ≤ m ∧ m ≤ 16) (hp : p ≤ 16) (h1 : a1 + p ≤ 1024) : ∀ (r k fX fM : Nat) (u : XS) (v : MS), k + r = p → 1 ≤ k → r < fX → r < fM → Core u v → (∀ t, t < m → xO u t = nI (S t)) → (∀ t, t < m → mA v 8 t = nI (S t)) → mF v 8 = 242 → mF v 11 = nI a1 → ∃ v', lpN fM (g_MMo_shifts_92 (nI p) (nI m)) (fun _ _ => none) (nI k) v = some v' ∧ Core (lpN fX (g_XDe_packRest_10 (nI a1)) (fun _ _ _ => default) (nI m - nI (2 * k)) (nI r - 1) u) v' ∧ xF (lpN fX (g_XDe_packRest_10 (nI a1)) (fun _ _ _ => default) (nI m - nI (2 * k)) (nI r - 1) u) = xF u ∧ mF v' = mF v := by
  intro r
  induction r with
  | zero =>
    intro k fX fM u v hk hk1 hX hF hC hxo hmo hm8 hm11
    obtain ⟨f, rfl⟩ : ∃ f, fX = f + 1 := ⟨fX - 1, by omega⟩
    obtain ⟨g, rfl⟩ : ∃ f, fM = f + 1 := ⟨fM - 1, by omega⟩
    have e1 : lpN (f + 1) (g_XDe_packRest_10 (nI a1)) (fun _ _ _ => default) (nI m - nI (2 * k)) (nI 0 - 1) u = u := by
      show g_XDe_packRest_10 (nI a1) _ _ (nI 0 - 1) u = _
      simp only [g_XDe_packRest_10]
      rw [if_pos (by decide)]
    refine ⟨v, ?_, by rw [e1]; exact hC, by rw [e1], rfl⟩
    show g_MMo_shifts_92 (nI p) (nI m) _ (nI k) v = _
    simp only [g_MMo_shifts_92]
    rw [if_pos (nI_le (by omega) (by omega))]
  | succ r ih =>
    intro k fX fM u v hk hk1 hX hF hC hxo hmo hm8 hm11
    obtain ⟨f, rfl⟩ : ∃ f, fX = f + 1 := ⟨fX - 1, by omega⟩
    obtain ⟨g, rfl⟩ : ∃ f, fM = f + 1 := ⟨fM - 1, by omega⟩
    have hlt := pkO_lt S m k
    have hpos : a1 + r < 1024 := by omega
    have e2 : nI r + -1 = nI r - 1 := by rw [Int32.sub_eq_add_neg]
    have s1 : nI m - nI (2 * k) - 1 = nI m - nI (2 * k + 1) := by rw [show (1 : Int32) = nI 1 from rfl, sI_sub, nI_add]
    have s2 : nI m - nI (2 * k) - 2 = nI m - nI (2 * (k + 1)) := by rw [show (2 : Int32) = nI 2 from rfl, sI_sub, nI_add]; rfl
    have m2 : (2 : Int32) * nI k = nI (2 * k) := pk_mul 2 k
    have pl : ((nI a1 + nI p) - 1) - nI k = nI (a1 + r) := by
      rw [sI_add1 a1 p (by omega) k (by omega)]
      congr 1
      omega
    have sa : ∀ t, nI (S t) &&& 15 = nI (S t % 16) := fun t => a15 _ (by have := hSS t; omega)
    have oX : ((f_XDe_sourceOctet u (nI m - nI (2 * k + 1)) &&& 15) <<< ((4 : Int32) &&& 31)) ||| (f_XDe_sourceOctet u (nI m - nI (2 * k)) &&& 15) = nI (pkO S m k) := by
      rw [srcO u hm.2 hxo rfl (by omega) (by omega), srcO u hm.2 hxo rfl (by omega) (by omega)]
      unfold pkO
      by_cases c1 : 2 * k ≤ m
      · by_cases c2 : 2 * k + 1 ≤ m
        · rw [if_pos c1, if_pos c2, if_pos c1, if_pos c2, sa, sa, nib_or (Nat.mod_lt _ (by decide)) (Nat.mod_lt _ (by decide))]
        · rw [if_pos c1, if_neg c2, if_pos c1, if_neg c2, sa, show (0 : Int32) &&& 15 = nI 0 from rfl, nib_or (Nat.mod_lt _ (by decide)) (by decide)]
      · rw [if_neg c1, if_neg (by omega), if_neg c1, if_neg (by omega)]
        rfl
    have oM : ∀ K : Int32 → Option MS, jn (fun (K_33 : Int32 → Option MS) => jn (fun (K_39 : Option MS) => if nI m - nI (2 * k) < (0 : Int32) then K_39 else if (nI m - (1 : Int32)) ≤ nI m - nI (2 * k) then K_39 else ckI (nI m - nI (2 * k)) 256 (K_33 ((mA v 8 (Int32.toNatClampNeg (nI m - nI (2 * k)))) &&& (15 : Int32)))) (K_33 (0 : Int32))) (fun (x_32 : Int32) => jn (fun (K_35 : Int32 → Option MS) => if nI m - nI (2 * k + 1) < (0 : Int32) then K_35 (0 : Int32) else ckI (nI m - nI (2 * k + 1)) 256 (K_35 (((mA v 8 (Int32.toNatClampNeg (nI m - nI (2 * k + 1)))) &&& (15 : Int32)) <<< ((4 : Int32) &&& 31)))) (fun (x_34 : Int32) => nm (x_32 ||| x_34) (fun (x_36 : Int32) => K x_36))) = K (nI (pkO S m k)) := by
      intro K
      simp only [jnE, nmE]
      unfold pkO
      by_cases c1 : 2 * k ≤ m
      · have d1 : ¬ nI m - 1 ≤ nI m - nI (2 * k) := by
          rw [show (1 : Int32) = nI 1 from rfl, sI_le c1, sI_le hm.1]
          exact nI_ge (by omega) (by omega)
        rw [if_neg (by rw [sI_le c1]; exact nI_pos (by omega)), if_neg d1, ckIN (A := m - 2 * k) (sI_le c1) (by omega) (by decide), clN (sI_le c1) (by omega), hmo _ (by omega), sa]
        by_cases c2 : 2 * k + 1 ≤ m
        · rw [if_neg (by rw [sI_le c2]; exact nI_pos (by omega)), ckIN (A := m - (2 * k + 1)) (sI_le c2) (by omega) (by decide), clN (sI_le c2) (by omega), hmo _ (by omega), sa, nib_or' (Nat.mod_lt _ (by decide)) (Nat.mod_lt _ (by decide)), if_pos c1, if_pos c2]
        · rw [if_pos (sI_lt (by omega) (by omega)), if_pos c1, if_neg c2, Int32.or_zero]
          rfl
      · rw [if_pos (sI_lt (by omega) (by omega)), if_pos (sI_lt (by omega) (by omega)), if_neg c1, if_neg (by omega)]
        rfl
    obtain ⟨v', q1, q2, q3, q4⟩ := ih (k + 1) f g (xsM u (a1 + r) (nI (pkO S m k))) (msA v 1 (a1 + r) (nI (pkO S m k))) (by omega) (by omega) (by omega) (by omega) (hC.put _ (nb_ok hlt)) hxo (fun t ht => by rw [mA_A, if_neg (by decide)]; exact hmo t ht) hm8 hm11
    have e1 : lpN (f + 1) (g_XDe_packRest_10 (nI a1)) (fun _ _ _ => default) (nI m - nI (2 * k)) (nI (r + 1) - 1) u = lpN f (g_XDe_packRest_10 (nI a1)) (fun _ _ _ => default) (nI m - nI (2 * (k + 1))) (nI r - 1) (xsM u (a1 + r) (nI (pkO S m k))) := by
      show g_XDe_packRest_10 (nI a1) _ _ (nI (r + 1) - 1) u = _
      simp only [g_XDe_packRest_10, nI_pred, if_neg (nI_pos (show r < 2 ^ 31 by omega)), nmE, s1, s2, e2, oX, nI_add, x_put8 u (A := a1 + r) rfl hpos hlt]
    refine ⟨v', ?_, by rw [e1]; exact q2, by rw [e1, q3]; rfl, q4⟩
    show g_MMo_shifts_92 (nI p) (nI m) _ (nI k) v = _
    rw [← q1]
    have oM' := oM (fun x_16 => ckI ((((mF v 11) + nI p) - (1 : Int32)) - nI k) 1024 (nm (msA v 1 (Int32.toNatClampNeg ((((mF v 11) + nI p) - (1 : Int32)) - nI k)) x_16) (fun (u_18 : MS) => nm (nI k + (1 : Int32)) (fun (x_20 : Int32) => lpN g (g_MMo_shifts_92 (nI p) (nI m)) (fun _ _ => none) x_20 u_18))))
    simp only [g_MMo_shifts_92, if_neg (nI_ge (show k < p by omega) (show p < 2 ^ 31 by omega))]
    rw [jnE, if_pos hm8, nmE, m2, nmE, s1]
    rw [oM', hm11, pl, ckIN (n := 1024) (A := a1 + r) rfl hpos (by decide), nI_clamp (by omega), nmE, nmE, nI_1]
theorem sim_uk {a1 p m : Nat} {S : Nat → Nat} (hSS : ∀ t, S t < 256) (hm : 1 ≤ m ∧ m ≤ 16) (hp : p ≤ 16) (h1 : a1 + p ≤ 1024) : ∀ (d k fX fM : Nat) (u : XS) (v : MS), k + 1 + d = p → d < fX → d < fM → Core u v → (∀ t, t < m → xO u t = nI (S t)) → (∀ t, t < m → mA v 8 t = nI (S t)) → mF v 8 = 243 → mF v 11 = nI a1 → ∃ v', lpN fM (g_MMo_shifts_92 (nI p) (nI m)) (fun _ _ => none) (nI (k + 1)) v = some v' ∧ Core (lpN fX (g_XDe_unpackRest_3 (nI p) (nI m) (nI a1)) (fun _ _ => default) (nI k) u) v' ∧ xF (lpN fX (g_XDe_unpackRest_3 (nI p) (nI m) (nI a1)) (fun _ _ => default) (nI k) u) = xF u ∧ mF v' = mF v := by
  intro d
  induction d with
  | zero =>
    intro k fX fM u v hk hX hF hC hxo hmo hm8 hm11
    obtain ⟨f, rfl⟩ : ∃ f, fX = f + 1 := ⟨fX - 1, by omega⟩
    obtain ⟨g, rfl⟩ : ∃ f, fM = f + 1 := ⟨fM - 1, by omega⟩
    have e0 : nI p - 1 = nI (p - 1) := by rw [show (1 : Int32) = nI 1 from rfl, sI_le (by omega)]
    have e1 : lpN (f + 1) (g_XDe_unpackRest_3 (nI p) (nI m) (nI a1)) (fun _ _ => default) (nI k) u = u := by
      show g_XDe_unpackRest_3 (nI p) (nI m) (nI a1) _ (nI k) u = _
      simp only [g_XDe_unpackRest_3, e0]
      rw [if_pos (nI_le (by omega) (by omega))]
    refine ⟨v, ?_, by rw [e1]; exact hC, by rw [e1], rfl⟩
    show g_MMo_shifts_92 (nI p) (nI m) _ (nI (k + 1)) v = _
    simp only [g_MMo_shifts_92]
    rw [if_pos (nI_le (by omega) (by omega))]
  | succ d ih =>
    intro k fX fM u v hk hX hF hC hxo hmo hm8 hm11
    obtain ⟨f, rfl⟩ : ∃ f, fX = f + 1 := ⟨fX - 1, by omega⟩
    obtain ⟨g, rfl⟩ : ∃ f, fM = f + 1 := ⟨fM - 1, by omega⟩
    have hlt := ukO_lt hSS m (k + 1)
    obtain ⟨r, hr⟩ : ∃ r, r = d := ⟨_, rfl⟩
    have hpos : a1 + d < 1024 := by omega
    have e0 : nI p - 1 = nI (p - 1) := by rw [show (1 : Int32) = nI 1 from rfl, sI_le (by omega)]
    have dk : nI k / (2 : Int32) = nI (k / 2) := pk_div (d := 2) (by omega) (by decide) (by decide)
    have rk : nI k - nI k / (2 : Int32) * (2 : Int32) = nI (k % 2) := pk_rem (d := 2) (by omega) (by decide) (by decide)
    rw [dk] at rk
    have rk1 : nI (k + 1) - nI (k + 1) / (2 : Int32) * (2 : Int32) = nI ((k + 1) % 2) := pk_rem (d := 2) (by omega) (by decide) (by decide)
    have dk1 : nI (k + 1 + 1) / (2 : Int32) = nI ((k + 2) / 2) := pk_div (d := 2) (by omega) (by decide) (by decide)
    have pX : ((nI a1 + nI p) - 2) - nI k = nI (a1 + d) := by
      rw [nI_add, show (2 : Int32) = nI 2 from rfl, sI_sub, nI_add, sI_le (by omega)]
      congr 1
      omega
    have pM : ((nI a1 + nI p) - 1) - nI (k + 1) = nI (a1 + d) := by
      rw [sI_add1 a1 p (by omega) (k + 1) (by omega)]
      congr 1
      omega
    have sX : (nI m - 2) - nI (k / 2) = nI m - nI (1 + (k + 2) / 2) := by
      rw [show (2 : Int32) = nI 2 from rfl, sI_sub, nI_add]
      congr 2
      omega
    have sM : (nI m - 1) - nI ((k + 2) / 2) = nI m - nI (1 + (k + 2) / 2) := by
      rw [show (1 : Int32) = nI 1 from rfl, sI_sub, nI_add]
    have sh : ∀ t, (nI (S t) >>> ((4 : Int32) &&& 31)) = nI (S t / 16) := fun t => pk_shrN (by have := hSS t; omega) _ 4 rfl
    have sa : ∀ t, nI (S t) &&& 15 = nI (S t % 16) := fun t => a15 _ (by have := hSS t; omega)
    have q0 : (nI (k % 2) = (0 : Int32)) ↔ k % 2 = 0 := nI_eq (b := 0) (by omega) (by decide)
    have q1 : (nI ((k + 1) % 2) = (1 : Int32)) ↔ k % 2 = 0 := by
      rw [show (1 : Int32) = nI 1 from rfl, nI_eq (by omega) (by decide)]
      omega
    have uk : ukO S m (k + 1) = 240 + (if 1 + (k + 2) / 2 ≤ m then (if k % 2 = 0 then S (m - (1 + (k + 2) / 2)) % 16 else S (m - (1 + (k + 2) / 2)) / 16) else 0) := by
      unfold ukO
      have : ((k + 1) % 2 = 1) = (k % 2 = 0) := propext (by omega)
      simp only [this]
    obtain ⟨v', r1, r2, r3, r4⟩ := ih (k + 1) f g (xsM u (a1 + d) (nI (ukO S m (k + 1)))) (msA v 1 (a1 + d) (nI (ukO S m (k + 1)))) (by omega) (by omega) (by omega) (hC.put _ (nb_ok hlt)) hxo (fun t ht => by rw [mA_A, if_neg (by decide)]; exact hmo t ht) hm8 hm11
    have e1 : lpN (f + 1) (g_XDe_unpackRest_3 (nI p) (nI m) (nI a1)) (fun _ _ => default) (nI k) u = lpN f (g_XDe_unpackRest_3 (nI p) (nI m) (nI a1)) (fun _ _ => default) (nI (k + 1)) (xsM u (a1 + d) (nI (ukO S m (k + 1)))) := by
      show g_XDe_unpackRest_3 (nI p) (nI m) (nI a1) _ (nI k) u = _
      simp only [g_XDe_unpackRest_3, e0, if_neg (nI_ge (show k < p - 1 by omega) (show p - 1 < 2 ^ 31 by omega)), nmE, jnE, rk, dk, sX, srcO u hm.2 hxo rfl (show 1 ≤ 1 + (k + 2) / 2 by omega) (show 1 + (k + 2) / 2 < 1000 by omega), pX, nI_1]
      have hz : ∀ x, x = nI (ukO S m (k + 1)) → f_XMe_put u (nI (a1 + d)) x = xsM u (a1 + d) (nI (ukO S m (k + 1))) := fun x hx => by rw [hx]; exact x_put8 u (A := a1 + d) rfl hpos hlt
      have hS9 := hSS (m - (1 + (k + 2) / 2))
      by_cases c1 : k % 2 = 0
      · rw [if_pos (q0.mpr c1)]
        rw [hz _ (by
          rw [uk]
          by_cases c2 : 1 + (k + 2) / 2 ≤ m
          · rw [if_pos c2, if_pos c2, if_pos c1, sa, z240 (by omega)]
          · rw [if_neg c2, if_neg c2]; rfl)]
      · rw [if_neg (fun h => c1 (q0.mp h))]
        rw [hz _ (by
          rw [uk]
          by_cases c2 : 1 + (k + 2) / 2 ≤ m
          · rw [if_pos c2, if_pos c2, if_neg c1, sh, z240 (by omega)]
          · rw [if_neg c2, if_neg c2]; rfl)]
    refine ⟨v', ?_, by rw [e1]; exact r2, by rw [e1, r3]; rfl, r4⟩
    show g_MMo_shifts_92 (nI p) (nI m) _ (nI (k + 1)) v = _
    rw [← r1]
    have hS9 := hSS (m - (1 + (k + 2) / 2))
    simp +decide only [g_MMo_shifts_92, if_neg (nI_ge (show k + 1 < p by omega) (show p < 2 ^ 31 by omega)), nmE, jnE, hm8, ↓reduceIte, hm11, pM, nI_1, rk1, dk1, sM, ckIN (n := 1024) (A := a1 + d) rfl hpos (by decide), nI_clamp (show a1 + d < 2 ^ 31 by omega)]
    rw [uk]
    by_cases c2 : 1 + (k + 2) / 2 ≤ m
    · have p0 : (0 : Int32) ≤ nI m - nI (1 + (k + 2) / 2) := by rw [sI_le c2]; exact nI_pos' (by omega)
      rw [if_pos p0, ckIN (A := m - (1 + (k + 2) / 2)) (sI_le c2) (by omega) (by decide), ckIN (A := m - (1 + (k + 2) / 2)) (sI_le c2) (by omega) (by decide), clN (sI_le c2) (by omega), hmo _ (by omega), sa, sh, z240 (by omega), z240 (by omega), if_pos c2]
      by_cases c1 : k % 2 = 0
      · rw [if_pos (q1.mpr c1), if_pos c1]
      · rw [if_neg (fun h => c1 (q1.mp h)), if_neg c1]
    · have p0 : ¬ (0 : Int32) ≤ nI m - nI (1 + (k + 2) / 2) := by
        rw [Int32.not_le]
        exact sI_lt (by omega) (by omega)
      rw [if_neg p0, if_neg c2]
      rfl
theorem x_src (a2 m : Nat) (K : XS → Int32 × XS) (hm : m ≤ 16) (h2 : a2 + m ≤ 1024) : ∀ (d t fX : Nat) (u : XS), t + d = m → d < fX → xF u 9 = nI a2 → (∀ k, k < t → xO u k = xM u (a2 + k)) → ∃ u', lpN fX (g_XDe_changeForm_49 (nI m) K) (fun _ _ => default) (nI t) u = K u' ∧ xM u' = xM u ∧ xR u' = xR u ∧ xF u' = xF u ∧ ∀ k, k < m → xO u' k = xM u (a2 + k) := by
  intro d
  induction d with
  | zero =>
    intro t fX u ht hX hx9 hk
    obtain ⟨f, rfl⟩ : ∃ f, fX = f + 1 := ⟨fX - 1, by omega⟩
    refine ⟨u, ?_, rfl, rfl, rfl, fun k h => hk k (by omega)⟩
    show g_XDe_changeForm_49 (nI m) K _ (nI t) u = _
    simp only [g_XDe_changeForm_49]
    rw [if_pos (nI_le (by omega) (by omega))]
  | succ d ih =>
    intro t fX u ht hX hx9 hk
    obtain ⟨f, rfl⟩ : ∃ f, fX = f + 1 := ⟨fX - 1, by omega⟩
    have k2 : a2 + t < 1024 := by omega
    obtain ⟨u', e1, e2, e3, e4, e5⟩ := ih (t + 1) f (xsO u t (xM u (a2 + t))) (by omega) (by omega) hx9 (fun k h => by
      rw [xO_O, updE]
      by_cases c : k = t
      · rw [if_pos c, c]; rfl
      · rw [if_neg c]; exact hk k (by omega))
    refine ⟨u', ?_, e2, e3, e4, e5⟩
    show g_XDe_changeForm_49 (nI m) K _ (nI t) u = _
    simp only [g_XDe_changeForm_49, if_neg (nI_ge (show t < m by omega) (show m < 2 ^ 31 by omega)), if_neg (show ¬ (16 : Int32) ≤ nI t from nI_ge (b := 16) (show t < 16 by omega) (by decide)), nmE, hx9, nI_add, getN u (A := a2 + t) rfl k2, nI_clamp (show t < 2 ^ 31 by omega), nI_1]
    exact e1
theorem m_src (a2 m : Nat) (K : MS → Option MS) (hm : m ≤ 16) (h2 : a2 + m ≤ 1024) (v0 : MS) (hm12 : mF v0 12 = nI a2) : ∀ (d t fM : Nat) (w : MS), t + d = m → d < fM → mF w = mF v0 → (∀ p, p ≠ 8 → mA w p = mA v0 p) → (∀ k, k < t → mA w 8 k = mA v0 1 (a2 + k)) → ∃ w', lpN fM (g_MMo_shifts_43 (nI m) K) (fun _ _ => none) (nI t) w = K w' ∧ mF w' = mF v0 ∧ (∀ p, p ≠ 8 → mA w' p = mA v0 p) ∧ ∀ k, k < m → mA w' 8 k = mA v0 1 (a2 + k) := by
  intro d
  induction d with
  | zero =>
    intro t fM w ht hF hf hp hk
    obtain ⟨g, rfl⟩ : ∃ f, fM = f + 1 := ⟨fM - 1, by omega⟩
    refine ⟨w, ?_, hf, hp, fun k h => hk k (by omega)⟩
    show g_MMo_shifts_43 (nI m) K _ (nI t) w = _
    simp only [g_MMo_shifts_43]
    rw [if_pos (nI_le (by omega) (by omega))]
  | succ d ih =>
    intro t fM w ht hF hf hp hk
    obtain ⟨g, rfl⟩ : ∃ f, fM = f + 1 := ⟨fM - 1, by omega⟩
    have k1 : a2 + t < 1024 := by omega
    have k3 : t < 256 := by omega
    obtain ⟨w', e1, e2, e3, e4⟩ := ih (t + 1) g (msA w 8 t (mA w 1 (a2 + t))) (by omega) (by omega) hf (fun p h => by rw [mA_A, if_neg h]; exact hp p h) (fun k h => by
      rw [mA_A, if_pos rfl, updE]
      by_cases c : k = t
      · rw [if_pos c, c, hp 1 (by decide)]
      · rw [if_neg c]; exact hk k (by omega))
    refine ⟨w', ?_, e2, e3, e4⟩
    show g_MMo_shifts_43 (nI m) K _ (nI t) w = _
    simp only [g_MMo_shifts_43, if_neg (nI_ge (show t < m by omega) (show m < 2 ^ 31 by omega)), nmE, hf, hm12, nI_add, ckIN (n := 1024) (A := a2 + t) rfl k1 (by decide), ckIN (n := 256) (A := t) rfl k3 (by decide), nI_clamp (show a2 + t < 2 ^ 31 by omega), nI_clamp (show t < 2 ^ 31 by omega), nI_1]
    exact e1
theorem swp {x : Nat} (hx : x < 256) : ((nI x &&& 15) <<< ((4 : Int32) &&& 31)) ||| (nI x >>> ((4 : Int32) &&& 31)) = nI (x / 16 + 16 * (x % 16)) := by
  rw [a15 x (by omega), pk_shrN (by omega) _ 4 rfl, nib_or (by omega) (by omega)]
theorem Core.same {u u' : XS} {v v' : MS} (h : Core u v) (h1 : xM u' = xM u) (h2 : xR u' = xR u) (h3 : xF u' = xF u) (m1 : mA v' 1 = mA v 1) (m2 : mA v' 2 = mA v 2) (m3 : mF v' = mF v) : Core u' v' := by
  unfold Core at h ⊢
  rw [h1, h2, h3, m1, m2, m3]
  exact h

theorem op_242 {u : XS} {v : MS} {s i j a1 a2 at0 : Nat} (h : Dd u v 242 s i j a1 a2 at0) : Out (f_XPr_perform u) v := by
  obtain ⟨n, hn, hnx, hbh, hact⟩ := h.act
  have hact := hact.2.2.2.2.1 (by decide) (by decide)
  obtain ⟨hC, ⟨-, hs, hi, hj, h1, h2⟩, ⟨hlo, hhi, hsij⟩, ⟨hx4, hm8⟩, ⟨hx5, hm10⟩, ⟨hx6, hx7⟩, hA2, hA1, hA12, ⟨h13, h0, hat⟩, -⟩ := h
  have hx4 : xF u 4 = 242 := hx4
  have hm8 : mF v 8 = 242 := hm8
  have hR : xR u = mA v 2 := hC.2.1
  obtain ⟨hx9, hm12⟩ := hA2 (by decide)
  obtain ⟨hx8, hm11⟩ := hA1 (by decide)
  have lh1 := fun w => lies_holds w u (nI a1) (n := nI (i + 1)) (N := i + 1) rfl (by omega)
  have lh2 := fun w => lies_holds w u (nI a2) (n := nI (j + 1)) (N := j + 1) rfl (by omega)
  cases hh1 : f_XMe_holds u (nI a1) (nI (i + 1)) with
  | false =>
    have hl : f_MMo_looks v = some (msF v 13 5) := by simp +decide only [f_MMo_looks, bI0, wrong_f, f_MMo_low, f_MMo_high, nmE, jnE, bd1S, hm10, hm8, hlo, hhi, mF_F, mA_F, mF_A, Nat.reduceEqDiff, ↓reduceIte, bd1_id, ckIN (n := 16) (A := j) rfl hj (by decide), ckIN (n := 16) (A := i) rfl hi (by decide), nI_clamp (show j < 2 ^ 31 by omega), nI_clamp (show i < 2 ^ 31 by omega), hm11, hm12, ite_self, nI_1, wrong_t v 5 h13, lh1, hh1]
    have eX : f_XPr_perform u = (5, u) := by simp +decide only [f_XPr_perform, prI, prE, nmE, jnE, hx4, hx5, hx6, hx7, bI0, ↓reduceIte, x_val _ rfl hi, x_val _ rfl hj, x_putR _ _ rfl hi, hR, xF_R, xF_F, xR_R, xR_F, hnx, hbh, hx8, hx9, f_XDe_changeForm, nI_1, hh1]
    rw [eX]
    exact Out.no hl rfl (by unfold nok; decide) hC
  | true =>
  have k1 := holdsT h1 (by omega) hh1
  cases hh2 : f_XMe_holds u (nI a2) (nI (j + 1)) with
  | false =>
    have hl : f_MMo_looks v = some (msF v 13 5) := by simp +decide only [f_MMo_looks, bI0, wrong_f, f_MMo_low, f_MMo_high, nmE, jnE, bd1S, hm10, hm8, hlo, hhi, mF_F, mA_F, mF_A, Nat.reduceEqDiff, ↓reduceIte, bd1_id, ckIN (n := 16) (A := j) rfl hj (by decide), ckIN (n := 16) (A := i) rfl hi (by decide), nI_clamp (show j < 2 ^ 31 by omega), nI_clamp (show i < 2 ^ 31 by omega), hm11, hm12, ite_self, nI_1, wrong_t v 5 h13, lh1, hh1, lh2, hh2]
    have eX : f_XPr_perform u = (5, u) := by simp +decide only [f_XPr_perform, prI, prE, nmE, jnE, hx4, hx5, hx6, hx7, bI0, ↓reduceIte, x_val _ rfl hi, x_val _ rfl hj, x_putR _ _ rfl hi, hR, xF_R, xF_F, xR_R, xR_F, hnx, hbh, hx8, hx9, f_XDe_changeForm, nI_1, hh1, hh2]
    rw [eX]
    exact Out.no hl rfl (by unfold nok; decide) hC
  | true =>
  have k2 := holdsT h2 (by omega) hh2
  have hl : f_MMo_looks v = some v := by simp +decide only [f_MMo_looks, bI0, wrong_f, f_MMo_low, f_MMo_high, nmE, jnE, bd1S, hm10, hm8, hlo, hhi, mF_F, mA_F, mF_A, Nat.reduceEqDiff, ↓reduceIte, bd1_id, ckIN (n := 16) (A := j) rfl hj (by decide), ckIN (n := 16) (A := i) rfl hi (by decide), nI_clamp (show j < 2 ^ 31 by omega), nI_clamp (show i < 2 ^ 31 by omega), hm11, hm12, ite_self, nI_1, lh1, hh1, lh2, hh2]
  obtain ⟨b, hb, hxb, hmb⟩ := hC.nb
  have hbl := hb (a2 + j)
  have hsw : b (a2 + j) / 16 + 16 * (b (a2 + j) % 16) < 256 := by omega
  have pl1 : nI a1 + nI (i + 1) - 1 = nI (a1 + i) := by rw [nI_add, ← Nat.add_assoc, nI_pred]
  have pl2 : nI a2 + nI (j + 1) - 1 = nI (a2 + j) := by rw [nI_add, ← Nat.add_assoc, nI_pred]
  have c1 : a1 + i < 1024 := by omega
  have c2 : a2 + j < 1024 := by omega
  have fu : j + 1 < (Int32.toInt (nI (j + 1)) - Int32.toInt (0 : Int32)).toNat + 1 := by rw [nI_toInt (by omega), show (0 : Int32).toInt = 0 from rfl]; omega
  obtain ⟨u', e1, e2, e3, e4, e5⟩ := x_src a2 (j + 1) (fun (u_7 : XS) => nm (f_XDe_sourceOctet u_7 (nI (j + 1) - (1 : Int32))) (fun (x_9 : Int32) => nm (f_XMe_put u_7 (((xF u_7 8) + nI (i + 1)) - (1 : Int32)) (((x_9 &&& (15 : Int32)) <<< ((4 : Int32) &&& 31)) ||| (x_9 >>> ((4 : Int32) &&& 31)))) (fun (u_10 : XS) => if (xF u_10 4) = (242 : Int32) then nm (f_XDe_packRest u_10 (xF u_10 8) (nI (i + 1)) (nI (j + 1))) (fun (u_13 : XS) => ((0 : Int32), u_13)) else nm (f_XDe_unpackRest u_10 (xF u_10 8) (nI (i + 1)) (nI (j + 1))) (fun (u_12 : XS) => ((0 : Int32), u_12))))) (by omega) (by omega) (j + 1) 0 _ u (by omega) fu hx9 (fun k h => by omega)
  obtain ⟨w', w1, w2, w3, w4⟩ := m_src a2 (j + 1) (fun (u_8 : MS) => ckI (((mF u_8 11) + nI (i + 1)) - (1 : Int32)) 1024 (nm (msA u_8 1 (Int32.toNatClampNeg (((mF u_8 11) + nI (i + 1)) - (1 : Int32))) (((nI (b (a2 + j)) &&& (15 : Int32)) <<< ((4 : Int32) &&& 31)) ||| (nI (b (a2 + j)) >>> ((4 : Int32) &&& 31)))) (fun (u_10 : MS) => lpN fuelM (g_MMo_shifts_92 (nI (i + 1)) (nI (j + 1))) (fun _ _ => none) (1 : Int32) u_10))) (by omega) (by omega) (msF v 2 (nI n)) hm12 (j + 1) 0 fuelM (msF v 2 (nI n)) (by omega) (by unfold fuelM; omega) rfl (fun _ _ => rfl) (fun k h => by omega)
  have hCw : Core u' w' := (hC.mn (nI n)).same e2 e3 e4 (w3 1 (by decide)) (w3 2 (by decide)) w2
  have so : f_XDe_sourceOctet u' (nI (j + 1) - 1) = nI (b (a2 + j)) := by
    rw [nI_pred]
    unfold f_XDe_sourceOctet
    rw [if_neg (nI_pos (by omega)), if_neg (show ¬ (16 : Int32) ≤ nI j from nI_ge (b := 16) hj (by decide)), nI_clamp (by omega), e5 j (by omega), hxb]
  have fuX : i < (Int32.toInt (nI (i + 1) - 2) + 1).toNat + 1 := by
    have : (nI (i + 1) - 2).toInt = ((i + 1 : Nat) : Int) - 2 := pk_sub_toInt (a := i + 1) (b := 2) (by omega) (by omega)
    rw [this]
    omega
  obtain ⟨v', q1, q2, q3, q4⟩ := sim_pk (a1 := a1) (p := i + 1) (m := j + 1) (S := fun k => b (a2 + k)) (fun t => hb _) (by omega) (by omega) k1 i 1 _ fuelM (xsM u' (a1 + i) (nI (b (a2 + j) / 16 + 16 * (b (a2 + j) % 16)))) (msA w' 1 (a1 + i) (nI (b (a2 + j) / 16 + 16 * (b (a2 + j) % 16)))) (by omega) (by omega) fuX (by unfold fuelM; omega) (hCw.put _ (nb_ok hsw)) (fun t ht => by rw [xO_M, e5 t ht, hxb]) (fun t ht => by rw [mA_A, if_neg (by decide), w4 t ht]; exact hmb _) (by rw [mF_A, w2]; exact hm8) (by rw [mF_A, w2]; exact hm11)
  have z1 : nI (i + 1) - (2 : Int32) = nI i - 1 := by
    rw [show (2 : Int32) = nI 1 + nI 1 from rfl, ← sI_sub]
    show nI (i + 1) - 1 - 1 = _
    rw [nI_pred]
  have z2 : nI (j + 1) - (2 : Int32) = nI (j + 1) - nI (2 * 1) := rfl
  rw [z1] at q2 q3 fuX
  have eX : f_XPr_perform u = (0, lpN ((Int32.toInt (nI i - 1) + 1).toNat + 1) (g_XDe_packRest_10 (nI a1)) (fun _ _ _ => default) (nI (j + 1) - nI (2 * 1)) (nI i - 1) (xsM u' (a1 + i) (nI (b (a2 + j) / 16 + 16 * (b (a2 + j) % 16))))) := by
    rw [show nI 0 = (0 : Int32) from rfl] at e1
    simp +decide only [f_XPr_perform, prI, prE, nmE, jnE, hx4, hx5, hx6, hx7, bI0, ↓reduceIte, x_val _ rfl hi, x_val _ rfl hj, x_putR _ _ rfl hi, hR, xF_R, xF_F, xR_R, xR_F, hnx, hbh, hx8, hx9, f_XDe_changeForm, nI_1, hh1, hh2]
    simp only [nmE, bI0] at e1
    rw [e1]
    simp +decide only [so, swp hbl, e4, hx8, hx4, xF_M, pl1, x_put8 u' (A := a1 + i) rfl c1 hsw, ↓reduceIte, f_XDe_packRest, z1, z2, nmE]
    try rfl
  have eM : f_MMo_shifts (msF v 2 (nI n)) = some v' := by
    rw [show nI 0 = (0 : Int32) from rfl] at w1
    simp only [f_MMo_shifts, f_MMo_low, f_MMo_high, mF_F, mA_F, Nat.reduceEqDiff, ↓reduceIte, nmE, jnE, bd1S, hm10, hlo, hhi, hm11, hm12, nI_1, pl2, ckIN (n := 1024) (A := a2 + j) rfl c2 (by decide), nI_clamp (show a2 + j < 2 ^ 31 by omega), hmb]
    simp only [nmE] at w1
    rw [w1, w2]
    simp only [mF_F, Nat.reduceEqDiff, ↓reduceIte, hm11, pl1, ckIN (n := 1024) (A := a1 + i) rfl c1 (by decide), nI_clamp (show a1 + i < 2 ^ 31 by omega), swp hbl]
    exact q1
  rw [eX]
  refine Sim.out (n := n) (r := f_MMo_shifts (msF v 2 (nI n))) ?_ hl h13 hact hnx hn
  rw [eM]
  exact Sim.mk ok0 (by rw [q4, mF_A, w2]; exact h13) q2 (by rw [q4, mF_A, w2]) (by rw [q4, mF_A, w2]) (by rw [q3, xF_M, e4])
theorem op_243 {u : XS} {v : MS} {s i j a1 a2 at0 : Nat} (h : Dd u v 243 s i j a1 a2 at0) : Out (f_XPr_perform u) v := by
  obtain ⟨n, hn, hnx, hbh, hact⟩ := h.act
  have hact := hact.2.2.2.2.1 (by decide) (by decide)
  obtain ⟨hC, ⟨-, hs, hi, hj, h1, h2⟩, ⟨hlo, hhi, hsij⟩, ⟨hx4, hm8⟩, ⟨hx5, hm10⟩, ⟨hx6, hx7⟩, hA2, hA1, hA12, ⟨h13, h0, hat⟩, -⟩ := h
  have hx4 : xF u 4 = 243 := hx4
  have hm8 : mF v 8 = 243 := hm8
  have hR : xR u = mA v 2 := hC.2.1
  obtain ⟨hx9, hm12⟩ := hA2 (by decide)
  obtain ⟨hx8, hm11⟩ := hA1 (by decide)
  have lh1 := fun w => lies_holds w u (nI a1) (n := nI (i + 1)) (N := i + 1) rfl (by omega)
  have lh2 := fun w => lies_holds w u (nI a2) (n := nI (j + 1)) (N := j + 1) rfl (by omega)
  cases hh1 : f_XMe_holds u (nI a1) (nI (i + 1)) with
  | false =>
    have hl : f_MMo_looks v = some (msF v 13 5) := by simp +decide only [f_MMo_looks, bI0, wrong_f, f_MMo_low, f_MMo_high, nmE, jnE, bd1S, hm10, hm8, hlo, hhi, mF_F, mA_F, mF_A, Nat.reduceEqDiff, ↓reduceIte, bd1_id, ckIN (n := 16) (A := j) rfl hj (by decide), ckIN (n := 16) (A := i) rfl hi (by decide), nI_clamp (show j < 2 ^ 31 by omega), nI_clamp (show i < 2 ^ 31 by omega), hm11, hm12, ite_self, nI_1, wrong_t v 5 h13, lh1, hh1]
    have eX : f_XPr_perform u = (5, u) := by simp +decide only [f_XPr_perform, prI, prE, nmE, jnE, hx4, hx5, hx6, hx7, bI0, ↓reduceIte, x_val _ rfl hi, x_val _ rfl hj, x_putR _ _ rfl hi, hR, xF_R, xF_F, xR_R, xR_F, hnx, hbh, hx8, hx9, f_XDe_changeForm, nI_1, hh1]
    rw [eX]
    exact Out.no hl rfl (by unfold nok; decide) hC
  | true =>
  have k1 := holdsT h1 (by omega) hh1
  cases hh2 : f_XMe_holds u (nI a2) (nI (j + 1)) with
  | false =>
    have hl : f_MMo_looks v = some (msF v 13 5) := by simp +decide only [f_MMo_looks, bI0, wrong_f, f_MMo_low, f_MMo_high, nmE, jnE, bd1S, hm10, hm8, hlo, hhi, mF_F, mA_F, mF_A, Nat.reduceEqDiff, ↓reduceIte, bd1_id, ckIN (n := 16) (A := j) rfl hj (by decide), ckIN (n := 16) (A := i) rfl hi (by decide), nI_clamp (show j < 2 ^ 31 by omega), nI_clamp (show i < 2 ^ 31 by omega), hm11, hm12, ite_self, nI_1, wrong_t v 5 h13, lh1, hh1, lh2, hh2]
    have eX : f_XPr_perform u = (5, u) := by simp +decide only [f_XPr_perform, prI, prE, nmE, jnE, hx4, hx5, hx6, hx7, bI0, ↓reduceIte, x_val _ rfl hi, x_val _ rfl hj, x_putR _ _ rfl hi, hR, xF_R, xF_F, xR_R, xR_F, hnx, hbh, hx8, hx9, f_XDe_changeForm, nI_1, hh1, hh2]
    rw [eX]
    exact Out.no hl rfl (by unfold nok; decide) hC
  | true =>
  have k2 := holdsT h2 (by omega) hh2
  have hl : f_MMo_looks v = some v := by simp +decide only [f_MMo_looks, bI0, wrong_f, f_MMo_low, f_MMo_high, nmE, jnE, bd1S, hm10, hm8, hlo, hhi, mF_F, mA_F, mF_A, Nat.reduceEqDiff, ↓reduceIte, bd1_id, ckIN (n := 16) (A := j) rfl hj (by decide), ckIN (n := 16) (A := i) rfl hi (by decide), nI_clamp (show j < 2 ^ 31 by omega), nI_clamp (show i < 2 ^ 31 by omega), hm11, hm12, ite_self, nI_1, lh1, hh1, lh2, hh2]
  obtain ⟨b, hb, hxb, hmb⟩ := hC.nb
  have hbl := hb (a2 + j)
  have hsw : b (a2 + j) / 16 + 16 * (b (a2 + j) % 16) < 256 := by omega
  have pl1 : nI a1 + nI (i + 1) - 1 = nI (a1 + i) := by rw [nI_add, ← Nat.add_assoc, nI_pred]
  have pl2 : nI a2 + nI (j + 1) - 1 = nI (a2 + j) := by rw [nI_add, ← Nat.add_assoc, nI_pred]
  have c1 : a1 + i < 1024 := by omega
  have c2 : a2 + j < 1024 := by omega
  have fu : j + 1 < (Int32.toInt (nI (j + 1)) - Int32.toInt (0 : Int32)).toNat + 1 := by rw [nI_toInt (by omega), show (0 : Int32).toInt = 0 from rfl]; omega
  obtain ⟨u', e1, e2, e3, e4, e5⟩ := x_src a2 (j + 1) (fun (u_7 : XS) => nm (f_XDe_sourceOctet u_7 (nI (j + 1) - (1 : Int32))) (fun (x_9 : Int32) => nm (f_XMe_put u_7 (((xF u_7 8) + nI (i + 1)) - (1 : Int32)) (((x_9 &&& (15 : Int32)) <<< ((4 : Int32) &&& 31)) ||| (x_9 >>> ((4 : Int32) &&& 31)))) (fun (u_10 : XS) => if (xF u_10 4) = (242 : Int32) then nm (f_XDe_packRest u_10 (xF u_10 8) (nI (i + 1)) (nI (j + 1))) (fun (u_13 : XS) => ((0 : Int32), u_13)) else nm (f_XDe_unpackRest u_10 (xF u_10 8) (nI (i + 1)) (nI (j + 1))) (fun (u_12 : XS) => ((0 : Int32), u_12))))) (by omega) (by omega) (j + 1) 0 _ u (by omega) fu hx9 (fun k h => by omega)
  obtain ⟨w', w1, w2, w3, w4⟩ := m_src a2 (j + 1) (fun (u_8 : MS) => ckI (((mF u_8 11) + nI (i + 1)) - (1 : Int32)) 1024 (nm (msA u_8 1 (Int32.toNatClampNeg (((mF u_8 11) + nI (i + 1)) - (1 : Int32))) (((nI (b (a2 + j)) &&& (15 : Int32)) <<< ((4 : Int32) &&& 31)) ||| (nI (b (a2 + j)) >>> ((4 : Int32) &&& 31)))) (fun (u_10 : MS) => lpN fuelM (g_MMo_shifts_92 (nI (i + 1)) (nI (j + 1))) (fun _ _ => none) (1 : Int32) u_10))) (by omega) (by omega) (msF v 2 (nI n)) hm12 (j + 1) 0 fuelM (msF v 2 (nI n)) (by omega) (by unfold fuelM; omega) rfl (fun _ _ => rfl) (fun k h => by omega)
  have hCw : Core u' w' := (hC.mn (nI n)).same e2 e3 e4 (w3 1 (by decide)) (w3 2 (by decide)) w2
  have so : f_XDe_sourceOctet u' (nI (j + 1) - 1) = nI (b (a2 + j)) := by
    rw [nI_pred]
    unfold f_XDe_sourceOctet
    rw [if_neg (nI_pos (by omega)), if_neg (show ¬ (16 : Int32) ≤ nI j from nI_ge (b := 16) hj (by decide)), nI_clamp (by omega), e5 j (by omega), hxb]
  have fuX : i < (Int32.toInt (nI (i + 1) - 1) - Int32.toInt (0 : Int32)).toNat + 1 := by
    rw [nI_pred, nI_toInt (by omega), show (0 : Int32).toInt = 0 from rfl]
    omega
  obtain ⟨v', q1, q2, q3, q4⟩ := sim_uk (a1 := a1) (p := i + 1) (m := j + 1) (S := fun k => b (a2 + k)) (fun t => hb _) (by omega) (by omega) k1 i 0 _ fuelM (xsM u' (a1 + i) (nI (b (a2 + j) / 16 + 16 * (b (a2 + j) % 16)))) (msA w' 1 (a1 + i) (nI (b (a2 + j) / 16 + 16 * (b (a2 + j) % 16)))) (by omega) fuX (by unfold fuelM; omega) (hCw.put _ (nb_ok hsw)) (fun t ht => by rw [xO_M, e5 t ht, hxb]) (fun t ht => by rw [mA_A, if_neg (by decide), w4 t ht]; exact hmb _) (by rw [mF_A, w2]; exact hm8) (by rw [mF_A, w2]; exact hm11)
  have eX : f_XPr_perform u = (0, lpN ((Int32.toInt (nI (i + 1) - 1) - Int32.toInt (0 : Int32)).toNat + 1) (g_XDe_unpackRest_3 (nI (i + 1)) (nI (j + 1)) (nI a1)) (fun _ _ => default) (nI 0) (xsM u' (a1 + i) (nI (b (a2 + j) / 16 + 16 * (b (a2 + j) % 16))))) := by
    rw [show nI 0 = (0 : Int32) from rfl] at e1
    simp +decide only [f_XPr_perform, prI, prE, nmE, jnE, hx4, hx5, hx6, hx7, bI0, ↓reduceIte, x_val _ rfl hi, x_val _ rfl hj, x_putR _ _ rfl hi, hR, xF_R, xF_F, xR_R, xR_F, hnx, hbh, hx8, hx9, f_XDe_changeForm, nI_1, hh1, hh2]
    simp only [nmE, bI0] at e1
    rw [e1]
    simp +decide only [so, swp hbl, e4, hx8, hx4, xF_M, pl1, x_put8 u' (A := a1 + i) rfl c1 hsw, ↓reduceIte, f_XDe_unpackRest, nmE]
    rfl
  have eM : f_MMo_shifts (msF v 2 (nI n)) = some v' := by
    rw [show nI 0 = (0 : Int32) from rfl] at w1
    simp only [f_MMo_shifts, f_MMo_low, f_MMo_high, mF_F, mA_F, Nat.reduceEqDiff, ↓reduceIte, nmE, jnE, bd1S, hm10, hlo, hhi, hm11, hm12, nI_1, pl2, ckIN (n := 1024) (A := a2 + j) rfl c2 (by decide), nI_clamp (show a2 + j < 2 ^ 31 by omega), hmb]
    simp only [nmE] at w1
    rw [w1, w2]
    simp only [mF_F, Nat.reduceEqDiff, ↓reduceIte, hm11, pl1, ckIN (n := 1024) (A := a1 + i) rfl c1 (by decide), nI_clamp (show a1 + i < 2 ^ 31 by omega), swp hbl]
    exact q1
  rw [eX]
  refine Sim.out (n := n) (r := f_MMo_shifts (msF v 2 (nI n))) ?_ hl h13 hact hnx hn
  rw [eM]
  exact Sim.mk ok0 (by rw [q4, mF_A, w2]; exact h13) q2 (by rw [q4, mF_A, w2]) (by rw [q4, mF_A, w2]) (by rw [q3, xF_M, e4])
