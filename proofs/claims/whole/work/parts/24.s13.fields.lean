/-! fields, octet by octet -/
theorem msF_2 (v : MS) (i : Nat) (a b : Int32) : msF (msF v i a) i b = msF v i b := by
  refine Prod.ext rfl (funext fun j => ?_)
  show upd (upd v.2 i a) i b j = upd v.2 i b j
  rw [updE, updE, updE]
  split <;> rfl
theorem msF_id (v : MS) (i : Nat) : msF v i (mF v i) = v := by
  refine Prod.ext rfl (funext fun j => ?_)
  show upd v.2 i (v.2 i) j = v.2 j
  rw [updE]
  split
  · rename_i h; rw [h]
  · rfl
theorem x_put8 (u : XS) {a : Int32} {A b : Nat} (ha : a = nI A) (hA : A < 1024) (hb : b < 256) : f_XMe_put u a (nI b) = xsM u A (nI b) := x_put u ha hA rfl hb
theorem holdsT {u : XS} {A N : Nat} (hA : A < 16777216) (hN : N ≤ 1024) (h : f_XMe_holds u (nI A) (nI N) = true) : A + N ≤ 1024 := by
  obtain ⟨A', e, h'⟩ := (holds_iff u (nI A) (n := nI N) (N := N) rfl hN).mp h
  have : A = A' := (nI_eq (by omega) (by omega)).mp e
  omega
theorem n240 : ∀ k : Nat, k < 256 → (k &&& 240) < 256 := fun k h => Nat.lt_of_le_of_lt Nat.and_le_right (by decide)
theorem n15 : ∀ k : Nat, (k &&& 15) < 256 := fun k => Nat.lt_of_le_of_lt Nat.and_le_right (by decide)

theorem join_209 (u : XS) {x y : Nat} (hx : x < 256) (hy : y < 256) : ∃ z, z < 256 ∧ f_XOc_join u 209 (nI x) (nI y) = nI z ∧ (nI x &&& 240) ||| (nI y &&& 15) = nI z := by
  refine ⟨x &&& 240 ||| y &&& 15, Nat.or_lt_two_pow (n := 8) (n240 x hx) (n15 y), ?_, ?_⟩
  · simp +decide only [f_XOc_join, ↓reduceIte, show (240 : Int32) = nI 240 from rfl, show (15 : Int32) = nI 15 from rfl, nx_and, nx_or, nx_xor]
  · simp only [show (240 : Int32) = nI 240 from rfl, show (15 : Int32) = nI 15 from rfl, nx_and, nx_or, nx_xor]

theorem sim_rw_209 {a1 a2 N : Nat} {KX : Int32 → XS → Int32 × XS} {KM : Int32 → MS → Option MS} (HK : ∀ (all : Int32) (u : XS) (v : MS), Core u v → mF v 13 = 0 → xF u 4 = 209 → mF v 8 = 209 → Sim (KX all u) (KM all v) u v) (h1 : a1 + N ≤ 1024) (h2 : a2 + N ≤ 1024) : ∀ (d t fX fM : Nat) (all : Int32) (u : XS) (v : MS), t + d = N → d < fX → d < fM → Core u v → mF v 13 = 0 → xF u 4 = 209 → xF u 8 = nI a1 → xF u 9 = nI a2 → mF v 8 = 209 → mF v 11 = nI a1 → mF v 12 = nI a2 → Sim (lpN fX (g_XOc_rewrite_5 (nI N) KX) (fun _ _ _ => default) all (nI t) u) (lpN fM (g_MMo_octets_100 (nI N) KM) (fun _ _ _ => none) all (nI t) v) u v := by
  intro d
  induction d with
  | zero =>
    intro t fX fM all u v ht hX hF hC h13 hx4 hx8 hx9 hm8 hm11 hm12
    obtain ⟨f, rfl⟩ : ∃ f, fX = f + 1 := ⟨fX - 1, by omega⟩
    obtain ⟨g, rfl⟩ : ∃ f, fM = f + 1 := ⟨fM - 1, by omega⟩
    show Sim (g_XOc_rewrite_5 (nI N) KX _ all (nI t) u) (g_MMo_octets_100 (nI N) KM _ all (nI t) v) u v
    simp only [g_XOc_rewrite_5, g_MMo_octets_100]
    rw [if_pos (nI_le (by omega) (by omega)), if_pos (nI_le (by omega) (by omega))]
    exact HK all u v hC h13 hx4 hm8
  | succ d ih =>
    intro t fX fM all u v ht hX hF hC h13 hx4 hx8 hx9 hm8 hm11 hm12
    obtain ⟨f, rfl⟩ : ∃ f, fX = f + 1 := ⟨fX - 1, by omega⟩
    obtain ⟨g, rfl⟩ : ∃ f, fM = f + 1 := ⟨fM - 1, by omega⟩
    show Sim (g_XOc_rewrite_5 (nI N) KX _ all (nI t) u) (g_MMo_octets_100 (nI N) KM _ all (nI t) v) u v
    obtain ⟨b, hb, hxb, hmb⟩ := hC.nb
    obtain ⟨z, hz, ez, em⟩ := join_209 u (hb (a1 + t)) (hb (a2 + t))
    have k1 : a1 + t < 1024 := by omega
    have k2 : a2 + t < 1024 := by omega
    simp +decide only [g_XOc_rewrite_5, g_MMo_octets_100, if_neg (nI_ge (show t < N by omega) (show N < 2 ^ 31 by omega)), nmE, jnE, hx4, hx8, hx9, hm8, hm11, hm12, mF_A, nI_add, ↓reduceIte, getN u (A := a1 + t) rfl k1, getN u (A := a2 + t) rfl k2, ckIN (n := 1024) (A := a1 + t) rfl k1 (by decide), ckIN (n := 1024) (A := a2 + t) rfl k2 (by decide), nI_clamp (show a1 + t < 2 ^ 31 by omega), nI_clamp (show a2 + t < 2 ^ 31 by omega), hxb, hmb, ez, em, x_put8 u (A := a1 + t) rfl k1 hz, msA_at, nI_1]
    refine Sim.from (ih (t + 1) f g _ _ _ (by omega) (by omega) (by omega) (hC.put _ (nb_ok hz)) h13 hx4 hx8 hx9 hm8 hm11 hm12) rfl rfl rfl
theorem sim_rw_210 {a1 a2 N : Nat} {KX : Int32 → XS → Int32 × XS} {KM : Int32 → MS → Option MS} (HK : ∀ (all : Int32) (u : XS) (v : MS), Core u v → mF v 13 = 0 → xF u 4 = 210 → mF v 8 = 210 → Sim (KX all u) (KM all v) u v) (h1 : a1 + N ≤ 1024) (h2 : a2 + N ≤ 1024) : ∀ (d t fX fM : Nat) (all : Int32) (u : XS) (v : MS), t + d = N → d < fX → d < fM → Core u v → mF v 13 = 0 → xF u 4 = 210 → xF u 8 = nI a1 → xF u 9 = nI a2 → mF v 8 = 210 → mF v 11 = nI a1 → mF v 12 = nI a2 → Sim (lpN fX (g_XOc_rewrite_5 (nI N) KX) (fun _ _ _ => default) all (nI t) u) (lpN fM (g_MMo_octets_100 (nI N) KM) (fun _ _ _ => none) all (nI t) v) u v := by
  intro d
  induction d with
  | zero =>
    intro t fX fM all u v ht hX hF hC h13 hx4 hx8 hx9 hm8 hm11 hm12
    obtain ⟨f, rfl⟩ : ∃ f, fX = f + 1 := ⟨fX - 1, by omega⟩
    obtain ⟨g, rfl⟩ : ∃ f, fM = f + 1 := ⟨fM - 1, by omega⟩
    show Sim (g_XOc_rewrite_5 (nI N) KX _ all (nI t) u) (g_MMo_octets_100 (nI N) KM _ all (nI t) v) u v
    simp only [g_XOc_rewrite_5, g_MMo_octets_100]
    rw [if_pos (nI_le (by omega) (by omega)), if_pos (nI_le (by omega) (by omega))]
    exact HK all u v hC h13 hx4 hm8
  | succ d ih =>
    intro t fX fM all u v ht hX hF hC h13 hx4 hx8 hx9 hm8 hm11 hm12
    obtain ⟨f, rfl⟩ : ∃ f, fX = f + 1 := ⟨fX - 1, by omega⟩
    obtain ⟨g, rfl⟩ : ∃ f, fM = f + 1 := ⟨fM - 1, by omega⟩
    show Sim (g_XOc_rewrite_5 (nI N) KX _ all (nI t) u) (g_MMo_octets_100 (nI N) KM _ all (nI t) v) u v
    obtain ⟨b, hb, hxb, hmb⟩ := hC.nb
    obtain ⟨z, hz9⟩ : ∃ z, z = b (a2 + t) := ⟨_, rfl⟩
    have hz : z < 256 := by rw [hz9]; exact hb _
    have em : nI (b (a2 + t)) = nI z := by rw [hz9]
    have ez : f_XOc_join u 210 (nI (b (a1 + t))) (nI z) = nI z := by simp +decide only [f_XOc_join, ↓reduceIte]
    have k1 : a1 + t < 1024 := by omega
    have k2 : a2 + t < 1024 := by omega
    simp +decide only [g_XOc_rewrite_5, g_MMo_octets_100, if_neg (nI_ge (show t < N by omega) (show N < 2 ^ 31 by omega)), nmE, jnE, hx4, hx8, hx9, hm8, hm11, hm12, mF_A, nI_add, ↓reduceIte, getN u (A := a1 + t) rfl k1, getN u (A := a2 + t) rfl k2, ckIN (n := 1024) (A := a1 + t) rfl k1 (by decide), ckIN (n := 1024) (A := a2 + t) rfl k2 (by decide), nI_clamp (show a1 + t < 2 ^ 31 by omega), nI_clamp (show a2 + t < 2 ^ 31 by omega), hxb, hmb, ez, em, x_put8 u (A := a1 + t) rfl k1 hz, msA_at, nI_1]
    refine Sim.from (ih (t + 1) f g _ _ _ (by omega) (by omega) (by omega) (hC.put _ (nb_ok hz)) h13 hx4 hx8 hx9 hm8 hm11 hm12) rfl rfl rfl
theorem join_211 (u : XS) {x y : Nat} (hx : x < 256) (hy : y < 256) : ∃ z, z < 256 ∧ f_XOc_join u 211 (nI x) (nI y) = nI z ∧ (nI y &&& 240) ||| (nI x &&& 15) = nI z := by
  refine ⟨x &&& 15 ||| y &&& 240, Nat.or_lt_two_pow (n := 8) (n15 x) (n240 y hy), ?_, ?_⟩
  · simp +decide only [f_XOc_join, ↓reduceIte, show (240 : Int32) = nI 240 from rfl, show (15 : Int32) = nI 15 from rfl, nx_and, nx_or, nx_xor]
  · simp only [show (240 : Int32) = nI 240 from rfl, show (15 : Int32) = nI 15 from rfl, nx_and, nx_or, nx_xor, Nat.or_comm (y &&& 240)]

theorem sim_rw_211 {a1 a2 N : Nat} {KX : Int32 → XS → Int32 × XS} {KM : Int32 → MS → Option MS} (HK : ∀ (all : Int32) (u : XS) (v : MS), Core u v → mF v 13 = 0 → xF u 4 = 211 → mF v 8 = 211 → Sim (KX all u) (KM all v) u v) (h1 : a1 + N ≤ 1024) (h2 : a2 + N ≤ 1024) : ∀ (d t fX fM : Nat) (all : Int32) (u : XS) (v : MS), t + d = N → d < fX → d < fM → Core u v → mF v 13 = 0 → xF u 4 = 211 → xF u 8 = nI a1 → xF u 9 = nI a2 → mF v 8 = 211 → mF v 11 = nI a1 → mF v 12 = nI a2 → Sim (lpN fX (g_XOc_rewrite_5 (nI N) KX) (fun _ _ _ => default) all (nI t) u) (lpN fM (g_MMo_octets_100 (nI N) KM) (fun _ _ _ => none) all (nI t) v) u v := by
  intro d
  induction d with
  | zero =>
    intro t fX fM all u v ht hX hF hC h13 hx4 hx8 hx9 hm8 hm11 hm12
    obtain ⟨f, rfl⟩ : ∃ f, fX = f + 1 := ⟨fX - 1, by omega⟩
    obtain ⟨g, rfl⟩ : ∃ f, fM = f + 1 := ⟨fM - 1, by omega⟩
    show Sim (g_XOc_rewrite_5 (nI N) KX _ all (nI t) u) (g_MMo_octets_100 (nI N) KM _ all (nI t) v) u v
    simp only [g_XOc_rewrite_5, g_MMo_octets_100]
    rw [if_pos (nI_le (by omega) (by omega)), if_pos (nI_le (by omega) (by omega))]
    exact HK all u v hC h13 hx4 hm8
  | succ d ih =>
    intro t fX fM all u v ht hX hF hC h13 hx4 hx8 hx9 hm8 hm11 hm12
    obtain ⟨f, rfl⟩ : ∃ f, fX = f + 1 := ⟨fX - 1, by omega⟩
    obtain ⟨g, rfl⟩ : ∃ f, fM = f + 1 := ⟨fM - 1, by omega⟩
    show Sim (g_XOc_rewrite_5 (nI N) KX _ all (nI t) u) (g_MMo_octets_100 (nI N) KM _ all (nI t) v) u v
    obtain ⟨b, hb, hxb, hmb⟩ := hC.nb
    obtain ⟨z, hz, ez, em⟩ := join_211 u (hb (a1 + t)) (hb (a2 + t))
    have k1 : a1 + t < 1024 := by omega
    have k2 : a2 + t < 1024 := by omega
    simp +decide only [g_XOc_rewrite_5, g_MMo_octets_100, if_neg (nI_ge (show t < N by omega) (show N < 2 ^ 31 by omega)), nmE, jnE, hx4, hx8, hx9, hm8, hm11, hm12, mF_A, nI_add, ↓reduceIte, getN u (A := a1 + t) rfl k1, getN u (A := a2 + t) rfl k2, ckIN (n := 1024) (A := a1 + t) rfl k1 (by decide), ckIN (n := 1024) (A := a2 + t) rfl k2 (by decide), nI_clamp (show a1 + t < 2 ^ 31 by omega), nI_clamp (show a2 + t < 2 ^ 31 by omega), hxb, hmb, ez, em, x_put8 u (A := a1 + t) rfl k1 hz, msA_at, nI_1]
    refine Sim.from (ih (t + 1) f g _ _ _ (by omega) (by omega) (by omega) (hC.put _ (nb_ok hz)) h13 hx4 hx8 hx9 hm8 hm11 hm12) rfl rfl rfl
theorem join_212 (u : XS) {x y : Nat} (hx : x < 256) (hy : y < 256) : ∃ z, z < 256 ∧ f_XOc_join u 212 (nI x) (nI y) = nI z ∧ nI x &&& nI y = nI z := by
  refine ⟨x &&& y, Nat.and_lt_two_pow (n := 8) x hy, ?_, ?_⟩
  · simp +decide only [f_XOc_join, ↓reduceIte, show (240 : Int32) = nI 240 from rfl, show (15 : Int32) = nI 15 from rfl, nx_and, nx_or, nx_xor]
  · simp only [show (240 : Int32) = nI 240 from rfl, show (15 : Int32) = nI 15 from rfl, nx_and, nx_or, nx_xor]

theorem sim_rw_212 {a1 a2 N : Nat} {KX : Int32 → XS → Int32 × XS} {KM : Int32 → MS → Option MS} (HK : ∀ (all : Int32) (u : XS) (v : MS), Core u v → mF v 13 = 0 → xF u 4 = 212 → mF v 8 = 212 → Sim (KX all u) (KM all v) u v) (h1 : a1 + N ≤ 1024) (h2 : a2 + N ≤ 1024) : ∀ (d t fX fM : Nat) (all : Int32) (u : XS) (v : MS), t + d = N → d < fX → d < fM → Core u v → mF v 13 = 0 → xF u 4 = 212 → xF u 8 = nI a1 → xF u 9 = nI a2 → mF v 8 = 212 → mF v 11 = nI a1 → mF v 12 = nI a2 → Sim (lpN fX (g_XOc_rewrite_5 (nI N) KX) (fun _ _ _ => default) all (nI t) u) (lpN fM (g_MMo_octets_100 (nI N) KM) (fun _ _ _ => none) all (nI t) v) u v := by
  intro d
  induction d with
  | zero =>
    intro t fX fM all u v ht hX hF hC h13 hx4 hx8 hx9 hm8 hm11 hm12
    obtain ⟨f, rfl⟩ : ∃ f, fX = f + 1 := ⟨fX - 1, by omega⟩
    obtain ⟨g, rfl⟩ : ∃ f, fM = f + 1 := ⟨fM - 1, by omega⟩
    show Sim (g_XOc_rewrite_5 (nI N) KX _ all (nI t) u) (g_MMo_octets_100 (nI N) KM _ all (nI t) v) u v
    simp only [g_XOc_rewrite_5, g_MMo_octets_100]
    rw [if_pos (nI_le (by omega) (by omega)), if_pos (nI_le (by omega) (by omega))]
    exact HK all u v hC h13 hx4 hm8
  | succ d ih =>
    intro t fX fM all u v ht hX hF hC h13 hx4 hx8 hx9 hm8 hm11 hm12
    obtain ⟨f, rfl⟩ : ∃ f, fX = f + 1 := ⟨fX - 1, by omega⟩
    obtain ⟨g, rfl⟩ : ∃ f, fM = f + 1 := ⟨fM - 1, by omega⟩
    show Sim (g_XOc_rewrite_5 (nI N) KX _ all (nI t) u) (g_MMo_octets_100 (nI N) KM _ all (nI t) v) u v
    obtain ⟨b, hb, hxb, hmb⟩ := hC.nb
    obtain ⟨z, hz, ez, em⟩ := join_212 u (hb (a1 + t)) (hb (a2 + t))
    have k1 : a1 + t < 1024 := by omega
    have k2 : a2 + t < 1024 := by omega
    simp +decide only [g_XOc_rewrite_5, g_MMo_octets_100, if_neg (nI_ge (show t < N by omega) (show N < 2 ^ 31 by omega)), nmE, jnE, hx4, hx8, hx9, hm8, hm11, hm12, mF_A, nI_add, ↓reduceIte, getN u (A := a1 + t) rfl k1, getN u (A := a2 + t) rfl k2, ckIN (n := 1024) (A := a1 + t) rfl k1 (by decide), ckIN (n := 1024) (A := a2 + t) rfl k2 (by decide), nI_clamp (show a1 + t < 2 ^ 31 by omega), nI_clamp (show a2 + t < 2 ^ 31 by omega), hxb, hmb, ez, em, x_put8 u (A := a1 + t) rfl k1 hz, msA_at, nI_1]
    refine Sim.from (ih (t + 1) f g _ _ _ (by omega) (by omega) (by omega) (hC.put _ (nb_ok hz)) h13 hx4 hx8 hx9 hm8 hm11 hm12) rfl rfl rfl
theorem join_214 (u : XS) {x y : Nat} (hx : x < 256) (hy : y < 256) : ∃ z, z < 256 ∧ f_XOc_join u 214 (nI x) (nI y) = nI z ∧ nI x ||| nI y = nI z := by
  refine ⟨x ||| y, Nat.or_lt_two_pow (n := 8) hx hy, ?_, ?_⟩
  · simp +decide only [f_XOc_join, ↓reduceIte, show (240 : Int32) = nI 240 from rfl, show (15 : Int32) = nI 15 from rfl, nx_and, nx_or, nx_xor]
  · simp only [show (240 : Int32) = nI 240 from rfl, show (15 : Int32) = nI 15 from rfl, nx_and, nx_or, nx_xor]

theorem sim_rw_214 {a1 a2 N : Nat} {KX : Int32 → XS → Int32 × XS} {KM : Int32 → MS → Option MS} (HK : ∀ (all : Int32) (u : XS) (v : MS), Core u v → mF v 13 = 0 → xF u 4 = 214 → mF v 8 = 214 → Sim (KX all u) (KM all v) u v) (h1 : a1 + N ≤ 1024) (h2 : a2 + N ≤ 1024) : ∀ (d t fX fM : Nat) (all : Int32) (u : XS) (v : MS), t + d = N → d < fX → d < fM → Core u v → mF v 13 = 0 → xF u 4 = 214 → xF u 8 = nI a1 → xF u 9 = nI a2 → mF v 8 = 214 → mF v 11 = nI a1 → mF v 12 = nI a2 → Sim (lpN fX (g_XOc_rewrite_5 (nI N) KX) (fun _ _ _ => default) all (nI t) u) (lpN fM (g_MMo_octets_100 (nI N) KM) (fun _ _ _ => none) all (nI t) v) u v := by
  intro d
  induction d with
  | zero =>
    intro t fX fM all u v ht hX hF hC h13 hx4 hx8 hx9 hm8 hm11 hm12
    obtain ⟨f, rfl⟩ : ∃ f, fX = f + 1 := ⟨fX - 1, by omega⟩
    obtain ⟨g, rfl⟩ : ∃ f, fM = f + 1 := ⟨fM - 1, by omega⟩
    show Sim (g_XOc_rewrite_5 (nI N) KX _ all (nI t) u) (g_MMo_octets_100 (nI N) KM _ all (nI t) v) u v
    simp only [g_XOc_rewrite_5, g_MMo_octets_100]
    rw [if_pos (nI_le (by omega) (by omega)), if_pos (nI_le (by omega) (by omega))]
    exact HK all u v hC h13 hx4 hm8
  | succ d ih =>
    intro t fX fM all u v ht hX hF hC h13 hx4 hx8 hx9 hm8 hm11 hm12
    obtain ⟨f, rfl⟩ : ∃ f, fX = f + 1 := ⟨fX - 1, by omega⟩
    obtain ⟨g, rfl⟩ : ∃ f, fM = f + 1 := ⟨fM - 1, by omega⟩
    show Sim (g_XOc_rewrite_5 (nI N) KX _ all (nI t) u) (g_MMo_octets_100 (nI N) KM _ all (nI t) v) u v
    obtain ⟨b, hb, hxb, hmb⟩ := hC.nb
    obtain ⟨z, hz, ez, em⟩ := join_214 u (hb (a1 + t)) (hb (a2 + t))
    have k1 : a1 + t < 1024 := by omega
    have k2 : a2 + t < 1024 := by omega
    simp +decide only [g_XOc_rewrite_5, g_MMo_octets_100, if_neg (nI_ge (show t < N by omega) (show N < 2 ^ 31 by omega)), nmE, jnE, hx4, hx8, hx9, hm8, hm11, hm12, mF_A, nI_add, ↓reduceIte, getN u (A := a1 + t) rfl k1, getN u (A := a2 + t) rfl k2, ckIN (n := 1024) (A := a1 + t) rfl k1 (by decide), ckIN (n := 1024) (A := a2 + t) rfl k2 (by decide), nI_clamp (show a1 + t < 2 ^ 31 by omega), nI_clamp (show a2 + t < 2 ^ 31 by omega), hxb, hmb, ez, em, x_put8 u (A := a1 + t) rfl k1 hz, msA_at, nI_1]
    refine Sim.from (ih (t + 1) f g _ _ _ (by omega) (by omega) (by omega) (hC.put _ (nb_ok hz)) h13 hx4 hx8 hx9 hm8 hm11 hm12) rfl rfl rfl
theorem join_215 (u : XS) {x y : Nat} (hx : x < 256) (hy : y < 256) : ∃ z, z < 256 ∧ f_XOc_join u 215 (nI x) (nI y) = nI z ∧ nI x ^^^ nI y = nI z := by
  refine ⟨x ^^^ y, Nat.xor_lt_two_pow (n := 8) hx hy, ?_, ?_⟩
  · simp +decide only [f_XOc_join, ↓reduceIte, show (240 : Int32) = nI 240 from rfl, show (15 : Int32) = nI 15 from rfl, nx_and, nx_or, nx_xor]
  · simp only [show (240 : Int32) = nI 240 from rfl, show (15 : Int32) = nI 15 from rfl, nx_and, nx_or, nx_xor]

theorem sim_rw_215 {a1 a2 N : Nat} {KX : Int32 → XS → Int32 × XS} {KM : Int32 → MS → Option MS} (HK : ∀ (all : Int32) (u : XS) (v : MS), Core u v → mF v 13 = 0 → xF u 4 = 215 → mF v 8 = 215 → Sim (KX all u) (KM all v) u v) (h1 : a1 + N ≤ 1024) (h2 : a2 + N ≤ 1024) : ∀ (d t fX fM : Nat) (all : Int32) (u : XS) (v : MS), t + d = N → d < fX → d < fM → Core u v → mF v 13 = 0 → xF u 4 = 215 → xF u 8 = nI a1 → xF u 9 = nI a2 → mF v 8 = 215 → mF v 11 = nI a1 → mF v 12 = nI a2 → Sim (lpN fX (g_XOc_rewrite_5 (nI N) KX) (fun _ _ _ => default) all (nI t) u) (lpN fM (g_MMo_octets_100 (nI N) KM) (fun _ _ _ => none) all (nI t) v) u v := by
  intro d
  induction d with
  | zero =>
    intro t fX fM all u v ht hX hF hC h13 hx4 hx8 hx9 hm8 hm11 hm12
    obtain ⟨f, rfl⟩ : ∃ f, fX = f + 1 := ⟨fX - 1, by omega⟩
    obtain ⟨g, rfl⟩ : ∃ f, fM = f + 1 := ⟨fM - 1, by omega⟩
    show Sim (g_XOc_rewrite_5 (nI N) KX _ all (nI t) u) (g_MMo_octets_100 (nI N) KM _ all (nI t) v) u v
    simp only [g_XOc_rewrite_5, g_MMo_octets_100]
    rw [if_pos (nI_le (by omega) (by omega)), if_pos (nI_le (by omega) (by omega))]
    exact HK all u v hC h13 hx4 hm8
  | succ d ih =>
    intro t fX fM all u v ht hX hF hC h13 hx4 hx8 hx9 hm8 hm11 hm12
    obtain ⟨f, rfl⟩ : ∃ f, fX = f + 1 := ⟨fX - 1, by omega⟩
    obtain ⟨g, rfl⟩ : ∃ f, fM = f + 1 := ⟨fM - 1, by omega⟩
    show Sim (g_XOc_rewrite_5 (nI N) KX _ all (nI t) u) (g_MMo_octets_100 (nI N) KM _ all (nI t) v) u v
    obtain ⟨b, hb, hxb, hmb⟩ := hC.nb
    obtain ⟨z, hz, ez, em⟩ := join_215 u (hb (a1 + t)) (hb (a2 + t))
    have k1 : a1 + t < 1024 := by omega
    have k2 : a2 + t < 1024 := by omega
    simp +decide only [g_XOc_rewrite_5, g_MMo_octets_100, if_neg (nI_ge (show t < N by omega) (show N < 2 ^ 31 by omega)), nmE, jnE, hx4, hx8, hx9, hm8, hm11, hm12, mF_A, nI_add, ↓reduceIte, getN u (A := a1 + t) rfl k1, getN u (A := a2 + t) rfl k2, ckIN (n := 1024) (A := a1 + t) rfl k1 (by decide), ckIN (n := 1024) (A := a2 + t) rfl k2 (by decide), nI_clamp (show a1 + t < 2 ^ 31 by omega), nI_clamp (show a2 + t < 2 ^ 31 by omega), hxb, hmb, ez, em, x_put8 u (A := a1 + t) rfl k1 hz, msA_at, nI_1]
    refine Sim.from (ih (t + 1) f g _ _ _ (by omega) (by omega) (by omega) (hC.put _ (nb_ok hz)) h13 hx4 hx8 hx9 hm8 hm11 hm12) rfl rfl rfl
def clc (b : Nat → Nat) (a1 a2 : Nat) : Nat → Nat → Int32
  | _, 0 => 0
  | t, d + 1 => if b (a1 + t) = b (a2 + t) then clc b a1 a2 (t + 1) d else if b (a2 + t) ≤ b (a1 + t) then 2 else 1
theorem clc_3 (b : Nat → Nat) (a1 a2 : Nat) : ∀ d t, 0 ≤ (clc b a1 a2 t d).toInt ∧ (clc b a1 a2 t d).toInt ≤ 3 := by
  intro d
  induction d with
  | zero => intro t; unfold clc; decide
  | succ d ih =>
    intro t
    unfold clc
    split
    · exact ih _
    · split <;> decide
theorem x_clcL {a1 a2 N : Nat} (KX : Int32 → Int32 × XS) (u : XS) {b : Nat → Nat} (hb : ∀ j, b j < 256) (hxb : ∀ j, xM u j = nI (b j)) (hx8 : xF u 8 = nI a1) (hx9 : xF u 9 = nI a2) (h1 : a1 + N ≤ 1024) (h2 : a2 + N ≤ 1024) : ∀ (d t fX : Nat), t + d = N → d < fX → ∃ y : Int32, lpN fX (g_XOc_compare_5 (nI N) KX u) (fun _ _ => default) 0 (nI t) = KX y ∧ (if y.toInt64 = 0 then (0 : Int32) else if 0 ≤ y.toInt64 then 2 else 1) = clc b a1 a2 t d := by
  intro d
  induction d with
  | zero =>
    intro t fX ht hX
    obtain ⟨f, rfl⟩ : ∃ f, fX = f + 1 := ⟨fX - 1, by omega⟩
    refine ⟨0, ?_, rfl⟩
    show g_XOc_compare_5 (nI N) KX u _ 0 (nI t) = _
    simp only [g_XOc_compare_5]
    rw [if_pos (nI_le (by omega) (by omega))]
  | succ d ih =>
    intro t fX ht hX
    obtain ⟨f, rfl⟩ : ∃ f, fX = f + 1 := ⟨fX - 1, by omega⟩
    have k1 : a1 + t < 1024 := by omega
    have k2 : a2 + t < 1024 := by omega
    have e0 : ∀ L, g_XOc_compare_5 (nI N) KX u L 0 (nI t) = L (nI (b (a1 + t)) - nI (b (a2 + t))) (nI (t + 1)) := by
      intro L
      simp +decide only [g_XOc_compare_5, if_neg (nI_ge (show t < N by omega) (show N < 2 ^ 31 by omega)), ↓reduceIte, nmE, hx8, hx9, nI_add, getN u (A := a1 + t) rfl k1, getN u (A := a2 + t) rfl k2, hxb, nI_1]
    have hb1 := hb (a1 + t)
    have hb2 := hb (a2 + t)
    by_cases c : b (a1 + t) = b (a2 + t)
    · obtain ⟨y, ey, es⟩ := ih (t + 1) f (by omega) (by omega)
      refine ⟨y, ?_, ?_⟩
      · show g_XOc_compare_5 (nI N) KX u _ 0 (nI t) = _
        rw [e0, c, Int32.sub_self]
        exact ey
      · rw [es]
        show _ = if b (a1 + t) = b (a2 + t) then _ else _
        rw [if_pos c]
    · refine ⟨nI (b (a1 + t)) - nI (b (a2 + t)), ?_, ?_⟩
      · show g_XOc_compare_5 (nI N) KX u _ 0 (nI t) = _
        rw [e0]
        obtain ⟨f', rfl⟩ : ∃ f', f = f' + 1 := ⟨f - 1, by omega⟩
        show g_XOc_compare_5 (nI N) KX u _ _ (nI (t + 1)) = _
        have hne : ¬ nI (b (a1 + t)) - nI (b (a2 + t)) = 0 := by
          intro h
          have := congrArg Int32.toInt h
          rw [pk_sub_toInt (by omega) (by omega)] at this
          have h0 : (0 : Int32).toInt = 0 := rfl
          omega
        simp only [g_XOc_compare_5, if_neg hne, ite_self]
      · rw [sign_64]
        have h0 : (0 : Int32).toInt = 0 := rfl
        have hne : ¬ nI (b (a1 + t)) - nI (b (a2 + t)) = 0 := by
          intro h
          have := congrArg Int32.toInt h
          rw [pk_sub_toInt (by omega) (by omega)] at this
          omega
        have hle : (0 ≤ nI (b (a1 + t)) - nI (b (a2 + t))) ↔ b (a2 + t) ≤ b (a1 + t) := by
          rw [Int32.le_iff_toInt_le, pk_sub_toInt (by omega) (by omega), h0]
          omega
        rw [if_neg hne]
        show _ = if b (a1 + t) = b (a2 + t) then _ else _
        rw [if_neg c]
        by_cases e : b (a2 + t) ≤ b (a1 + t)
        · rw [if_pos e, if_pos (hle.mpr e)]
        · rw [if_neg e, if_neg (fun h => e (hle.mp h))]
theorem m_clcL {a1 a2 N : Nat} {b : Nat → Nat} (hb : ∀ j, b j < 256) (h1 : a1 + N ≤ 1024) (h2 : a2 + N ≤ 1024) : ∀ (i fM : Nat) (v : MS), i ≤ N → i < fM → (∀ j, mA v 1 j = nI (b j)) → mF v 11 = nI a1 → mF v 12 = nI a2 → mF v 1 = clc b a1 a2 i (N - i) → lpN fM g_MMo_octets_28 (fun _ _ => none) (nI i - 1) v = some (msF v 1 (clc b a1 a2 0 N)) := by
  intro i
  induction i with
  | zero =>
    intro fM v hi hF hmb hm11 hm12 hcc
    obtain ⟨g, rfl⟩ : ∃ f, fM = f + 1 := ⟨fM - 1, by omega⟩
    show g_MMo_octets_28 _ (nI 0 - 1) v = _
    simp only [g_MMo_octets_28]
    rw [if_pos (by decide), show N = N - 0 by omega, ← hcc, msF_id]
  | succ i ih =>
    intro fM v hi hF hmb hm11 hm12 hcc
    obtain ⟨g, rfl⟩ : ∃ f, fM = f + 1 := ⟨fM - 1, by omega⟩
    show g_MMo_octets_28 _ (nI (i + 1) - 1) v = _
    have k1 : a1 + i < 1024 := by omega
    have k2 : a2 + i < 1024 := by omega
    have hb1 := hb (a1 + i)
    have hb2 := hb (a2 + i)
    have e2 : nI i + -1 = nI i - 1 := by rw [Int32.sub_eq_add_neg]
    have q1 : (nI (b (a1 + i)) = nI (b (a2 + i))) = (b (a1 + i) = b (a2 + i)) := eq_nI (by omega) (by omega)
    have q2 : (nI (b (a2 + i)) ≤ nI (b (a1 + i))) = (b (a2 + i) ≤ b (a1 + i)) := le_nI (by omega) (by omega)
    have hN : N - i = (N - (i + 1)) + 1 := by omega
    simp only [g_MMo_octets_28, nI_pred, if_neg (nI_pos (show i < 2 ^ 31 by omega)), nmE, jnE, hm11, hm12, nI_add, ckIN (n := 1024) (A := a1 + i) rfl k1 (by decide), ckIN (n := 1024) (A := a2 + i) rfl k2 (by decide), nI_clamp (show a1 + i < 2 ^ 31 by omega), nI_clamp (show a2 + i < 2 ^ 31 by omega), hmb, q1, q2, e2]
    by_cases c : b (a1 + i) = b (a2 + i)
    · rw [if_pos c]
      refine ih g v (by omega) (by omega) hmb hm11 hm12 ?_
      rw [hcc, hN]
      show _ = if b (a1 + i) = b (a2 + i) then _ else _
      rw [if_pos c]
    · rw [if_neg c]
      by_cases e : b (a2 + i) ≤ b (a1 + i)
      · rw [if_pos e]
        have := ih g (msF v 1 2) (by omega) (by omega) hmb hm11 hm12 (by
          rw [hN]
          show (2 : Int32) = if b (a1 + i) = b (a2 + i) then _ else _
          rw [if_neg c, if_pos e])
        rw [this, msF_2]
      · rw [if_neg e]
        have := ih g (msF v 1 1) (by omega) (by omega) hmb hm11 hm12 (by
          rw [hN]
          show (1 : Int32) = if b (a1 + i) = b (a2 + i) then _ else _
          rw [if_neg c, if_neg e])
        rw [this, msF_2]
theorem Dd.place {u : XS} {v : MS} {c s i j a1 a2 at0 n : Nat} (h : Dd u v c s i j a1 a2 at0) (hn : xF u 0 = nI n) : (mF v 2 + mF v 9) &&& 16777215 = nI n := by
  obtain ⟨hC, ⟨hc, hs, hi, hj, h1, h2⟩, -, ⟨hx4, hm8⟩, ⟨hx5, hm10⟩, ⟨hx6, hx7⟩, -, -, -, ⟨h13, h0, hat⟩, z, hz, hle, hbh, hnx⟩ := h
  rw [hat, hz, nI_add, pk_andN (by omega) 24 rfl, Nat.mod_eq_of_lt (by omega), ← hnx, hn]
theorem Out.sim {p : Int32 × XS} {u : XS} {v v1 : MS} {n : Nat} (hl : f_MMo_looks v = some v1) (h0 : mF v1 0 = mF v 0) (h13 : mF v1 13 = 0) (h : Sim p (f_MMo_acts v1) u (msF v1 2 (nI n))) (hn : xF u 0 = nI n) (hle : n ≤ 1024) : Out p v := ⟨v1, hl, h0, Or.inl ⟨h13, h.1, h.done rfl hn rfl (by omega)⟩⟩

theorem op_213 {u : XS} {v : MS} {s i j a1 a2 at0 : Nat} (h : Dd u v 213 s i j a1 a2 at0) : Out (f_XPr_perform u) v := by
  obtain ⟨n, hn, hnx, hbh, hact⟩ := h.act
  have hact := hact.2.2.2.1 (by decide) (by decide)
  obtain ⟨hC, ⟨-, hs, hi, hj, h1, h2⟩, ⟨hlo, hhi, hsij⟩, ⟨hx4, hm8⟩, ⟨hx5, hm10⟩, ⟨hx6, hx7⟩, hA2, hA1, hA12, ⟨h13, h0, hat⟩, -⟩ := h
  have hx4 : xF u 4 = 213 := hx4
  have hm8 : mF v 8 = 213 := hm8
  have hR : xR u = mA v 2 := hC.2.1
  obtain ⟨hx9, hm12⟩ := hA2 (by decide)
  obtain ⟨hx8, hm11⟩ := hA1 (by decide)
  have lh1 := fun w => lies_holds w u (nI a1) (n := nI (s + 1)) (N := s + 1) rfl (by omega)
  have lh2 := fun w => lies_holds w u (nI a2) (n := nI (s + 1)) (N := s + 1) rfl (by omega)
  have fu : s + 1 < (Int32.toInt (nI (s + 1)) - Int32.toInt (0 : Int32)).toNat + 1 := by rw [nI_toInt (by omega), show (0 : Int32).toInt = 0 from rfl]; omega
  cases hh1 : f_XMe_holds u (nI a1) (nI (s + 1)) with
  | false =>
    have hl : f_MMo_looks v = some (msF v 13 5) := by simp +decide only [f_MMo_looks, bI0, wrong_f, f_MMo_low, f_MMo_high, nmE, jnE, bd1S, hm10, hm8, hlo, hhi, mF_F, mA_F, mF_A, Nat.reduceEqDiff, ↓reduceIte, bd1_id, ckIN (n := 16) (A := j) rfl hj (by decide), ckIN (n := 16) (A := i) rfl hi (by decide), nI_clamp (show j < 2 ^ 31 by omega), nI_clamp (show i < 2 ^ 31 by omega), hm11, hm12, ite_self, nI_1, wrong_t v 5 h13, lh1, hh1]
    have eX : f_XPr_perform u = (5, u) := by simp +decide only [f_XPr_perform, prI, prE, nmE, jnE, hx4, hx5, hx6, hx7, bI0, ↓reduceIte, x_val _ rfl hi, x_val _ rfl hj, x_putR _ _ rfl hi, hR, xF_R, xF_F, xR_R, xR_F, hnx, hbh, hx8, hx9, f_XOc_withField, nI_1, hh1]
    rw [eX]
    exact Out.no hl rfl (by unfold nok; decide) hC
  | true =>
  have k1 := holdsT h1 (by omega) hh1
  cases hh2 : f_XMe_holds u (nI a2) (nI (s + 1)) with
  | false =>
    have hl : f_MMo_looks v = some (msF v 13 5) := by simp +decide only [f_MMo_looks, bI0, wrong_f, f_MMo_low, f_MMo_high, nmE, jnE, bd1S, hm10, hm8, hlo, hhi, mF_F, mA_F, mF_A, Nat.reduceEqDiff, ↓reduceIte, bd1_id, ckIN (n := 16) (A := j) rfl hj (by decide), ckIN (n := 16) (A := i) rfl hi (by decide), nI_clamp (show j < 2 ^ 31 by omega), nI_clamp (show i < 2 ^ 31 by omega), hm11, hm12, ite_self, nI_1, wrong_t v 5 h13, lh1, hh1, lh2, hh2]
    have eX : f_XPr_perform u = (5, u) := by simp +decide only [f_XPr_perform, prI, prE, nmE, jnE, hx4, hx5, hx6, hx7, bI0, ↓reduceIte, x_val _ rfl hi, x_val _ rfl hj, x_putR _ _ rfl hi, hR, xF_R, xF_F, xR_R, xR_F, hnx, hbh, hx8, hx9, f_XOc_withField, nI_1, hh1, hh2]
    rw [eX]
    exact Out.no hl rfl (by unfold nok; decide) hC
  | true =>
  have k2 := holdsT h2 (by omega) hh2
  have hl : f_MMo_looks v = some v := by simp +decide only [f_MMo_looks, bI0, wrong_f, f_MMo_low, f_MMo_high, nmE, jnE, bd1S, hm10, hm8, hlo, hhi, mF_F, mA_F, mF_A, Nat.reduceEqDiff, ↓reduceIte, bd1_id, ckIN (n := 16) (A := j) rfl hj (by decide), ckIN (n := 16) (A := i) rfl hi (by decide), nI_clamp (show j < 2 ^ 31 by omega), nI_clamp (show i < 2 ^ 31 by omega), hm11, hm12, ite_self, nI_1, lh1, hh1, lh2, hh2]
  obtain ⟨b, hb, hxb, hmb⟩ := hC.nb
  obtain ⟨y, ey, es⟩ := x_clcL (fun x_1 => (0, f_XSt_conditionBySign u x_1.toInt64)) u hb hxb hx8 hx9 k1 k2 (s + 1) 0 _ (by omega) fu
  have eX : f_XPr_perform u = (0, xsF u 1 (clc b a1 a2 0 (s + 1))) := by
    rw [show nI 0 = (0 : Int32) from rfl] at ey
    simp +decide only [f_XPr_perform, prI, prE, nmE, jnE, hx4, hx5, hx6, hx7, bI0, ↓reduceIte, x_val _ rfl hi, x_val _ rfl hj, x_putR _ _ rfl hi, hR, xF_R, xF_F, xR_R, xR_F, hnx, hbh, hx8, hx9, f_XOc_withField, f_XOc_compare, nI_1, hh1, hh2]
    rw [ey, cond_sign, es]
  have em : f_MMo_octets (msF v 2 (nI n)) = some (msF (msF (msF v 2 (nI n)) 1 0) 1 (clc b a1 a2 0 (s + 1))) := by
    have h := m_clcL hb k1 k2 (s + 1) fuelM (msF (msF v 2 (nI n)) 1 0) (Nat.le_refl _) (by unfold fuelM; omega) hmb hm11 hm12 (by rw [Nat.sub_self]; rfl)
    simp +decide only [f_MMo_octets, f_MMo_low, f_MMo_high, nmE, jnE, bd1S, hm10, hm8, hlo, hhi, mF_F, mA_F, mF_A, Nat.reduceEqDiff, ↓reduceIte, bd1_id, ckIN (n := 16) (A := j) rfl hj (by decide), ckIN (n := 16) (A := i) rfl hi (by decide), nI_clamp (show j < 2 ^ 31 by omega), nI_clamp (show i < 2 ^ 31 by omega), nI_1]
    exact h
  rw [eX]
  refine Out.ok hl h13 ok0 ?_
  rw [hact, em, msF_2]
  exact Done.mk (t := n) h13 ((hC.mn _).cc _ (clc_3 _ _ _ _ _)) rfl hnx rfl (by omega)
theorem op_209 {u : XS} {v : MS} {s i j a1 a2 at0 : Nat} (h : Dd u v 209 s i j a1 a2 at0) : Out (f_XPr_perform u) v := by
  obtain ⟨n, hn, hnx, hbh, hact⟩ := h.act
  have hact := hact.2.2.2.1 (by decide) (by decide)
  obtain ⟨hC, ⟨-, hs, hi, hj, h1, h2⟩, ⟨hlo, hhi, hsij⟩, ⟨hx4, hm8⟩, ⟨hx5, hm10⟩, ⟨hx6, hx7⟩, hA2, hA1, hA12, ⟨h13, h0, hat⟩, -⟩ := h
  have hx4 : xF u 4 = 209 := hx4
  have hm8 : mF v 8 = 209 := hm8
  have hR : xR u = mA v 2 := hC.2.1
  obtain ⟨hx9, hm12⟩ := hA2 (by decide)
  obtain ⟨hx8, hm11⟩ := hA1 (by decide)
  have lh1 := fun w => lies_holds w u (nI a1) (n := nI (s + 1)) (N := s + 1) rfl (by omega)
  have lh2 := fun w => lies_holds w u (nI a2) (n := nI (s + 1)) (N := s + 1) rfl (by omega)
  have fu : s + 1 < (Int32.toInt (nI (s + 1)) - Int32.toInt (0 : Int32)).toNat + 1 := by rw [nI_toInt (by omega), show (0 : Int32).toInt = 0 from rfl]; omega
  cases hh1 : f_XMe_holds u (nI a1) (nI (s + 1)) with
  | false =>
    have hl : f_MMo_looks v = some (msF v 13 5) := by simp +decide only [f_MMo_looks, bI0, wrong_f, f_MMo_low, f_MMo_high, nmE, jnE, bd1S, hm10, hm8, hlo, hhi, mF_F, mA_F, mF_A, Nat.reduceEqDiff, ↓reduceIte, bd1_id, ckIN (n := 16) (A := j) rfl hj (by decide), ckIN (n := 16) (A := i) rfl hi (by decide), nI_clamp (show j < 2 ^ 31 by omega), nI_clamp (show i < 2 ^ 31 by omega), hm11, hm12, ite_self, nI_1, wrong_t v 5 h13, lh1, hh1]
    have eX : f_XPr_perform u = (5, u) := by simp +decide only [f_XPr_perform, prI, prE, nmE, jnE, hx4, hx5, hx6, hx7, bI0, ↓reduceIte, x_val _ rfl hi, x_val _ rfl hj, x_putR _ _ rfl hi, hR, xF_R, xF_F, xR_R, xR_F, hnx, hbh, hx8, hx9, f_XOc_withField, nI_1, hh1]
    rw [eX]
    exact Out.no hl rfl (by unfold nok; decide) hC
  | true =>
  have k1 := holdsT h1 (by omega) hh1
  cases hh2 : f_XMe_holds u (nI a2) (nI (s + 1)) with
  | false =>
    have hl : f_MMo_looks v = some (msF v 13 5) := by simp +decide only [f_MMo_looks, bI0, wrong_f, f_MMo_low, f_MMo_high, nmE, jnE, bd1S, hm10, hm8, hlo, hhi, mF_F, mA_F, mF_A, Nat.reduceEqDiff, ↓reduceIte, bd1_id, ckIN (n := 16) (A := j) rfl hj (by decide), ckIN (n := 16) (A := i) rfl hi (by decide), nI_clamp (show j < 2 ^ 31 by omega), nI_clamp (show i < 2 ^ 31 by omega), hm11, hm12, ite_self, nI_1, wrong_t v 5 h13, lh1, hh1, lh2, hh2]
    have eX : f_XPr_perform u = (5, u) := by simp +decide only [f_XPr_perform, prI, prE, nmE, jnE, hx4, hx5, hx6, hx7, bI0, ↓reduceIte, x_val _ rfl hi, x_val _ rfl hj, x_putR _ _ rfl hi, hR, xF_R, xF_F, xR_R, xR_F, hnx, hbh, hx8, hx9, f_XOc_withField, nI_1, hh1, hh2]
    rw [eX]
    exact Out.no hl rfl (by unfold nok; decide) hC
  | true =>
  have k2 := holdsT h2 (by omega) hh2
  have hl : f_MMo_looks v = some v := by simp +decide only [f_MMo_looks, bI0, wrong_f, f_MMo_low, f_MMo_high, nmE, jnE, bd1S, hm10, hm8, hlo, hhi, mF_F, mA_F, mF_A, Nat.reduceEqDiff, ↓reduceIte, bd1_id, ckIN (n := 16) (A := j) rfl hj (by decide), ckIN (n := 16) (A := i) rfl hi (by decide), nI_clamp (show j < 2 ^ 31 by omega), nI_clamp (show i < 2 ^ 31 by omega), hm11, hm12, ite_self, nI_1, lh1, hh1, lh2, hh2]
  refine Sim.out (n := n) (r := f_MMo_octets (msF v 2 (nI n))) ?_ hl h13 hact hnx hn
  have q := sim_rw_209 (N := s + 1) (a1 := a1) (a2 := a2) (KX := fun x_1 u_2 => if (xF u_2 4) < (212 : Int32) then ((0 : Int32), u_2) else ((0 : Int32), f_XSt_conditionByBits u_2 x_1)) (KM := fun x_3 u_4 => jn (fun (K_6 : Option (MS)) => if (mF u_4 8) = (212 : Int32) then K_6 else if (mF u_4 8) = (214 : Int32) then K_6 else if (mF u_4 8) = (215 : Int32) then K_6 else some u_4) (if x_3 = (0 : Int32) then nm (msF u_4 1 (0 : Int32)) (fun (u_9 : MS) => some u_9) else nm (msF u_4 1 (1 : Int32)) (fun (u_8 : MS) => some u_8))) (fun all u v hC h13 hx4 hm8 => by
    simp +decide only [hx4, hm8, nmE, jnE, ↓reduceIte]
    exact Sim.mk ok0 h13 hC rfl rfl rfl) k1 k2 (s + 1) 0 _ fuelM 0 u (msF v 2 (nI n)) (by omega) fu (by unfold fuelM; omega) (hC.mn _) h13 hx4 hx8 hx9 hm8 hm11 hm12
  simp only [nmE, jnE, show nI 0 = (0 : Int32) from rfl] at q
  simp +decide only [f_XPr_perform, prI, prE, nmE, jnE, hx4, hx5, hx6, hx7, bI0, ↓reduceIte, x_val _ rfl hi, x_val _ rfl hj, x_putR _ _ rfl hi, hR, xF_R, xF_F, xR_R, xR_F, hnx, hbh, hx8, hx9, f_XOc_withField, f_XOc_rewrite, nI_1, hh1, hh2, f_MMo_octets, f_MMo_low, f_MMo_high, nmE, jnE, bd1S, hm10, hm8, hlo, hhi, mF_F, mA_F, mF_A, Nat.reduceEqDiff, ↓reduceIte, bd1_id, ckIN (n := 16) (A := j) rfl hj (by decide), ckIN (n := 16) (A := i) rfl hi (by decide), nI_clamp (show j < 2 ^ 31 by omega), nI_clamp (show i < 2 ^ 31 by omega)]
  exact q
theorem op_210 {u : XS} {v : MS} {s i j a1 a2 at0 : Nat} (h : Dd u v 210 s i j a1 a2 at0) : Out (f_XPr_perform u) v := by
  obtain ⟨n, hn, hnx, hbh, hact⟩ := h.act
  have hact := hact.2.2.2.1 (by decide) (by decide)
  obtain ⟨hC, ⟨-, hs, hi, hj, h1, h2⟩, ⟨hlo, hhi, hsij⟩, ⟨hx4, hm8⟩, ⟨hx5, hm10⟩, ⟨hx6, hx7⟩, hA2, hA1, hA12, ⟨h13, h0, hat⟩, -⟩ := h
  have hx4 : xF u 4 = 210 := hx4
  have hm8 : mF v 8 = 210 := hm8
  have hR : xR u = mA v 2 := hC.2.1
  obtain ⟨hx9, hm12⟩ := hA2 (by decide)
  obtain ⟨hx8, hm11⟩ := hA1 (by decide)
  have lh1 := fun w => lies_holds w u (nI a1) (n := nI (s + 1)) (N := s + 1) rfl (by omega)
  have lh2 := fun w => lies_holds w u (nI a2) (n := nI (s + 1)) (N := s + 1) rfl (by omega)
  have fu : s + 1 < (Int32.toInt (nI (s + 1)) - Int32.toInt (0 : Int32)).toNat + 1 := by rw [nI_toInt (by omega), show (0 : Int32).toInt = 0 from rfl]; omega
  cases hh1 : f_XMe_holds u (nI a1) (nI (s + 1)) with
  | false =>
    have hl : f_MMo_looks v = some (msF v 13 5) := by simp +decide only [f_MMo_looks, bI0, wrong_f, f_MMo_low, f_MMo_high, nmE, jnE, bd1S, hm10, hm8, hlo, hhi, mF_F, mA_F, mF_A, Nat.reduceEqDiff, ↓reduceIte, bd1_id, ckIN (n := 16) (A := j) rfl hj (by decide), ckIN (n := 16) (A := i) rfl hi (by decide), nI_clamp (show j < 2 ^ 31 by omega), nI_clamp (show i < 2 ^ 31 by omega), hm11, hm12, ite_self, nI_1, wrong_t v 5 h13, lh1, hh1]
    have eX : f_XPr_perform u = (5, u) := by simp +decide only [f_XPr_perform, prI, prE, nmE, jnE, hx4, hx5, hx6, hx7, bI0, ↓reduceIte, x_val _ rfl hi, x_val _ rfl hj, x_putR _ _ rfl hi, hR, xF_R, xF_F, xR_R, xR_F, hnx, hbh, hx8, hx9, f_XOc_withField, nI_1, hh1]
    rw [eX]
    exact Out.no hl rfl (by unfold nok; decide) hC
  | true =>
  have k1 := holdsT h1 (by omega) hh1
  cases hh2 : f_XMe_holds u (nI a2) (nI (s + 1)) with
  | false =>
    have hl : f_MMo_looks v = some (msF v 13 5) := by simp +decide only [f_MMo_looks, bI0, wrong_f, f_MMo_low, f_MMo_high, nmE, jnE, bd1S, hm10, hm8, hlo, hhi, mF_F, mA_F, mF_A, Nat.reduceEqDiff, ↓reduceIte, bd1_id, ckIN (n := 16) (A := j) rfl hj (by decide), ckIN (n := 16) (A := i) rfl hi (by decide), nI_clamp (show j < 2 ^ 31 by omega), nI_clamp (show i < 2 ^ 31 by omega), hm11, hm12, ite_self, nI_1, wrong_t v 5 h13, lh1, hh1, lh2, hh2]
    have eX : f_XPr_perform u = (5, u) := by simp +decide only [f_XPr_perform, prI, prE, nmE, jnE, hx4, hx5, hx6, hx7, bI0, ↓reduceIte, x_val _ rfl hi, x_val _ rfl hj, x_putR _ _ rfl hi, hR, xF_R, xF_F, xR_R, xR_F, hnx, hbh, hx8, hx9, f_XOc_withField, nI_1, hh1, hh2]
    rw [eX]
    exact Out.no hl rfl (by unfold nok; decide) hC
  | true =>
  have k2 := holdsT h2 (by omega) hh2
  have hl : f_MMo_looks v = some v := by simp +decide only [f_MMo_looks, bI0, wrong_f, f_MMo_low, f_MMo_high, nmE, jnE, bd1S, hm10, hm8, hlo, hhi, mF_F, mA_F, mF_A, Nat.reduceEqDiff, ↓reduceIte, bd1_id, ckIN (n := 16) (A := j) rfl hj (by decide), ckIN (n := 16) (A := i) rfl hi (by decide), nI_clamp (show j < 2 ^ 31 by omega), nI_clamp (show i < 2 ^ 31 by omega), hm11, hm12, ite_self, nI_1, lh1, hh1, lh2, hh2]
  refine Sim.out (n := n) (r := f_MMo_octets (msF v 2 (nI n))) ?_ hl h13 hact hnx hn
  have q := sim_rw_210 (N := s + 1) (a1 := a1) (a2 := a2) (KX := fun x_1 u_2 => if (xF u_2 4) < (212 : Int32) then ((0 : Int32), u_2) else ((0 : Int32), f_XSt_conditionByBits u_2 x_1)) (KM := fun x_3 u_4 => jn (fun (K_6 : Option (MS)) => if (mF u_4 8) = (212 : Int32) then K_6 else if (mF u_4 8) = (214 : Int32) then K_6 else if (mF u_4 8) = (215 : Int32) then K_6 else some u_4) (if x_3 = (0 : Int32) then nm (msF u_4 1 (0 : Int32)) (fun (u_9 : MS) => some u_9) else nm (msF u_4 1 (1 : Int32)) (fun (u_8 : MS) => some u_8))) (fun all u v hC h13 hx4 hm8 => by
    simp +decide only [hx4, hm8, nmE, jnE, ↓reduceIte]
    exact Sim.mk ok0 h13 hC rfl rfl rfl) k1 k2 (s + 1) 0 _ fuelM 0 u (msF v 2 (nI n)) (by omega) fu (by unfold fuelM; omega) (hC.mn _) h13 hx4 hx8 hx9 hm8 hm11 hm12
  simp only [nmE, jnE, show nI 0 = (0 : Int32) from rfl] at q
  simp +decide only [f_XPr_perform, prI, prE, nmE, jnE, hx4, hx5, hx6, hx7, bI0, ↓reduceIte, x_val _ rfl hi, x_val _ rfl hj, x_putR _ _ rfl hi, hR, xF_R, xF_F, xR_R, xR_F, hnx, hbh, hx8, hx9, f_XOc_withField, f_XOc_rewrite, nI_1, hh1, hh2, f_MMo_octets, f_MMo_low, f_MMo_high, nmE, jnE, bd1S, hm10, hm8, hlo, hhi, mF_F, mA_F, mF_A, Nat.reduceEqDiff, ↓reduceIte, bd1_id, ckIN (n := 16) (A := j) rfl hj (by decide), ckIN (n := 16) (A := i) rfl hi (by decide), nI_clamp (show j < 2 ^ 31 by omega), nI_clamp (show i < 2 ^ 31 by omega)]
  exact q
theorem op_211 {u : XS} {v : MS} {s i j a1 a2 at0 : Nat} (h : Dd u v 211 s i j a1 a2 at0) : Out (f_XPr_perform u) v := by
  obtain ⟨n, hn, hnx, hbh, hact⟩ := h.act
  have hact := hact.2.2.2.1 (by decide) (by decide)
  obtain ⟨hC, ⟨-, hs, hi, hj, h1, h2⟩, ⟨hlo, hhi, hsij⟩, ⟨hx4, hm8⟩, ⟨hx5, hm10⟩, ⟨hx6, hx7⟩, hA2, hA1, hA12, ⟨h13, h0, hat⟩, -⟩ := h
  have hx4 : xF u 4 = 211 := hx4
  have hm8 : mF v 8 = 211 := hm8
  have hR : xR u = mA v 2 := hC.2.1
  obtain ⟨hx9, hm12⟩ := hA2 (by decide)
  obtain ⟨hx8, hm11⟩ := hA1 (by decide)
  have lh1 := fun w => lies_holds w u (nI a1) (n := nI (s + 1)) (N := s + 1) rfl (by omega)
  have lh2 := fun w => lies_holds w u (nI a2) (n := nI (s + 1)) (N := s + 1) rfl (by omega)
  have fu : s + 1 < (Int32.toInt (nI (s + 1)) - Int32.toInt (0 : Int32)).toNat + 1 := by rw [nI_toInt (by omega), show (0 : Int32).toInt = 0 from rfl]; omega
  cases hh1 : f_XMe_holds u (nI a1) (nI (s + 1)) with
  | false =>
    have hl : f_MMo_looks v = some (msF v 13 5) := by simp +decide only [f_MMo_looks, bI0, wrong_f, f_MMo_low, f_MMo_high, nmE, jnE, bd1S, hm10, hm8, hlo, hhi, mF_F, mA_F, mF_A, Nat.reduceEqDiff, ↓reduceIte, bd1_id, ckIN (n := 16) (A := j) rfl hj (by decide), ckIN (n := 16) (A := i) rfl hi (by decide), nI_clamp (show j < 2 ^ 31 by omega), nI_clamp (show i < 2 ^ 31 by omega), hm11, hm12, ite_self, nI_1, wrong_t v 5 h13, lh1, hh1]
    have eX : f_XPr_perform u = (5, u) := by simp +decide only [f_XPr_perform, prI, prE, nmE, jnE, hx4, hx5, hx6, hx7, bI0, ↓reduceIte, x_val _ rfl hi, x_val _ rfl hj, x_putR _ _ rfl hi, hR, xF_R, xF_F, xR_R, xR_F, hnx, hbh, hx8, hx9, f_XOc_withField, nI_1, hh1]
    rw [eX]
    exact Out.no hl rfl (by unfold nok; decide) hC
  | true =>
  have k1 := holdsT h1 (by omega) hh1
  cases hh2 : f_XMe_holds u (nI a2) (nI (s + 1)) with
  | false =>
    have hl : f_MMo_looks v = some (msF v 13 5) := by simp +decide only [f_MMo_looks, bI0, wrong_f, f_MMo_low, f_MMo_high, nmE, jnE, bd1S, hm10, hm8, hlo, hhi, mF_F, mA_F, mF_A, Nat.reduceEqDiff, ↓reduceIte, bd1_id, ckIN (n := 16) (A := j) rfl hj (by decide), ckIN (n := 16) (A := i) rfl hi (by decide), nI_clamp (show j < 2 ^ 31 by omega), nI_clamp (show i < 2 ^ 31 by omega), hm11, hm12, ite_self, nI_1, wrong_t v 5 h13, lh1, hh1, lh2, hh2]
    have eX : f_XPr_perform u = (5, u) := by simp +decide only [f_XPr_perform, prI, prE, nmE, jnE, hx4, hx5, hx6, hx7, bI0, ↓reduceIte, x_val _ rfl hi, x_val _ rfl hj, x_putR _ _ rfl hi, hR, xF_R, xF_F, xR_R, xR_F, hnx, hbh, hx8, hx9, f_XOc_withField, nI_1, hh1, hh2]
    rw [eX]
    exact Out.no hl rfl (by unfold nok; decide) hC
  | true =>
  have k2 := holdsT h2 (by omega) hh2
  have hl : f_MMo_looks v = some v := by simp +decide only [f_MMo_looks, bI0, wrong_f, f_MMo_low, f_MMo_high, nmE, jnE, bd1S, hm10, hm8, hlo, hhi, mF_F, mA_F, mF_A, Nat.reduceEqDiff, ↓reduceIte, bd1_id, ckIN (n := 16) (A := j) rfl hj (by decide), ckIN (n := 16) (A := i) rfl hi (by decide), nI_clamp (show j < 2 ^ 31 by omega), nI_clamp (show i < 2 ^ 31 by omega), hm11, hm12, ite_self, nI_1, lh1, hh1, lh2, hh2]
  refine Sim.out (n := n) (r := f_MMo_octets (msF v 2 (nI n))) ?_ hl h13 hact hnx hn
  have q := sim_rw_211 (N := s + 1) (a1 := a1) (a2 := a2) (KX := fun x_1 u_2 => if (xF u_2 4) < (212 : Int32) then ((0 : Int32), u_2) else ((0 : Int32), f_XSt_conditionByBits u_2 x_1)) (KM := fun x_3 u_4 => jn (fun (K_6 : Option (MS)) => if (mF u_4 8) = (212 : Int32) then K_6 else if (mF u_4 8) = (214 : Int32) then K_6 else if (mF u_4 8) = (215 : Int32) then K_6 else some u_4) (if x_3 = (0 : Int32) then nm (msF u_4 1 (0 : Int32)) (fun (u_9 : MS) => some u_9) else nm (msF u_4 1 (1 : Int32)) (fun (u_8 : MS) => some u_8))) (fun all u v hC h13 hx4 hm8 => by
    simp +decide only [hx4, hm8, nmE, jnE, ↓reduceIte]
    exact Sim.mk ok0 h13 hC rfl rfl rfl) k1 k2 (s + 1) 0 _ fuelM 0 u (msF v 2 (nI n)) (by omega) fu (by unfold fuelM; omega) (hC.mn _) h13 hx4 hx8 hx9 hm8 hm11 hm12
  simp only [nmE, jnE, show nI 0 = (0 : Int32) from rfl] at q
  simp +decide only [f_XPr_perform, prI, prE, nmE, jnE, hx4, hx5, hx6, hx7, bI0, ↓reduceIte, x_val _ rfl hi, x_val _ rfl hj, x_putR _ _ rfl hi, hR, xF_R, xF_F, xR_R, xR_F, hnx, hbh, hx8, hx9, f_XOc_withField, f_XOc_rewrite, nI_1, hh1, hh2, f_MMo_octets, f_MMo_low, f_MMo_high, nmE, jnE, bd1S, hm10, hm8, hlo, hhi, mF_F, mA_F, mF_A, Nat.reduceEqDiff, ↓reduceIte, bd1_id, ckIN (n := 16) (A := j) rfl hj (by decide), ckIN (n := 16) (A := i) rfl hi (by decide), nI_clamp (show j < 2 ^ 31 by omega), nI_clamp (show i < 2 ^ 31 by omega)]
  exact q
theorem op_212 {u : XS} {v : MS} {s i j a1 a2 at0 : Nat} (h : Dd u v 212 s i j a1 a2 at0) : Out (f_XPr_perform u) v := by
  obtain ⟨n, hn, hnx, hbh, hact⟩ := h.act
  have hact := hact.2.2.2.1 (by decide) (by decide)
  obtain ⟨hC, ⟨-, hs, hi, hj, h1, h2⟩, ⟨hlo, hhi, hsij⟩, ⟨hx4, hm8⟩, ⟨hx5, hm10⟩, ⟨hx6, hx7⟩, hA2, hA1, hA12, ⟨h13, h0, hat⟩, -⟩ := h
  have hx4 : xF u 4 = 212 := hx4
  have hm8 : mF v 8 = 212 := hm8
  have hR : xR u = mA v 2 := hC.2.1
  obtain ⟨hx9, hm12⟩ := hA2 (by decide)
  obtain ⟨hx8, hm11⟩ := hA1 (by decide)
  have lh1 := fun w => lies_holds w u (nI a1) (n := nI (s + 1)) (N := s + 1) rfl (by omega)
  have lh2 := fun w => lies_holds w u (nI a2) (n := nI (s + 1)) (N := s + 1) rfl (by omega)
  have fu : s + 1 < (Int32.toInt (nI (s + 1)) - Int32.toInt (0 : Int32)).toNat + 1 := by rw [nI_toInt (by omega), show (0 : Int32).toInt = 0 from rfl]; omega
  cases hh1 : f_XMe_holds u (nI a1) (nI (s + 1)) with
  | false =>
    have hl : f_MMo_looks v = some (msF v 13 5) := by simp +decide only [f_MMo_looks, bI0, wrong_f, f_MMo_low, f_MMo_high, nmE, jnE, bd1S, hm10, hm8, hlo, hhi, mF_F, mA_F, mF_A, Nat.reduceEqDiff, ↓reduceIte, bd1_id, ckIN (n := 16) (A := j) rfl hj (by decide), ckIN (n := 16) (A := i) rfl hi (by decide), nI_clamp (show j < 2 ^ 31 by omega), nI_clamp (show i < 2 ^ 31 by omega), hm11, hm12, ite_self, nI_1, wrong_t v 5 h13, lh1, hh1]
    have eX : f_XPr_perform u = (5, u) := by simp +decide only [f_XPr_perform, prI, prE, nmE, jnE, hx4, hx5, hx6, hx7, bI0, ↓reduceIte, x_val _ rfl hi, x_val _ rfl hj, x_putR _ _ rfl hi, hR, xF_R, xF_F, xR_R, xR_F, hnx, hbh, hx8, hx9, f_XOc_withField, nI_1, hh1]
    rw [eX]
    exact Out.no hl rfl (by unfold nok; decide) hC
  | true =>
  have k1 := holdsT h1 (by omega) hh1
  cases hh2 : f_XMe_holds u (nI a2) (nI (s + 1)) with
  | false =>
    have hl : f_MMo_looks v = some (msF v 13 5) := by simp +decide only [f_MMo_looks, bI0, wrong_f, f_MMo_low, f_MMo_high, nmE, jnE, bd1S, hm10, hm8, hlo, hhi, mF_F, mA_F, mF_A, Nat.reduceEqDiff, ↓reduceIte, bd1_id, ckIN (n := 16) (A := j) rfl hj (by decide), ckIN (n := 16) (A := i) rfl hi (by decide), nI_clamp (show j < 2 ^ 31 by omega), nI_clamp (show i < 2 ^ 31 by omega), hm11, hm12, ite_self, nI_1, wrong_t v 5 h13, lh1, hh1, lh2, hh2]
    have eX : f_XPr_perform u = (5, u) := by simp +decide only [f_XPr_perform, prI, prE, nmE, jnE, hx4, hx5, hx6, hx7, bI0, ↓reduceIte, x_val _ rfl hi, x_val _ rfl hj, x_putR _ _ rfl hi, hR, xF_R, xF_F, xR_R, xR_F, hnx, hbh, hx8, hx9, f_XOc_withField, nI_1, hh1, hh2]
    rw [eX]
    exact Out.no hl rfl (by unfold nok; decide) hC
  | true =>
  have k2 := holdsT h2 (by omega) hh2
  have hl : f_MMo_looks v = some v := by simp +decide only [f_MMo_looks, bI0, wrong_f, f_MMo_low, f_MMo_high, nmE, jnE, bd1S, hm10, hm8, hlo, hhi, mF_F, mA_F, mF_A, Nat.reduceEqDiff, ↓reduceIte, bd1_id, ckIN (n := 16) (A := j) rfl hj (by decide), ckIN (n := 16) (A := i) rfl hi (by decide), nI_clamp (show j < 2 ^ 31 by omega), nI_clamp (show i < 2 ^ 31 by omega), hm11, hm12, ite_self, nI_1, lh1, hh1, lh2, hh2]
  refine Sim.out (n := n) (r := f_MMo_octets (msF v 2 (nI n))) ?_ hl h13 hact hnx hn
  have q := sim_rw_212 (N := s + 1) (a1 := a1) (a2 := a2) (KX := fun x_1 u_2 => if (xF u_2 4) < (212 : Int32) then ((0 : Int32), u_2) else ((0 : Int32), f_XSt_conditionByBits u_2 x_1)) (KM := fun x_3 u_4 => jn (fun (K_6 : Option (MS)) => if (mF u_4 8) = (212 : Int32) then K_6 else if (mF u_4 8) = (214 : Int32) then K_6 else if (mF u_4 8) = (215 : Int32) then K_6 else some u_4) (if x_3 = (0 : Int32) then nm (msF u_4 1 (0 : Int32)) (fun (u_9 : MS) => some u_9) else nm (msF u_4 1 (1 : Int32)) (fun (u_8 : MS) => some u_8))) (fun all u v hC h13 hx4 hm8 => by
    by_cases e : all = 0
    · simp +decide only [cond_bits, if_pos e, hx4, hm8, nmE, jnE, ↓reduceIte]
      exact Sim.mk ok0 h13 (hC.cc _ (by decide)) rfl rfl rfl
    · simp +decide only [cond_bits, if_neg e, hx4, hm8, nmE, jnE, ↓reduceIte]
      exact Sim.mk ok0 h13 (hC.cc _ (by decide)) rfl rfl rfl) k1 k2 (s + 1) 0 _ fuelM 0 u (msF v 2 (nI n)) (by omega) fu (by unfold fuelM; omega) (hC.mn _) h13 hx4 hx8 hx9 hm8 hm11 hm12
  simp only [nmE, jnE, show nI 0 = (0 : Int32) from rfl] at q
  simp +decide only [f_XPr_perform, prI, prE, nmE, jnE, hx4, hx5, hx6, hx7, bI0, ↓reduceIte, x_val _ rfl hi, x_val _ rfl hj, x_putR _ _ rfl hi, hR, xF_R, xF_F, xR_R, xR_F, hnx, hbh, hx8, hx9, f_XOc_withField, f_XOc_rewrite, nI_1, hh1, hh2, f_MMo_octets, f_MMo_low, f_MMo_high, nmE, jnE, bd1S, hm10, hm8, hlo, hhi, mF_F, mA_F, mF_A, Nat.reduceEqDiff, ↓reduceIte, bd1_id, ckIN (n := 16) (A := j) rfl hj (by decide), ckIN (n := 16) (A := i) rfl hi (by decide), nI_clamp (show j < 2 ^ 31 by omega), nI_clamp (show i < 2 ^ 31 by omega)]
  exact q
theorem op_214 {u : XS} {v : MS} {s i j a1 a2 at0 : Nat} (h : Dd u v 214 s i j a1 a2 at0) : Out (f_XPr_perform u) v := by
  obtain ⟨n, hn, hnx, hbh, hact⟩ := h.act
  have hact := hact.2.2.2.1 (by decide) (by decide)
  obtain ⟨hC, ⟨-, hs, hi, hj, h1, h2⟩, ⟨hlo, hhi, hsij⟩, ⟨hx4, hm8⟩, ⟨hx5, hm10⟩, ⟨hx6, hx7⟩, hA2, hA1, hA12, ⟨h13, h0, hat⟩, -⟩ := h
  have hx4 : xF u 4 = 214 := hx4
  have hm8 : mF v 8 = 214 := hm8
  have hR : xR u = mA v 2 := hC.2.1
  obtain ⟨hx9, hm12⟩ := hA2 (by decide)
  obtain ⟨hx8, hm11⟩ := hA1 (by decide)
  have lh1 := fun w => lies_holds w u (nI a1) (n := nI (s + 1)) (N := s + 1) rfl (by omega)
  have lh2 := fun w => lies_holds w u (nI a2) (n := nI (s + 1)) (N := s + 1) rfl (by omega)
  have fu : s + 1 < (Int32.toInt (nI (s + 1)) - Int32.toInt (0 : Int32)).toNat + 1 := by rw [nI_toInt (by omega), show (0 : Int32).toInt = 0 from rfl]; omega
  cases hh1 : f_XMe_holds u (nI a1) (nI (s + 1)) with
  | false =>
    have hl : f_MMo_looks v = some (msF v 13 5) := by simp +decide only [f_MMo_looks, bI0, wrong_f, f_MMo_low, f_MMo_high, nmE, jnE, bd1S, hm10, hm8, hlo, hhi, mF_F, mA_F, mF_A, Nat.reduceEqDiff, ↓reduceIte, bd1_id, ckIN (n := 16) (A := j) rfl hj (by decide), ckIN (n := 16) (A := i) rfl hi (by decide), nI_clamp (show j < 2 ^ 31 by omega), nI_clamp (show i < 2 ^ 31 by omega), hm11, hm12, ite_self, nI_1, wrong_t v 5 h13, lh1, hh1]
    have eX : f_XPr_perform u = (5, u) := by simp +decide only [f_XPr_perform, prI, prE, nmE, jnE, hx4, hx5, hx6, hx7, bI0, ↓reduceIte, x_val _ rfl hi, x_val _ rfl hj, x_putR _ _ rfl hi, hR, xF_R, xF_F, xR_R, xR_F, hnx, hbh, hx8, hx9, f_XOc_withField, nI_1, hh1]
    rw [eX]
    exact Out.no hl rfl (by unfold nok; decide) hC
  | true =>
  have k1 := holdsT h1 (by omega) hh1
  cases hh2 : f_XMe_holds u (nI a2) (nI (s + 1)) with
  | false =>
    have hl : f_MMo_looks v = some (msF v 13 5) := by simp +decide only [f_MMo_looks, bI0, wrong_f, f_MMo_low, f_MMo_high, nmE, jnE, bd1S, hm10, hm8, hlo, hhi, mF_F, mA_F, mF_A, Nat.reduceEqDiff, ↓reduceIte, bd1_id, ckIN (n := 16) (A := j) rfl hj (by decide), ckIN (n := 16) (A := i) rfl hi (by decide), nI_clamp (show j < 2 ^ 31 by omega), nI_clamp (show i < 2 ^ 31 by omega), hm11, hm12, ite_self, nI_1, wrong_t v 5 h13, lh1, hh1, lh2, hh2]
    have eX : f_XPr_perform u = (5, u) := by simp +decide only [f_XPr_perform, prI, prE, nmE, jnE, hx4, hx5, hx6, hx7, bI0, ↓reduceIte, x_val _ rfl hi, x_val _ rfl hj, x_putR _ _ rfl hi, hR, xF_R, xF_F, xR_R, xR_F, hnx, hbh, hx8, hx9, f_XOc_withField, nI_1, hh1, hh2]
    rw [eX]
    exact Out.no hl rfl (by unfold nok; decide) hC
  | true =>
  have k2 := holdsT h2 (by omega) hh2
  have hl : f_MMo_looks v = some v := by simp +decide only [f_MMo_looks, bI0, wrong_f, f_MMo_low, f_MMo_high, nmE, jnE, bd1S, hm10, hm8, hlo, hhi, mF_F, mA_F, mF_A, Nat.reduceEqDiff, ↓reduceIte, bd1_id, ckIN (n := 16) (A := j) rfl hj (by decide), ckIN (n := 16) (A := i) rfl hi (by decide), nI_clamp (show j < 2 ^ 31 by omega), nI_clamp (show i < 2 ^ 31 by omega), hm11, hm12, ite_self, nI_1, lh1, hh1, lh2, hh2]
  refine Sim.out (n := n) (r := f_MMo_octets (msF v 2 (nI n))) ?_ hl h13 hact hnx hn
  have q := sim_rw_214 (N := s + 1) (a1 := a1) (a2 := a2) (KX := fun x_1 u_2 => if (xF u_2 4) < (212 : Int32) then ((0 : Int32), u_2) else ((0 : Int32), f_XSt_conditionByBits u_2 x_1)) (KM := fun x_3 u_4 => jn (fun (K_6 : Option (MS)) => if (mF u_4 8) = (212 : Int32) then K_6 else if (mF u_4 8) = (214 : Int32) then K_6 else if (mF u_4 8) = (215 : Int32) then K_6 else some u_4) (if x_3 = (0 : Int32) then nm (msF u_4 1 (0 : Int32)) (fun (u_9 : MS) => some u_9) else nm (msF u_4 1 (1 : Int32)) (fun (u_8 : MS) => some u_8))) (fun all u v hC h13 hx4 hm8 => by
    by_cases e : all = 0
    · simp +decide only [cond_bits, if_pos e, hx4, hm8, nmE, jnE, ↓reduceIte]
      exact Sim.mk ok0 h13 (hC.cc _ (by decide)) rfl rfl rfl
    · simp +decide only [cond_bits, if_neg e, hx4, hm8, nmE, jnE, ↓reduceIte]
      exact Sim.mk ok0 h13 (hC.cc _ (by decide)) rfl rfl rfl) k1 k2 (s + 1) 0 _ fuelM 0 u (msF v 2 (nI n)) (by omega) fu (by unfold fuelM; omega) (hC.mn _) h13 hx4 hx8 hx9 hm8 hm11 hm12
  simp only [nmE, jnE, show nI 0 = (0 : Int32) from rfl] at q
  simp +decide only [f_XPr_perform, prI, prE, nmE, jnE, hx4, hx5, hx6, hx7, bI0, ↓reduceIte, x_val _ rfl hi, x_val _ rfl hj, x_putR _ _ rfl hi, hR, xF_R, xF_F, xR_R, xR_F, hnx, hbh, hx8, hx9, f_XOc_withField, f_XOc_rewrite, nI_1, hh1, hh2, f_MMo_octets, f_MMo_low, f_MMo_high, nmE, jnE, bd1S, hm10, hm8, hlo, hhi, mF_F, mA_F, mF_A, Nat.reduceEqDiff, ↓reduceIte, bd1_id, ckIN (n := 16) (A := j) rfl hj (by decide), ckIN (n := 16) (A := i) rfl hi (by decide), nI_clamp (show j < 2 ^ 31 by omega), nI_clamp (show i < 2 ^ 31 by omega)]
  exact q
theorem op_215 {u : XS} {v : MS} {s i j a1 a2 at0 : Nat} (h : Dd u v 215 s i j a1 a2 at0) : Out (f_XPr_perform u) v := by
  obtain ⟨n, hn, hnx, hbh, hact⟩ := h.act
  have hact := hact.2.2.2.1 (by decide) (by decide)
  obtain ⟨hC, ⟨-, hs, hi, hj, h1, h2⟩, ⟨hlo, hhi, hsij⟩, ⟨hx4, hm8⟩, ⟨hx5, hm10⟩, ⟨hx6, hx7⟩, hA2, hA1, hA12, ⟨h13, h0, hat⟩, -⟩ := h
  have hx4 : xF u 4 = 215 := hx4
  have hm8 : mF v 8 = 215 := hm8
  have hR : xR u = mA v 2 := hC.2.1
  obtain ⟨hx9, hm12⟩ := hA2 (by decide)
  obtain ⟨hx8, hm11⟩ := hA1 (by decide)
  have lh1 := fun w => lies_holds w u (nI a1) (n := nI (s + 1)) (N := s + 1) rfl (by omega)
  have lh2 := fun w => lies_holds w u (nI a2) (n := nI (s + 1)) (N := s + 1) rfl (by omega)
  have fu : s + 1 < (Int32.toInt (nI (s + 1)) - Int32.toInt (0 : Int32)).toNat + 1 := by rw [nI_toInt (by omega), show (0 : Int32).toInt = 0 from rfl]; omega
  cases hh1 : f_XMe_holds u (nI a1) (nI (s + 1)) with
  | false =>
    have hl : f_MMo_looks v = some (msF v 13 5) := by simp +decide only [f_MMo_looks, bI0, wrong_f, f_MMo_low, f_MMo_high, nmE, jnE, bd1S, hm10, hm8, hlo, hhi, mF_F, mA_F, mF_A, Nat.reduceEqDiff, ↓reduceIte, bd1_id, ckIN (n := 16) (A := j) rfl hj (by decide), ckIN (n := 16) (A := i) rfl hi (by decide), nI_clamp (show j < 2 ^ 31 by omega), nI_clamp (show i < 2 ^ 31 by omega), hm11, hm12, ite_self, nI_1, wrong_t v 5 h13, lh1, hh1]
    have eX : f_XPr_perform u = (5, u) := by simp +decide only [f_XPr_perform, prI, prE, nmE, jnE, hx4, hx5, hx6, hx7, bI0, ↓reduceIte, x_val _ rfl hi, x_val _ rfl hj, x_putR _ _ rfl hi, hR, xF_R, xF_F, xR_R, xR_F, hnx, hbh, hx8, hx9, f_XOc_withField, nI_1, hh1]
    rw [eX]
    exact Out.no hl rfl (by unfold nok; decide) hC
  | true =>
  have k1 := holdsT h1 (by omega) hh1
  cases hh2 : f_XMe_holds u (nI a2) (nI (s + 1)) with
  | false =>
    have hl : f_MMo_looks v = some (msF v 13 5) := by simp +decide only [f_MMo_looks, bI0, wrong_f, f_MMo_low, f_MMo_high, nmE, jnE, bd1S, hm10, hm8, hlo, hhi, mF_F, mA_F, mF_A, Nat.reduceEqDiff, ↓reduceIte, bd1_id, ckIN (n := 16) (A := j) rfl hj (by decide), ckIN (n := 16) (A := i) rfl hi (by decide), nI_clamp (show j < 2 ^ 31 by omega), nI_clamp (show i < 2 ^ 31 by omega), hm11, hm12, ite_self, nI_1, wrong_t v 5 h13, lh1, hh1, lh2, hh2]
    have eX : f_XPr_perform u = (5, u) := by simp +decide only [f_XPr_perform, prI, prE, nmE, jnE, hx4, hx5, hx6, hx7, bI0, ↓reduceIte, x_val _ rfl hi, x_val _ rfl hj, x_putR _ _ rfl hi, hR, xF_R, xF_F, xR_R, xR_F, hnx, hbh, hx8, hx9, f_XOc_withField, nI_1, hh1, hh2]
    rw [eX]
    exact Out.no hl rfl (by unfold nok; decide) hC
  | true =>
  have k2 := holdsT h2 (by omega) hh2
  have hl : f_MMo_looks v = some v := by simp +decide only [f_MMo_looks, bI0, wrong_f, f_MMo_low, f_MMo_high, nmE, jnE, bd1S, hm10, hm8, hlo, hhi, mF_F, mA_F, mF_A, Nat.reduceEqDiff, ↓reduceIte, bd1_id, ckIN (n := 16) (A := j) rfl hj (by decide), ckIN (n := 16) (A := i) rfl hi (by decide), nI_clamp (show j < 2 ^ 31 by omega), nI_clamp (show i < 2 ^ 31 by omega), hm11, hm12, ite_self, nI_1, lh1, hh1, lh2, hh2]
  refine Sim.out (n := n) (r := f_MMo_octets (msF v 2 (nI n))) ?_ hl h13 hact hnx hn
  have q := sim_rw_215 (N := s + 1) (a1 := a1) (a2 := a2) (KX := fun x_1 u_2 => if (xF u_2 4) < (212 : Int32) then ((0 : Int32), u_2) else ((0 : Int32), f_XSt_conditionByBits u_2 x_1)) (KM := fun x_3 u_4 => jn (fun (K_6 : Option (MS)) => if (mF u_4 8) = (212 : Int32) then K_6 else if (mF u_4 8) = (214 : Int32) then K_6 else if (mF u_4 8) = (215 : Int32) then K_6 else some u_4) (if x_3 = (0 : Int32) then nm (msF u_4 1 (0 : Int32)) (fun (u_9 : MS) => some u_9) else nm (msF u_4 1 (1 : Int32)) (fun (u_8 : MS) => some u_8))) (fun all u v hC h13 hx4 hm8 => by
    by_cases e : all = 0
    · simp +decide only [cond_bits, if_pos e, hx4, hm8, nmE, jnE, ↓reduceIte]
      exact Sim.mk ok0 h13 (hC.cc _ (by decide)) rfl rfl rfl
    · simp +decide only [cond_bits, if_neg e, hx4, hm8, nmE, jnE, ↓reduceIte]
      exact Sim.mk ok0 h13 (hC.cc _ (by decide)) rfl rfl rfl) k1 k2 (s + 1) 0 _ fuelM 0 u (msF v 2 (nI n)) (by omega) fu (by unfold fuelM; omega) (hC.mn _) h13 hx4 hx8 hx9 hm8 hm11 hm12
  simp only [nmE, jnE, show nI 0 = (0 : Int32) from rfl] at q
  simp +decide only [f_XPr_perform, prI, prE, nmE, jnE, hx4, hx5, hx6, hx7, bI0, ↓reduceIte, x_val _ rfl hi, x_val _ rfl hj, x_putR _ _ rfl hi, hR, xF_R, xF_F, xR_R, xR_F, hnx, hbh, hx8, hx9, f_XOc_withField, f_XOc_rewrite, nI_1, hh1, hh2, f_MMo_octets, f_MMo_low, f_MMo_high, nmE, jnE, bd1S, hm10, hm8, hlo, hhi, mF_F, mA_F, mF_A, Nat.reduceEqDiff, ↓reduceIte, bd1_id, ckIN (n := 16) (A := j) rfl hj (by decide), ckIN (n := 16) (A := i) rfl hi (by decide), nI_clamp (show j < 2 ^ 31 by omega), nI_clamp (show i < 2 ^ 31 by omega)]
  exact q
theorem x_trC {a1 a2 N : Nat} (K1 : Int32 × XS) (u : XS) (hx8 : xF u 8 = nI a1) (hx9 : xF u 9 = nI a2) (h1 : a1 + N ≤ 1024) (hg : ∀ k, k < N → f_XMe_holds u ((nI a2 + xM u (a1 + k)) &&& 16777215) 1 = true) : ∀ (d t fX : Nat), t + d = N → d < fX → lpN fX (g_XOc_translate_2 (nI N) K1 u) (fun _ => default) (nI t) = K1 := by
  intro d
  induction d with
  | zero =>
    intro t fX ht hX
    obtain ⟨f, rfl⟩ : ∃ f, fX = f + 1 := ⟨fX - 1, by omega⟩
    show g_XOc_translate_2 (nI N) K1 u _ (nI t) = _
    simp only [g_XOc_translate_2]
    rw [if_pos (nI_le (by omega) (by omega))]
  | succ d ih =>
    intro t fX ht hX
    obtain ⟨f, rfl⟩ : ∃ f, fX = f + 1 := ⟨fX - 1, by omega⟩
    show g_XOc_translate_2 (nI N) K1 u _ (nI t) = _
    have k1 : a1 + t < 1024 := by omega
    have := hg t (by omega)
    simp +decide only [g_XOc_translate_2, f_XOc_entry, if_neg (nI_ge (show t < N by omega) (show N < 2 ^ 31 by omega)), nmE, hx8, hx9, nI_add, getN u (A := a1 + t) rfl k1, this, bI0, ↓reduceIte, nI_1]
    exact ih (t + 1) f (by omega) (by omega)
theorem x_trB {a1 a2 N : Nat} (K1 : Int32 × XS) (u : XS) (hx8 : xF u 8 = nI a1) (hx9 : xF u 9 = nI a2) (h1 : a1 + N ≤ 1024) : ∀ (d t fX : Nat), t + d = N → d < fX → (∃ k, t ≤ k ∧ k < N ∧ f_XMe_holds u ((nI a2 + xM u (a1 + k)) &&& 16777215) 1 = false) → lpN fX (g_XOc_translate_2 (nI N) K1 u) (fun _ => default) (nI t) = (5, u) := by
  intro d
  induction d with
  | zero =>
    rintro t fX ht hX ⟨k, q1, q2, -⟩
    omega
  | succ d ih =>
    rintro t fX ht hX ⟨k, q1, q2, q3⟩
    obtain ⟨f, rfl⟩ : ∃ f, fX = f + 1 := ⟨fX - 1, by omega⟩
    show g_XOc_translate_2 (nI N) K1 u _ (nI t) = _
    have k1 : a1 + t < 1024 := by omega
    simp +decide only [g_XOc_translate_2, f_XOc_entry, if_neg (nI_ge (show t < N by omega) (show N < 2 ^ 31 by omega)), nmE, hx8, hx9, nI_add, getN u (A := a1 + t) rfl k1, bI0, nI_1]
    cases hh : f_XMe_holds u ((nI a2 + xM u (a1 + t)) &&& 16777215) 1 with
    | false => simp only [↓reduceIte]
    | true =>
      simp only [reduceCtorEq, ↓reduceIte]
      refine ih (t + 1) f (by omega) (by omega) ⟨k, ?_, q2, q3⟩
      rcases Nat.lt_or_ge t k with e | e
      · omega
      · have : k = t := by omega
        rw [this, hh] at q3
        cases q3
theorem m_trK {a1 N : Nat} (K2 : MS → Option (Bool × MS)) (h1 : a1 + N ≤ 1024) (hN : N ≤ 256) (v0 : MS) (hm11 : mF v0 11 = nI a1) : ∀ (d t fM : Nat) (w : MS), t + d = N → d < fM → mF w = mF v0 → (∀ p, p ≠ 3 → mA w p = mA v0 p) → (∀ k, k < t → mA w 3 k = mA v0 1 (a1 + k)) → ∃ w', lpN fM (g_MMo_translates_2 (nI N) K2) (fun _ _ => none) (nI t) w = K2 w' ∧ mF w' = mF v0 ∧ (∀ p, p ≠ 3 → mA w' p = mA v0 p) ∧ ∀ k, k < N → mA w' 3 k = mA v0 1 (a1 + k) := by
  intro d
  induction d with
  | zero =>
    intro t fM w ht hF hf hp hk
    obtain ⟨g, rfl⟩ : ∃ f, fM = f + 1 := ⟨fM - 1, by omega⟩
    refine ⟨w, ?_, hf, hp, fun k h => hk k (by omega)⟩
    show g_MMo_translates_2 (nI N) K2 _ (nI t) w = _
    simp only [g_MMo_translates_2]
    rw [if_pos (nI_le (by omega) (by omega))]
  | succ d ih =>
    intro t fM w ht hF hf hp hk
    obtain ⟨g, rfl⟩ : ∃ f, fM = f + 1 := ⟨fM - 1, by omega⟩
    have k1 : a1 + t < 1024 := by omega
    have k3 : t < 256 := by omega
    obtain ⟨w', e1, e2, e3, e4⟩ := ih (t + 1) g (msA w 3 t (mA w 1 (a1 + t))) (by omega) (by omega) hf (fun p h => by rw [mA_A, if_neg h]; exact hp p h) (fun k h => by
      rw [mA_A, if_pos rfl, updE]
      by_cases c : k = t
      · rw [if_pos c, c, hp 1 (by decide)]
      · rw [if_neg c]; exact hk k (by omega))
    refine ⟨w', ?_, e2, e3, e4⟩
    show g_MMo_translates_2 (nI N) K2 _ (nI t) w = _
    simp only [g_MMo_translates_2, if_neg (nI_ge (show t < N by omega) (show N < 2 ^ 31 by omega)), nmE, hf, hm11, nI_add, ckIN (n := 1024) (A := a1 + t) rfl k1 (by decide), ckIN (n := 256) (A := t) rfl k3 (by decide), nI_clamp (show a1 + t < 2 ^ 31 by omega), nI_clamp (show t < 2 ^ 31 by omega), nI_1]
    exact e1
theorem tr_good {a1 a2 N : Nat} (u0 : XS) (K : Bool → MS → Option (Bool × MS)) (h1 : a1 + N ≤ 1024) : ∀ (d t fX fM : Nat) (u : XS) (w : MS), t + d = N → d < fX → d < fM → (∀ k, t ≤ k → k < N → f_XMe_holds u0 ((nI a2 + xM u (a1 + k)) &&& 16777215) 1 = true) → Core u w → xF u 8 = nI a1 → xF u 9 = nI a2 → mF w 11 = nI a1 → mF w 12 = nI a2 → ∃ u' w', lpN fX (g_XOc_translate_34 (nI N)) (fun _ _ => default) (nI t) u = (0, u') ∧ lpN fM (g_MMo_translates_34 (nI N) K) (fun _ _ _ => none) true (nI t) w = K true w' ∧ Core u' w' ∧ xF u' = xF u ∧ mF w' = mF w := by
  intro d
  induction d with
  | zero =>
    intro t fX fM u w ht hX hF hg hC hx8 hx9 hm11 hm12
    obtain ⟨f, rfl⟩ : ∃ f, fX = f + 1 := ⟨fX - 1, by omega⟩
    obtain ⟨g, rfl⟩ : ∃ f, fM = f + 1 := ⟨fM - 1, by omega⟩
    refine ⟨u, w, ?_, ?_, hC, rfl, rfl⟩
    · show g_XOc_translate_34 (nI N) _ (nI t) u = _
      simp only [g_XOc_translate_34]
      rw [if_pos (nI_le (by omega) (by omega))]
    · show g_MMo_translates_34 (nI N) K _ true (nI t) w = _
      simp only [g_MMo_translates_34]
      rw [if_pos (nI_le (by omega) (by omega))]
  | succ d ih =>
    intro t fX fM u w ht hX hF hg hC hx8 hx9 hm11 hm12
    obtain ⟨f, rfl⟩ : ∃ f, fX = f + 1 := ⟨fX - 1, by omega⟩
    obtain ⟨g, rfl⟩ : ∃ f, fM = f + 1 := ⟨fM - 1, by omega⟩
    have k1 : a1 + t < 1024 := by omega
    obtain ⟨b, hb, hxb, hmb⟩ := hC.nb
    have hh := hg t (Nat.le_refl _) (by omega)
    obtain ⟨A, eA, hA⟩ := (holds_iff u0 _ (n := 1) (N := 1) rfl (by decide)).mp hh
    have hA : A < 1024 := hA
    have hbA := hb A
    obtain ⟨u', w', e1, e2, e3, e4, e5⟩ := ih (t + 1) f g (xsM u (a1 + t) (nI (b A))) (msA w 1 (a1 + t) (nI (b A))) (by omega) (by omega) (by omega) (fun k q1 q2 => by
      have := hg k (by omega) q2
      rw [xM_M, updE, if_neg (by omega)]
      exact this) (hC.put _ (nb_ok hbA)) hx8 hx9 hm11 hm12
    rw [hxb, nI_add] at eA hh
    have lh := fun w => lies_holds w u0 (nI A) (n := 1) (N := 1) rfl (by decide)
    rw [eA] at hh
    refine ⟨u', w', ?_, ?_, e3, e4, e5⟩
    · show g_XOc_translate_34 (nI N) _ (nI t) u = _
      simp only [g_XOc_translate_34, f_XOc_entry, if_neg (nI_ge (show t < N by omega) (show N < 2 ^ 31 by omega)), nmE, hx8, hx9, nI_add, getN u (A := a1 + t) rfl k1, hxb, eA, getN u (A := A) rfl hA, x_put8 u (A := a1 + t) rfl k1 hbA, nI_1]
      exact e1
    · show g_MMo_translates_34 (nI N) K _ true (nI t) w = _
      simp only [g_MMo_translates_34, if_neg (nI_ge (show t < N by omega) (show N < 2 ^ 31 by omega)), nmE, jnE, bI0, reduceCtorEq, ↓reduceIte, hm11, hm12, nI_add, ckIN (n := 1024) (A := a1 + t) rfl k1 (by decide), nI_clamp (show a1 + t < 2 ^ 31 by omega), hmb, eA, lh, hh, bd1S, ckIN (n := 1024) (A := A) rfl hA (by decide), nI_clamp (show A < 2 ^ 31 by omega), nI_1]
      exact e2
theorem tr_bad {a1 a2 N : Nat} (u0 : XS) (K : Bool → MS → Option (Bool × MS)) (h1 : a1 + N ≤ 1024) : ∀ (d t fM : Nat) (w : MS), t + d = N → d < fM → (∃ k, t ≤ k ∧ k < N ∧ f_XMe_holds u0 ((nI a2 + mA w 1 (a1 + k)) &&& 16777215) 1 = false) → mF w 11 = nI a1 → mF w 12 = nI a2 → ∃ w', lpN fM (g_MMo_translates_34 (nI N) K) (fun _ _ _ => none) true (nI t) w = K false w' ∧ mF w' = mF w ∧ (∀ p, p ≠ 1 → mA w' p = mA w p) ∧ ∀ q, ¬ (a1 ≤ q ∧ q < a1 + N) → mA w' 1 q = mA w 1 q := by
  intro d
  induction d with
  | zero =>
    rintro t fM w ht hF ⟨k, q1, q2, -⟩
    omega
  | succ d ih =>
    rintro t fM w ht hF ⟨k, q1, q2, q3⟩ hm11 hm12
    obtain ⟨g, rfl⟩ : ∃ f, fM = f + 1 := ⟨fM - 1, by omega⟩
    have k1 : a1 + t < 1024 := by omega
    have lh := fun w x => lies_holds w u0 x (n := 1) (N := 1) rfl (by decide)
    cases hh : f_XMe_holds u0 ((nI a2 + mA w 1 (a1 + t)) &&& 16777215) 1 with
    | false =>
      refine ⟨w, ?_, rfl, fun _ _ => rfl, fun _ _ => rfl⟩
      show g_MMo_translates_34 (nI N) K _ true (nI t) w = _
      simp only [g_MMo_translates_34, if_neg (nI_ge (show t < N by omega) (show N < 2 ^ 31 by omega)), nmE, jnE, bI0, reduceCtorEq, ↓reduceIte, hm11, hm12, nI_add, ckIN (n := 1024) (A := a1 + t) rfl k1 (by decide), nI_clamp (show a1 + t < 2 ^ 31 by omega), lh, hh, bd1S, nI_1]
      obtain ⟨g', rfl⟩ : ∃ f, g = f + 1 := ⟨g - 1, by omega⟩
      show g_MMo_translates_34 (nI N) K _ false (nI (t + 1)) w = _
      simp only [g_MMo_translates_34, bI0, ↓reduceIte, ite_self]
    | true =>
      obtain ⟨A, eA, hA⟩ := (holds_iff u0 _ (n := 1) (N := 1) rfl (by decide)).mp hh
      have hA : A < 1024 := hA
      have hk : t < k := by
        rcases Nat.lt_or_ge t k with e | e
        · exact e
        · have : k = t := by omega
          rw [this, hh] at q3
          cases q3
      obtain ⟨w', e1, e2, e3, e4⟩ := ih (t + 1) g (msA w 1 (a1 + t) (mA w 1 A)) (by omega) (by omega) ⟨k, by omega, q2, by
        rw [mA_A, if_pos rfl, updE, if_neg (by omega)]
        exact q3⟩ hm11 hm12
      refine ⟨w', ?_, e2, fun p hp => by rw [e3 p hp, mA_A, if_neg hp], fun q hq => by rw [e4 q hq, mA_A, if_pos rfl, updE, if_neg (by omega)]⟩
      show g_MMo_translates_34 (nI N) K _ true (nI t) w = _
      rw [eA] at hh
      simp only [g_MMo_translates_34, if_neg (nI_ge (show t < N by omega) (show N < 2 ^ 31 by omega)), nmE, jnE, bI0, reduceCtorEq, ↓reduceIte, hm11, hm12, nI_add, ckIN (n := 1024) (A := a1 + t) rfl k1 (by decide), nI_clamp (show a1 + t < 2 ^ 31 by omega), eA, lh, hh, bd1S, ckIN (n := 1024) (A := A) rfl hA (by decide), nI_clamp (show A < 2 ^ 31 by omega), nI_1]
      exact e1
theorem tr_back {a1 N : Nat} (h1 : a1 + N ≤ 1024) (hN : N ≤ 256) : ∀ (d t fM : Nat) (w : MS), t + d = N → d < fM → mF w 11 = nI a1 → ∃ w', lpN fM (g_MMo_translates_101 (nI N) false) (fun _ _ => none) (nI t) w = some (false, w') ∧ mF w' = mF w ∧ (∀ p, p ≠ 1 → mA w' p = mA w p) ∧ ∀ q, mA w' 1 q = if a1 + t ≤ q ∧ q < a1 + N then mA w 3 (q - a1) else mA w 1 q := by
  intro d
  induction d with
  | zero =>
    intro t fM w ht hF hm11
    obtain ⟨g, rfl⟩ : ∃ f, fM = f + 1 := ⟨fM - 1, by omega⟩
    refine ⟨w, ?_, rfl, fun _ _ => rfl, fun q => by rw [if_neg (by omega)]⟩
    show g_MMo_translates_101 (nI N) false _ (nI t) w = _
    simp only [g_MMo_translates_101]
    rw [if_pos (nI_le (by omega) (by omega))]
  | succ d ih =>
    intro t fM w ht hF hm11
    obtain ⟨g, rfl⟩ : ∃ f, fM = f + 1 := ⟨fM - 1, by omega⟩
    have k1 : a1 + t < 1024 := by omega
    have k3 : t < 256 := by omega
    obtain ⟨w', e1, e2, e3, e4⟩ := ih (t + 1) g (msA w 1 (a1 + t) (mA w 3 t)) (by omega) (by omega) hm11
    refine ⟨w', ?_, e2, fun p hp => by rw [e3 p hp, mA_A, if_neg hp], fun q => ?_⟩
    · show g_MMo_translates_101 (nI N) false _ (nI t) w = _
      simp only [g_MMo_translates_101, if_neg (nI_ge (show t < N by omega) (show N < 2 ^ 31 by omega)), nmE, bI0, ↓reduceIte, hm11, nI_add, ckIN (n := 1024) (A := a1 + t) rfl k1 (by decide), ckIN (n := 256) (A := t) rfl k3 (by decide), nI_clamp (show a1 + t < 2 ^ 31 by omega), nI_clamp (show t < 2 ^ 31 by omega), nI_1]
      exact e1
    · have q3 : mA (msA w 1 (a1 + t) (mA w 3 t)) 3 = mA w 3 := by rw [mA_A, if_neg (by decide)]
      have q1 : mA (msA w 1 (a1 + t) (mA w 3 t)) 1 q = if q = a1 + t then mA w 3 t else mA w 1 q := by rw [mA_A, if_pos rfl, updE]
      rw [e4 q, q3, q1]
      by_cases c : q = a1 + t
      · rw [if_neg (by omega), if_pos c, if_pos (by omega)]
        congr 1
        omega
      · by_cases e : a1 + (t + 1) ≤ q ∧ q < a1 + N
        · rw [if_pos e, if_pos (by omega)]
        · rw [if_neg e, if_neg c, if_neg (by omega)]

theorem op_220 {u : XS} {v : MS} {s i j a1 a2 at0 : Nat} (h : Dd u v 220 s i j a1 a2 at0) : Out (f_XPr_perform u) v := by
  obtain ⟨n, hn, hnx, hbh, hact⟩ := h.act
  have hq9 := h.place hnx
  have hact := hact.2.2.2.1 (by decide) (by decide)
  obtain ⟨hC, ⟨-, hs, hi, hj, h1, h2⟩, ⟨hlo, hhi, hsij⟩, ⟨hx4, hm8⟩, ⟨hx5, hm10⟩, ⟨hx6, hx7⟩, hA2, hA1, hA12, ⟨h13, h0, hat⟩, -⟩ := h
  have hx4 : xF u 4 = 220 := hx4
  have hm8 : mF v 8 = 220 := hm8
  have hR : xR u = mA v 2 := hC.2.1
  obtain ⟨hx9, hm12⟩ := hA2 (by decide)
  obtain ⟨hx8, hm11⟩ := hA1 (by decide)
  have lh1 := fun w => lies_holds w u (nI a1) (n := nI (s + 1)) (N := s + 1) rfl (by omega)
  have lh2 := fun w => lies_holds w u (nI a2) (n := nI (s + 1)) (N := s + 1) rfl (by omega)
  have fu : s + 1 < (Int32.toInt (nI (s + 1)) - Int32.toInt (0 : Int32)).toNat + 1 := by rw [nI_toInt (by omega), show (0 : Int32).toInt = 0 from rfl]; omega
  cases hh1 : f_XMe_holds u (nI a1) (nI (s + 1)) with
  | false =>
    have hl : f_MMo_looks v = some (msF v 13 5) := by simp +decide only [f_MMo_looks, bI0, wrong_f, f_MMo_low, f_MMo_high, nmE, jnE, bd1S, hm10, hm8, hlo, hhi, mF_F, mA_F, mF_A, Nat.reduceEqDiff, ↓reduceIte, bd1_id, ckIN (n := 16) (A := j) rfl hj (by decide), ckIN (n := 16) (A := i) rfl hi (by decide), nI_clamp (show j < 2 ^ 31 by omega), nI_clamp (show i < 2 ^ 31 by omega), hm11, hm12, ite_self, nI_1, wrong_t v 5 h13, lh1, hh1]
    have eX : f_XPr_perform u = (5, u) := by simp +decide only [f_XPr_perform, prI, prE, nmE, jnE, hx4, hx5, hx6, hx7, bI0, ↓reduceIte, x_val _ rfl hi, x_val _ rfl hj, x_putR _ _ rfl hi, hR, xF_R, xF_F, xR_R, xR_F, hnx, hbh, hx8, hx9, f_XOc_withField, nI_1, hh1]
    rw [eX]
    exact Out.no hl rfl (by unfold nok; decide) hC
  | true =>
  have k1 := holdsT h1 (by omega) hh1
  have el : f_MMo_looks v = bd2 (f_MMo_translates v (nI (s + 1))) (fun (z_42 : Bool) (u_41 : MS) => if z_42 = false then f_MMo_wrong u_41 true (5 : Int32) else f_MMo_wrong u_41 false (5 : Int32)) := by
    simp +decide only [f_MMo_looks, bI0, wrong_f, f_MMo_low, f_MMo_high, nmE, jnE, bd1S, hm10, hm8, hlo, hhi, mF_F, mA_F, mF_A, Nat.reduceEqDiff, ↓reduceIte, bd1_id, ckIN (n := 16) (A := j) rfl hj (by decide), ckIN (n := 16) (A := i) rfl hi (by decide), nI_clamp (show j < 2 ^ 31 by omega), nI_clamp (show i < 2 ^ 31 by omega), hm11, hm12, nI_1, lh1, hh1, h13]
  obtain ⟨w, ew1, ew2, ew3, ew4⟩ := m_trK (a1 := a1) (N := s + 1) (fun (u_1 : MS) => lpN fuelM (g_MMo_translates_34 (nI (s + 1)) (fun (z_3 : Bool) (u_4 : MS) => lpN fuelM (g_MMo_translates_101 (nI (s + 1)) z_3) (fun _ _ => none) (0 : Int32) u_4)) (fun _ _ _ => none) true (0 : Int32) u_1) k1 (by omega) v hm11 (s + 1) 0 fuelM v (by omega) (by unfold fuelM; omega) rfl (fun _ _ => rfl) (fun k h => by omega)
  have et : f_MMo_translates v (nI (s + 1)) = lpN fuelM (g_MMo_translates_34 (nI (s + 1)) (fun (z_3 : Bool) (u_4 : MS) => lpN fuelM (g_MMo_translates_101 (nI (s + 1)) z_3) (fun _ _ => none) (0 : Int32) u_4)) (fun _ _ _ => none) true (0 : Int32) w := by
    rw [← ew1]
    simp only [f_MMo_translates, jnE]
    rfl
  have hCw : Core u w := by
    obtain ⟨c1, c2, c3, c4⟩ := hC
    exact ⟨by rw [ew3 1 (by decide)]; exact c1, by rw [ew3 2 (by decide)]; exact c2, by rw [ew2]; exact c3, c4⟩
  by_cases hg : ∀ k, k < s + 1 → f_XMe_holds u ((nI a2 + xM u (a1 + k)) &&& 16777215) 1 = true
  · obtain ⟨u', w', e1, e2, e3, e4, e5⟩ := tr_good (a1 := a1) (a2 := a2) (N := s + 1) u (fun (z_3 : Bool) (u_4 : MS) => lpN fuelM (g_MMo_translates_101 (nI (s + 1)) z_3) (fun _ _ => none) (0 : Int32) u_4) k1 (s + 1) 0 _ fuelM u w (by omega) fu (by unfold fuelM; omega) (fun k _ h => hg k h) hCw hx8 hx9 (by rw [ew2]; exact hm11) (by rw [ew2]; exact hm12)
    have er : lpN fuelM (g_MMo_translates_101 (nI (s + 1)) true) (fun _ _ => none) (0 : Int32) w' = some (true, w') := by
      show g_MMo_translates_101 (nI (s + 1)) true _ (0 : Int32) w' = _
      simp only [g_MMo_translates_101, bI0, reduceCtorEq, ↓reduceIte, ite_self]
    rw [show nI 0 = (0 : Int32) from rfl] at e1 e2
    have hl : f_MMo_looks v = some w' := by rw [el, et, e2, er, bd2S, if_neg (by decide), wrong_f]
    have eX : f_XPr_perform u = (0, u') := by
      have e0 := x_trC (a1 := a1) (a2 := a2) (N := s + 1) (0, u') u hx8 hx9 k1 hg (s + 1) 0 _ (by omega) fu
      rw [show nI 0 = (0 : Int32) from rfl] at e0
      simp +decide only [f_XPr_perform, prI, prE, nmE, jnE, hx4, hx5, hx6, hx7, bI0, ↓reduceIte, x_val _ rfl hi, x_val _ rfl hj, x_putR _ _ rfl hi, hR, xF_R, xF_F, xR_R, xR_F, hnx, hbh, hx8, hx9, f_XOc_withField, f_XOc_translate, nI_1, hh1, e1, e0]
    have f8 : mF w' 8 = 220 := by rw [e5, ew2]; exact hm8
    have f10 : mF w' 10 = nI s := by rw [e5, ew2]; exact hm10
    have f13 : mF w' 13 = 0 := by rw [e5, ew2]; exact h13
    have fx : mF w' = mF v := by rw [e5, ew2]
    have ea : f_MMo_acts w' = some (msF w' 2 (nI n)) := by
      have q1 : (mF v 2 + mF v 9) &&& 16777215 = nI n := by
        exact hq9
      have q3 : f_MMo_octets (msF w' 2 (nI n)) = some (msF w' 2 (nI n)) := by
        simp +decide only [f_MMo_octets, f10, f8, nmE, jnE, mF_F, Nat.reduceEqDiff, ↓reduceIte, nI_1]
        show g_MMo_octets_100 (nI (s + 1)) _ _ 0 0 _ = _
        simp +decide only [g_MMo_octets_100, f8, mF_F, Nat.reduceEqDiff, ↓reduceIte, ite_self]
      simp +decide only [f_MMo_acts, nmE, fx, q1, hm8, mF_F, Nat.reduceEqDiff, ↓reduceIte, bd1_id]
      exact q3
    rw [eX]
    refine Out.sim (v1 := w') (n := n) (u := u) hl (by rw [fx]) f13 ?_ hnx hn
    rw [ea]
    exact Sim.mk ok0 f13 (e3.mn _) rfl rfl (by rw [e4])
  · have hb : ∃ k, k < s + 1 ∧ f_XMe_holds u ((nI a2 + xM u (a1 + k)) &&& 16777215) 1 = false := by
      apply Classical.byContradiction
      intro hno
      apply hg
      intro k hk
      cases hh : f_XMe_holds u ((nI a2 + xM u (a1 + k)) &&& 16777215) 1 with
      | true => rfl
      | false => exact absurd ⟨k, hk, hh⟩ hno
    obtain ⟨k, hk, hkb⟩ := hb
    obtain ⟨w', e1, e2, e3, e4⟩ := tr_bad (a1 := a1) (a2 := a2) (N := s + 1) u (fun (z_3 : Bool) (u_4 : MS) => lpN fuelM (g_MMo_translates_101 (nI (s + 1)) z_3) (fun _ _ => none) (0 : Int32) u_4) k1 (s + 1) 0 fuelM w (by omega) (by unfold fuelM; omega) ⟨k, by omega, hk, by rw [ew3 1 (by decide), ← hC.1]; exact hkb⟩ (by rw [ew2]; exact hm11) (by rw [ew2]; exact hm12)
    obtain ⟨w2, r1, r2, r3, r4⟩ := tr_back (a1 := a1) (N := s + 1) k1 (by omega) (s + 1) 0 fuelM w' (by omega) (by unfold fuelM; omega) (by rw [e2, ew2]; exact hm11)
    rw [show nI 0 = (0 : Int32) from rfl] at e1 r1
    have fx : mF w2 = mF v := by rw [r2, e2, ew2]
    have gx : mA w2 1 = mA v 1 := by
      funext q
      rw [r4 q]
      by_cases c : a1 + 0 ≤ q ∧ q < a1 + (s + 1)
      · rw [if_pos c, e3 3 (by decide), ew4 _ (by omega)]
        congr 1
        omega
      · rw [if_neg c, e4 q (by omega), ew3 1 (by decide)]
    have hl : f_MMo_looks v = some (msF w2 13 5) := by rw [el, et, e1, r1, bd2S, if_pos rfl, wrong_t w2 5 (by rw [fx]; exact h13)]
    have eX : f_XPr_perform u = (5, u) := by
      have e0 := fun K => x_trB (a1 := a1) (a2 := a2) (N := s + 1) K u hx8 hx9 k1 (s + 1) 0 _ (by omega) fu ⟨k, by omega, hk, hkb⟩
      rw [show nI 0 = (0 : Int32) from rfl] at e0
      simp +decide only [f_XPr_perform, prI, prE, nmE, jnE, hx4, hx5, hx6, hx7, bI0, ↓reduceIte, x_val _ rfl hi, x_val _ rfl hj, x_putR _ _ rfl hi, hR, xF_R, xF_F, xR_R, xR_F, hnx, hbh, hx8, hx9, f_XOc_withField, f_XOc_translate, nI_1, hh1, e0]
    rw [eX]
    refine ⟨msF w2 13 5, hl, by rw [mF_F, if_neg (by decide), fx], Or.inr ⟨rfl, by show nok 5; unfold nok; decide, ?_, by rw [mF_F, if_neg (by decide), fx]⟩⟩
    obtain ⟨c1, c2, c3, c4⟩ := hC
    exact ⟨c1.trans gx.symm, by show xR u = mA w2 2; rw [r3 2 (by decide), e3 2 (by decide), ew3 2 (by decide)]; exact c2, by show _ ∧ _; simp only [mF_F, Nat.reduceEqDiff, ↓reduceIte, fx]; exact c3, c4⟩
