/-! one step, and a run of steps -/
theorem nok_ne {f : Int32} (h : nok f) : ¬ f = 0 ∧ ¬ f = 8 ∧ ¬ f = 10 := by
  rcases h with rfl | rfl | rfl | rfl | rfl | rfl <;> decide
def fin (at0 f : Int32) (u : XS) : Int32 × XS := if f = 0 then (f, xsF u 11 (xF u 11 + 1)) else if f = 8 ∨ f = 10 then (f, xsF (xsF (xsF u 11 (xF u 11 + 1)) 12 (xF u 12 + 1)) 13 f) else (f, xsF (xsF (xsF u 0 at0) 12 (xF u 12 + 1)) 13 f)
theorem step_fetch {u u2 : XS} {f : Int32} (hf : f_XIn_fetch u = (f, u2)) (h : ¬ f = 0) : f_XPr_step u = fin (xF u 0) f u2 := by
  simp only [f_XPr_step, nmE, jnE, hf, prE, if_neg h, fin]
  by_cases c8 : f = 8
  · rw [if_pos c8, if_pos (Or.inl c8)]
    simp only [xF_F, Nat.reduceEqDiff, ↓reduceIte]
  · rw [if_neg c8]
    by_cases c10 : f = 10
    · rw [if_pos c10, if_pos (Or.inr c10)]
      simp only [xF_F, Nat.reduceEqDiff, ↓reduceIte]
    · rw [if_neg c10, if_neg (by rintro (h | h); exact c8 h; exact c10 h)]
      simp only [xF_F, Nat.reduceEqDiff, ↓reduceIte]
theorem step_perform {u u2 u3 : XS} {f : Int32} (hf : f_XIn_fetch u = (0, u2)) (hp : f_XPr_perform (xsF u2 0 (xF u2 10)) = (f, u3)) : f_XPr_step u = fin (xF u 0) f u3 := by
  simp only [f_XPr_step, nmE, jnE, hf, prE, ↓reduceIte, hp, fin]
  by_cases c0 : f = 0
  · simp only [if_pos c0]
  · simp only [if_neg c0]
    by_cases c8 : f = 8
    · rw [if_pos c8, if_pos (Or.inl c8)]
      simp only [xF_F, Nat.reduceEqDiff, ↓reduceIte]
    · rw [if_neg c8]
      by_cases c10 : f = 10
      · rw [if_pos c10, if_pos (Or.inr c10)]
        simp only [xF_F, Nat.reduceEqDiff, ↓reduceIte]
      · rw [if_neg c10, if_neg (by rintro (h | h); exact c8 h; exact c10 h)]
        simp only [xF_F, Nat.reduceEqDiff, ↓reduceIte]
theorem Core.did {u : XS} {v : MS} (h : Core u v) : Core (xsF u 11 (xF u 11 + 1)) (msF v 5 (mF v 5 + 1)) := by
  obtain ⟨h1, h2, ⟨e2, e3, e4, e5, e6, e7⟩, h4⟩ := h
  refine ⟨h1, h2, ⟨e2, e3, e4, ?_, e6, e7⟩, h4⟩
  rw [xF_F, if_pos rfl, mF_F, if_pos rfl, e5]
theorem Core.fault {u : XS} {v : MS} (h : Core u v) (f : Int32) : Core (xsF (xsF u 12 (xF u 12 + 1)) 13 f) (msF (msF v 6 (mF v 6 + 1)) 7 f) := by
  obtain ⟨h1, h2, ⟨e2, e3, e4, e5, e6, e7⟩, h4⟩ := h
  refine ⟨h1, h2, ⟨e2, e3, e4, e5, ?_, rfl⟩, h4⟩
  simp only [xF_F, mF_F, Nat.reduceEqDiff, ↓reduceIte, e6]
theorem fin_no {at0 f : Int32} {u : XS} (h : nok f) : fin at0 f u = (f, xsF (xsF (xsF u 0 at0) 12 (xF u 12 + 1)) 13 f) := by
  obtain ⟨h0, h8, h10⟩ := nok_ne h
  unfold fin
  rw [if_neg h0, if_neg (by rintro (h | h); exact h8 h; exact h10 h)]
theorem rel_no {u u' : XS} {v w : MS} (h : Rel u v) (hC : Core u' w) (h2 : mF w 2 = mF v 2) (f : Int32) : Rel (xsF (xsF (xsF u' 0 (xF u 0)) 12 (xF u' 12 + 1)) 13 f) (msF (msF w 6 (mF w 6 + 1)) 7 f) := by
  have h1 := (hC.xn (xF u 0)).fault f
  have hn : xF u 0 = mF v 2 := h.2.2.1.1
  have hr := h.2.2.2.2.1
  refine Core.rel h1 ?_ ?_
  · show xF u 0 = mF w 2
    rw [h2, hn]
  · exact hr
theorem fa_ex (u : XS) (x : Int32) : ∃ p q, f_XIn_findAddresses u x = xsF (xsF u 8 p) 9 q := by
  simp only [f_XIn_findAddresses, nmE, jnE]
  repeat' split
  all_goals exact ⟨_, _, rfl⟩
theorem step_sim {u : XS} {v : MS} (h : Rel u v) (h0 : mF v 0 = 0) : ∃ f u' v', f_XPr_step u = (f, u') ∧ (okf f ∨ nok f) ∧ mF v' 13 = f ∧ mF v' 0 = 0 ∧ (f = 0 → Rel u' v') ∧ (¬ f = 0 → Rel u' (msF (msF v' 6 (mF v' 6 + 1)) 7 f)) ∧ ∀ (x1 x : Int32) (K : MS → Option (Int32 × MS)) (L : Int32 → MS → Option (Int32 × MS)), ¬ x1 ≤ x → ¬ 0 ≤ mF v 4 → g_MMo_run_54 x1 K L x v = if f = 0 then L (x + 1) v' else K v' := by
  have hC := h.core
  obtain ⟨b, hb, hxb, hmb⟩ := hC.nb
  have hr := h.2.2.2.2.1
  obtain ⟨at0, ha, hat⟩ := ex_nI (x := xF u 0) (N := 16777216) hr.1 (by omega)
  have h2 : mF v 2 = nI at0 := by rw [← h.2.2.1.1, hat]
  have eM := decodes_eq (u := u) hb hmb ha h2
  have eX := fetch_eq hb hxb ha hat
  have hst : ∀ (f : Int32) (w : MS) (u2 : XS), nok f → f_MMo_decodes v = some w → f_XPr_step u = fin (xF u 0) f u2 → mF w 13 = f → mF w 0 = 0 → mF w 2 = mF v 2 → Core u2 w → ∃ f u' v', f_XPr_step u = (f, u') ∧ (okf f ∨ nok f) ∧ mF v' 13 = f ∧ mF v' 0 = 0 ∧ (f = 0 → Rel u' v') ∧ (¬ f = 0 → Rel u' (msF (msF v' 6 (mF v' 6 + 1)) 7 f)) ∧ ∀ (x1 x : Int32) (K : MS → Option (Int32 × MS)) (L : Int32 → MS → Option (Int32 × MS)), ¬ x1 ≤ x → ¬ 0 ≤ mF v 4 → g_MMo_run_54 x1 K L x v = if f = 0 then L (x + 1) v' else K v' := by
    intro f w u2 hn hd hs w13 w0 w2 hCw
    have hf0 := (nok_ne hn).1
    refine ⟨f, _, w, hs.trans (fin_no hn), Or.inr hn, w13, w0, fun hz => absurd hz hf0, fun _ => rel_no h hCw w2 f, fun x1 x K L q1 q2 => ?_⟩
    simp only [g_MMo_run_54, if_neg q1, if_neg q2, hd, bd1S, jnE, w13, if_neg hf0]
  by_cases c1 : at0 % 2 = 1
  · rw [if_pos c1] at eM eX
    exact hst 6 _ u (by unfold nok; decide) eM (step_fetch eX (by decide)) rfl h0 rfl ((hC.mf (by omega) _).mf (by omega) _)
  · rw [if_neg c1] at eM eX
    cases hh : f_XMe_holds u (nI at0) 1 with
    | false =>
      rw [hh, if_pos rfl] at eM
      have hh2 : f_XMe_holds u (nI at0) 2 = false := by
        cases q : f_XMe_holds u (nI at0) 2 with
        | false => rfl
        | true =>
          obtain ⟨A, hA, hA3⟩ := (holds_iff u (nI at0) (n := 2) (N := 2) rfl (by omega)).mp q
          have : f_XMe_holds u (nI at0) 1 = true := (holds_iff u (nI at0) (n := 1) (N := 1) rfl (by omega)).mpr ⟨A, hA, by omega⟩
          rw [this] at hh
          cases hh
      rw [hh2, if_pos rfl] at eX
      exact hst 5 _ u (by unfold nok; decide) eM (step_fetch eX (by decide)) rfl h0 rfl ((hC.mf (by omega) _).mf (by omega) _)
    | true =>
      rw [hh, if_neg (by decide)] at eM
      obtain ⟨A, hA, hA3⟩ := (holds_iff u (nI at0) (n := 1) (N := 1) rfl (by omega)).mp hh
      have hA' : at0 = A := (nI_eq (by omega) (by omega)).mp (by rw [hA])
      have hh2 : f_XMe_holds u (nI at0) 2 = true := (holds_iff u (nI at0) (n := 2) (N := 2) rfl (by omega)).mpr ⟨A, hA, by omega⟩
      rw [hh2, if_neg (by decide)] at eX
      cases hz : f_XMe_holds u (nI at0) (nI (szc (b at0))) with
      | false =>
        rw [hz, if_pos rfl] at eM eX
        exact hst 5 _ _ (by unfold nok; decide) eM (step_fetch eX (by decide)) rfl h0 rfl ((((hC.xf (by omega) _).mf (by omega) _).mf (by omega) _).mf (by omega) _ |>.mf (by omega) _)
      | true =>
        rw [hz, if_neg (by decide)] at eM eX
        have hszc := szc_le (b at0)
        obtain ⟨B, hB, hB3⟩ := (holds_iff u (nI at0) (n := nI (szc (b at0))) (N := szc (b at0)) rfl (by omega)).mp hz
        have hB' : at0 = B := (nI_eq (by omega) (by omega)).mp (by rw [hB])
        obtain ⟨v', t1, s, i, j, a1, a2, hD⟩ := decode_ok hC hb hxb hmb h2 h0 (show at0 + szc (b at0) ≤ 1024 by omega)
        obtain ⟨U, hU⟩ : ∃ U, U = (if b at0 < 64 then u15 u (b at0) (b (at0 + 1)) at0 else f_XIn_findAddresses (u15 u (b at0) (b (at0 + 1)) at0) (nI at0)) := ⟨_, rfl⟩
        rw [← hU] at eX hD
        cases hk : kn (b at0) with
        | false =>
          rw [hk, if_pos rfl] at eM
          have hp : f_XPr_perform (xsF U 0 (xF U 10)) = (1, xsF U 0 (xF U 10)) := perform_1 (hb at0) hD.2.2.2.1.1 hk
          refine hst 1 _ _ (by unfold nok; decide) eM (step_perform eX hp) rfl h0 rfl ?_
          have hCU : Core (xsF U 0 (xF U 10)) v := by
            have h15 : Core (u15 u (b at0) (b (at0 + 1)) at0) v := by
              unfold u15
              exact (((((hC.xf (by omega) _).xf (by omega) _).xf (by omega) _).xf (by omega) _).xf (by omega) _)
            refine Core.xf ?_ (by omega) _
            rw [hU]
            split
            · exact h15
            · obtain ⟨p, q, e⟩ := fa_ex (u15 u (b at0) (b (at0 + 1)) at0) (nI at0)
              rw [e]
              exact (h15.xf (by omega) _).xf (by omega) _
          exact (((hCU.mf (by omega) _).mf (by omega) _).mf (by omega) _).mf (by omega) _
        | true =>
          rw [hk, if_neg (by decide), t1] at eM
          have hO := perform_all hD hk
          obtain ⟨f, u3, hp⟩ : ∃ f u3, f_XPr_perform (xsF U 0 (xF U 10)) = (f, u3) := ⟨_, _, rfl⟩
          rw [hp] at hO
          have hs := step_perform eX hp
          have d13 : mF v' 13 = 0 := hD.2.2.2.2.2.2.2.2.2.1.1
          have d0 : mF v' 0 = 0 := hD.2.2.2.2.2.2.2.2.2.1.2.1
          have d2 : mF v' 2 = nI at0 := hD.2.2.2.2.2.2.2.2.2.1.2.2
          obtain ⟨w, l1, l2, l3⟩ := hO
          rcases l3 with ⟨l3, l4, w2, l5, l6, l7, l8, l9, l10⟩ | ⟨l3, l4, l5, l6⟩
          · have l6' : mF w2 13 = f := l6
            have hL : ∀ (x1 x : Int32) (K : MS → Option (Int32 × MS)) (L : Int32 → MS → Option (Int32 × MS)), ¬ x1 ≤ x → ¬ 0 ≤ mF v 4 → g_MMo_run_54 x1 K L x v = if f = 0 then L (x + 1) (msF w2 5 (mF w2 5 + 1)) else K (msF w2 5 (mF w2 5 + 1)) := fun x1 x K L q1 q2 => by
              simp only [g_MMo_run_54, if_neg q1, if_neg q2, eM, bd1S, jnE, nmE, d13, ↓reduceIte, l1, l3, l5, mF_F, Nat.reduceEqDiff, l6']
            have d00 : mF (msF w2 5 (mF w2 5 + 1)) 0 = 0 := by rw [mF_F, if_neg (by decide), l8, l2, d0]
            by_cases hz : f = 0
            · have ef : fin (xF u 0) f u3 = (f, xsF u3 11 (xF u3 11 + 1)) := by unfold fin; rw [if_pos hz]
              exact ⟨f, _, msF w2 5 (mF w2 5 + 1), hs.trans ef, Or.inl l4, l6, d00, fun _ => Core.rel l7.did l9 l10, fun h => absurd hz h, hL⟩
            · have ef : fin (xF u 0) f u3 = (f, xsF (xsF (xsF u3 11 (xF u3 11 + 1)) 12 (xF u3 12 + 1)) 13 f) := by unfold fin; rw [if_neg hz, if_pos (l4.resolve_left hz)]
              exact ⟨f, _, msF w2 5 (mF w2 5 + 1), hs.trans ef, Or.inl l4, l6, d00, fun h => absurd h hz, fun _ => Core.rel (l7.did.fault f) l9 l10, hL⟩
          · have l3' : mF w 13 = f := l3
            have hf0 := (nok_ne l4).1
            refine ⟨f, _, w, hs.trans (fin_no l4), Or.inr l4, l3, by rw [l2, d0], fun hz => absurd hz hf0, fun _ => rel_no h l5 (by rw [l6, d2, h2]) f, fun x1 x K L q1 q2 => ?_⟩
            simp only [g_MMo_run_54, if_neg q1, if_neg q2, eM, bd1S, jnE, nmE, d13, ↓reduceIte, l1, l3', if_neg hf0]
def kM : MS → Option (Int32 × MS) := fun (u_13 : MS) => nm (msF u_13 6 ((mF u_13 6) + (1 : Int32))) (fun (u_15 : MS) => nm (msF u_15 7 (mF u_15 13)) (fun (u_16 : MS) => if (mF u_16 13) = (5 : Int32) then bd2 (f_MMo_fails u_16 true (3 : Int32)) (fun (z_24 : Bool) (u_23 : MS) => some ((0 : Int32), u_23)) else if (mF u_16 13) ≤ (7 : Int32) then bd2 (f_MMo_fails u_16 true (2 : Int32)) (fun (z_20 : Bool) (u_19 : MS) => some ((0 : Int32), u_19)) else bd2 (f_MMo_fails u_16 true (4 : Int32)) (fun (z_22 : Bool) (u_21 : MS) => some ((0 : Int32), u_21))))
def lE : List String := ["java/lang/IllegalStateException", "java/lang/IllegalArgumentException", "java/lang/IndexOutOfBoundsException", "java/lang/ArithmeticException"]
theorem xc_1 : xc lE 1 "java/lang/IllegalStateException" = 1 := by simp [xc, lE]
theorem xc_2 : xc lE 1 "java/lang/IllegalArgumentException" = 2 := by simp [xc, lE]
theorem xc_3 : xc lE 1 "java/lang/IndexOutOfBoundsException" = 3 := by simp [xc, lE]
theorem xc_4 : xc lE 1 "java/lang/ArithmeticException" = 4 := by simp [xc, lE]
/-- class and reference answer alike -/
def Alike (g : Nat → Int64) (o : Sum (String × XS) (Int32 × XS)) (r : Option (Int32 × MS)) : Prop := ∃ b v1, r = some (b, v1) ∧ mF v1 0 = (hi lE g o).1 ∧ ((hi lE g o).1 = 0 → (hi lE g o).2.2 0 = Int32.toInt64 b) ∧ Rel (hi lE g o).2.1 v1
theorem al_r (g : Nat → Int64) {x : Int32} {u : XS} {v : MS} (h : Rel u v) (h0 : mF v 0 = 0) : Alike g (Sum.inr (x, u)) (some (x, v)) := ⟨x, v, rfl, h0, fun _ => (show vp_updL g 0 x.toInt64 0 = x.toInt64 from pk_uLs), h⟩
theorem al_l (g : Nat → Int64) {E : String} {x : Int32} {u : XS} {v : MS} (h : Rel u v) (h0 : mF v 0 = xc lE 1 E) (hne : ¬ xc lE 1 E = 0) : Alike g (Sum.inl (E, u)) (some (x, v)) := ⟨x, v, rfl, h0, fun e => absurd e hne, h⟩
theorem al_tell (g : Nat → Int64) {u : XS} {v : MS} {f : Int32} (x : Int32) (hf : okf f ∨ nok f) (hz : ¬ f = 0) (h13 : mF v 13 = f) (h0 : mF v 0 = 0) (h : Rel u (msF (msF v 6 (mF v 6 + 1)) 7 f)) : Alike g (bx (f_XDM_tell u f) (fun (u_10 : XS) => Sum.inr (x, u_10))) (kM v) := by
  have w13 : mF (msF (msF v 6 (mF v 6 + 1)) 7 f) 13 = f := h13
  have w0 : mF (msF (msF v 6 (mF v 6 + 1)) 7 f) 0 = 0 := h0
  have e13 : mF (msF v 6 (mF v 6 + 1)) 13 = f := h13
  have ek : kM v = if f = (5 : Int32) then some (0, msF (msF (msF v 6 (mF v 6 + 1)) 7 f) 0 3) else if f ≤ (7 : Int32) then some (0, msF (msF (msF v 6 (mF v 6 + 1)) 7 f) 0 2) else some (0, msF (msF (msF v 6 (mF v 6 + 1)) 7 f) 0 4) := by
    simp only [kM, nmE, e13, w13, fails_t (msF (msF v 6 (mF v 6 + 1)) 7 f) 3 w0 (by decide), fails_t (msF (msF v 6 (mF v 6 + 1)) 7 f) 2 w0 (by decide), fails_t (msF (msF v 6 (mF v 6 + 1)) 7 f) 4 w0 (by decide), bd2S]
  rw [ek]
  have r3 : f_XDM_tell u f = Sum.inl ("java/lang/IndexOutOfBoundsException", u) → Alike g (bx (f_XDM_tell u f) (fun (u_10 : XS) => Sum.inr (x, u_10))) (some (0, msF (msF (msF v 6 (mF v 6 + 1)) 7 f) 0 3)) := fun e => by
    rw [e]
    exact al_l g (h.err 3) (by rw [xc_3]; rfl) (by rw [xc_3]; decide)
  have r2 : f_XDM_tell u f = Sum.inl ("java/lang/IllegalArgumentException", u) → Alike g (bx (f_XDM_tell u f) (fun (u_10 : XS) => Sum.inr (x, u_10))) (some (0, msF (msF (msF v 6 (mF v 6 + 1)) 7 f) 0 2)) := fun e => by
    rw [e]
    exact al_l g (h.err 2) (by rw [xc_2]; rfl) (by rw [xc_2]; decide)
  have r4 : f_XDM_tell u f = Sum.inl ("java/lang/ArithmeticException", u) → Alike g (bx (f_XDM_tell u f) (fun (u_10 : XS) => Sum.inr (x, u_10))) (some (0, msF (msF (msF v 6 (mF v 6 + 1)) 7 f) 0 4)) := fun e => by
    rw [e]
    exact al_l g (h.err 4) (by rw [xc_4]; rfl) (by rw [xc_4]; decide)
  clear ek w13 w0 e13 h h13 h0
  rcases hf with (hf | hf | hf) | (hf | hf | hf | hf | hf | hf)
  · exact absurd hf hz
  all_goals subst hf
  · rw [if_neg (by decide), if_neg (by decide)]
    exact r4 (by simp +decide only [f_XDM_tell, ↓reduceIte])
  · rw [if_neg (by decide), if_neg (by decide)]
    exact r4 (by simp +decide only [f_XDM_tell, ↓reduceIte])
  · rw [if_neg (by decide), if_pos (by decide)]
    exact r2 (by simp +decide only [f_XDM_tell, ↓reduceIte])
  · rw [if_pos rfl]
    exact r3 (by simp +decide only [f_XDM_tell, ↓reduceIte])
  · rw [if_neg (by decide), if_pos (by decide)]
    exact r2 (by simp +decide only [f_XDM_tell, ↓reduceIte])
  · rw [if_neg (by decide), if_pos (by decide)]
    exact r2 (by simp +decide only [f_XDM_tell, ↓reduceIte])
  · rw [if_neg (by decide), if_neg (by decide)]
    exact r4 (by simp +decide only [f_XDM_tell, ↓reduceIte])
  · rw [if_neg (by decide), if_neg (by decide)]
    exact r4 (by simp +decide only [f_XDM_tell, ↓reduceIte])
theorem halt_iff {u : XS} {v : MS} (h : Rel u v) : (xF u 3 = -1) = ¬ (0 : Int32) ≤ mF v 4 := by
  have e : xF u 3 = mF v 4 := h.2.2.1.2.2.2.1
  have hm := h.2.2.2.2.2.2.2
  rw [e] at hm ⊢
  apply propext
  rw [Int32.le_iff_toInt_le, ← Int32.toInt_inj]
  have h0 : (0 : Int32).toInt = 0 := rfl
  have h1 : (-1 : Int32).toInt = -1 := rfl
  rw [h0, h1]
  omega
theorem tell_0 (u : XS) (x : Int32) : bx (f_XDM_tell u 0) (fun (u_10 : XS) => Sum.inr (x, u_10)) = (Sum.inr (x, u) : Sum (String × XS) (Int32 × XS)) := by
  simp +decide only [f_XDM_tell, ↓reduceIte, bx]
theorem run_loop (g : Nat → Int64) {N : Nat} (hN : N ≤ 200) : ∀ (d t fX fM : Nat) (u : XS) (v : MS), t + d = N → d < fX → d < fM → Rel u v → mF v 0 = 0 → Alike g (lpN fX (g_XDM_run_36 (nI N)) (fun _ _ _ => Sum.inl default) (nI t) 0 u) (lpN fM (g_MMo_run_54 (nI N) kM) (fun _ _ => none) (nI t) v) := by
  intro d
  induction d with
  | zero =>
    intro t fX fM u v ht hX hM h h0
    obtain ⟨fX, rfl⟩ : ∃ f, fX = f + 1 := ⟨fX - 1, by omega⟩
    obtain ⟨fM, rfl⟩ : ∃ f, fM = f + 1 := ⟨fM - 1, by omega⟩
    have hle : nI N ≤ nI t := nI_le (by omega) (by omega)
    show Alike g (g_XDM_run_36 (nI N) _ (nI t) 0 u) (g_MMo_run_54 (nI N) kM _ (nI t) v)
    simp only [g_XDM_run_36, g_MMo_run_54, if_pos hle, tell_0]
    exact al_r g h h0
  | succ d ih =>
    intro t fX fM u v ht hX hM h h0
    obtain ⟨fX, rfl⟩ : ∃ f, fX = f + 1 := ⟨fX - 1, by omega⟩
    obtain ⟨fM, rfl⟩ : ∃ f, fM = f + 1 := ⟨fM - 1, by omega⟩
    have hlt : ¬ nI N ≤ nI t := nI_ge (by omega) (by omega)
    have hh := halt_iff h
    show Alike g (g_XDM_run_36 (nI N) _ (nI t) 0 u) (g_MMo_run_54 (nI N) kM _ (nI t) v)
    by_cases c : (0 : Int32) ≤ mF v 4
    · have hx : ¬ xF u 3 = -1 := by rw [hh]; exact fun h => h c
      simp only [g_XDM_run_36, g_MMo_run_54, if_neg hlt, ↓reduceIte, if_neg hx, if_pos c, tell_0]
      exact al_r g h h0
    · have hx : xF u 3 = -1 := by rw [hh]; exact c
      obtain ⟨f, u', v', s1, s2, s3, s4, s5, s6, s7⟩ := step_sim h h0
      rw [s7 (nI N) (nI t) kM _ hlt c]
      simp only [g_XDM_run_36, if_neg hlt, ↓reduceIte, if_pos hx, s1, prE, nmE, nI_1]
      by_cases cf : f = 0
      · subst cf
        rw [if_pos rfl]
        exact ih (t + 1) fX fM u' v' (by omega) (by omega) (by omega) (s5 rfl) s4
      · rw [if_neg cf]
        obtain ⟨fX, rfl⟩ : ∃ f, fX = f + 1 := ⟨fX - 1, by omega⟩
        have e : lpN (fX + 1) (g_XDM_run_36 (nI N)) (fun _ _ _ => Sum.inl default) (nI (t + 1)) f u' = bx (f_XDM_tell u' f) (fun (u_10 : XS) => Sum.inr (nI (t + 1), u_10)) := by
          show g_XDM_run_36 (nI N) _ (nI (t + 1)) f u' = _
          simp only [g_XDM_run_36, if_neg cf, ite_self]
        rw [e]
        exact al_tell g _ s2 cf s3 s4 (s6 cf)
theorem P_run {u : XS} {v : MS} (h : Rel u v) (f : Nat → Int64) (x1 : Int32) : ∃ b v1, f_MMo_run v x1 = some (b, v1) ∧ mF v1 0 = (h_run (u, f) x1).1 ∧ ((h_run (u, f) x1).1 = 0 → (h_run (u, f) x1).2.2 0 = Int32.toInt64 b) ∧ Rel (h_run (u, f) x1).2.1 v1 := by
  show Alike f (f_XDM_run u x1) (f_MMo_run v x1)
  have h0 : mF (msF v 0 0) 0 = 0 := rfl
  have hR := h.err 0
  generalize hw : msF v 0 0 = w at h0 hR
  have hh := halt_iff hR
  have q : (mF w 4 < (0 : Int32)) = ¬ (0 : Int32) ≤ mF w 4 := by
    rw [Int32.lt_iff_toInt_lt, Int32.le_iff_toInt_le]
    apply propext
    omega
  have eM : f_MMo_run v x1 = (fun (K_3 : Bool → Option (Int32 × MS)) => if mF w 4 < (0 : Int32) then K_3 false else K_3 true) (fun (z_2 : Bool) => bd2 (f_MMo_fails w z_2 (1 : Int32)) (fun (z_5 : Bool) (u_4 : MS) => if (bI z_5) = (0 : Int32) then bd1 (f_MMo_in u_4 (Int32.toInt64 x1) (1 : Int64) (200 : Int64)) (fun (z_7 : Bool) => (fun (K_9 : Bool → Option (Int32 × MS)) => if (bI z_7) = (0 : Int32) then K_9 true else K_9 false) (fun (z_8 : Bool) => bd2 (f_MMo_fails u_4 z_8 (2 : Int32)) (fun (z_11 : Bool) (u_10 : MS) => if (bI z_11) = (0 : Int32) then lpN fuelM (g_MMo_run_54 x1 kM) (fun _ _ => none) (0 : Int32) u_10 else some ((0 : Int32), u_10)))) else some ((0 : Int32), u_4))) := by
    rw [← hw]
    simp only [f_MMo_run, nmE, jnE, kM]
    rfl
  rw [eM]
  by_cases c : (0 : Int32) ≤ mF w 4
  · have hx : ¬ xF u 3 = -1 := by rw [hh]; exact fun h => h c
    have hq : ¬ mF w 4 < (0 : Int32) := by rw [q]; exact fun h => h c
    simp only [if_neg hq, fails_t w 1 h0 (show ¬ (1 : Int32) = 0 by decide), bd2S, bI0, reduceCtorEq, ↓reduceIte, f_XDM_run, if_neg hx]
    exact al_l f (hR.err 1) (by rw [xc_1]; rfl) (by rw [xc_1]; decide)
  · have hx : xF u 3 = -1 := by rw [hh]; exact c
    have hq : mF w 4 < (0 : Int32) := by rw [q]; exact c
    simp only [if_pos hq, fails_f w 1 h0, bd2S, bI0, ↓reduceIte, f_XDM_run, if_pos hx, nmE, in_within w u x1 1 200 (y1 := 1) (y2 := 200) rfl (by decide) (by decide), bd1S]
    cases hb : f_XDM_isWithin u x1 1 200 with
    | false =>
      simp only [↓reduceIte, demand_f, fails_t w 2 h0 (show ¬ (2 : Int32) = 0 by decide), bx, bd2S, reduceCtorEq]
      exact al_l f (hR.err 2) (by rw [xc_2]; rfl) (by rw [xc_2]; decide)
    | true =>
      simp only [reduceCtorEq, ↓reduceIte, demand_t, fails_f w 2 h0, bx, bd2S]
      have k1 := (within_iff u x1 1 200).mp hb
      have l1 : (1 : Int32).toInt = 1 := rfl
      have l2 : (200 : Int32).toInt = 200 := rfl
      obtain ⟨N, hN, rfl⟩ := ex_nI (x := x1) (N := 201) (by omega) (by omega)
      have fu : N < (Int32.toInt (nI N) - Int32.toInt (0 : Int32)).toNat + 1 := by rw [nI_toInt (by omega), show (0 : Int32).toInt = 0 from rfl]; omega
      exact run_loop f (by omega) N 0 _ fuelM u w (by omega) fu (by unfold fuelM; omega) hR h0
