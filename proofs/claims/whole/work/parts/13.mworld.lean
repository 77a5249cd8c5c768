/-! pure functions that answer none where the machine would throw by itself, or a loop is longer than its fuel -/
def fuelM : Nat := 1100
def ckI {β : Type} (i : Int32) (n : Nat) (t : Option β) : Option β := if 0 ≤ i.toInt ∧ i.toInt < (n : Int) then t else none
def ckN32 {β : Type} (y : Int32) (t : Option β) : Option β := if y = 0 then none else t
def ckN64 {β : Type} (y : Int64) (t : Option β) : Option β := if y = 0 then none else t
def bd1 {α β : Type} (o : Option α) (k : α → Option β) : Option β := match o with
  | none => none
  | some x => k x
def bd2 {α σ β : Type} (o : Option (α × σ)) (k : α → σ → Option β) : Option β := match o with
  | none => none
  | some x => k x.1 x.2
theorem ckI_inv {β : Type} {F : β} {i : Int32} {n : Nat} {t : Option β} (h : some F = ckI i n t) : vp_in i n ∧ some F = t := by
  unfold ckI at h
  by_cases c : 0 ≤ i.toInt ∧ i.toInt < (n : Int)
  · rw [if_pos c] at h; exact ⟨vp_in_iff.mpr c, h⟩
  · rw [if_neg c] at h; cases h
theorem ckN32_inv {β : Type} {F : β} {y : Int32} {t : Option β} (h : some F = ckN32 y t) : ¬ y = 0 ∧ some F = t := by
  unfold ckN32 at h
  by_cases c : y = 0
  · rw [if_pos c] at h; cases h
  · rw [if_neg c] at h; exact ⟨c, h⟩
theorem ckN64_inv {β : Type} {F : β} {y : Int64} {t : Option β} (h : some F = ckN64 y t) : ¬ y = 0 ∧ some F = t := by
  unfold ckN64 at h
  by_cases c : y = 0
  · rw [if_pos c] at h; cases h
  · rw [if_neg c] at h; exact ⟨c, h⟩
theorem bd1_inv {α β : Type} {F : β} {o : Option α} {k : α → Option β} (h : some F = bd1 o k) : ∃ r, o = some r ∧ some F = k r := by
  cases o with
  | none => cases h
  | some x => exact ⟨x, rfl, h⟩
theorem bd2_inv {α σ β : Type} {F : β} {o : Option (α × σ)} {k : α → σ → Option β} (h : some F = bd2 o k) : ∃ r u, o = some (r, u) ∧ some F = k r u := by
  cases o with
  | none => cases h
  | some x => exact ⟨x.1, x.2, rfl, h⟩
section ZO
variable {p : Program} {l : Launch} {e : Env} {R : Room} {s : State} {m : MethodId} {args : Array Value} {below : List Frame} {meth : Method} {c : Code} {H : Heap} {locs : List Loc} {cells slots : Nat} {Q : State → Prop}
variable {pc : Nat} {ls : Array Slot} {rest st0 : List Value} {S : Type} {D : va_G} {cl : List vw_C} {ty : List (ClassId × FieldType)} {nw : List Cond} {x : S → va_W} {A : Nat → Prop} {u u' : S} {H0 : Heap} {a : Array Value}
theorem z_iandz {z1 z2 : Bool} (k : W p l e R s m args below meth c H locs cells slots Q (F0 m pc ls (.int (bI (z1 && z2)) :: rest))) : W p l e R s m args below meth c H locs cells slots Q (F0 m pc ls (.int (bI z1 &&& bI z2) :: rest)) := by
  have h : bI z1 &&& bI z2 = bI (z1 && z2) := by cases z1 <;> cases z2 <;> decide
  rw [h]; exact k
theorem z_iorz {z1 z2 : Bool} (k : W p l e R s m args below meth c H locs cells slots Q (F0 m pc ls (.int (bI (z1 || z2)) :: rest))) : W p l e R s m args below meth c H locs cells slots Q (F0 m pc ls (.int (bI z1 ||| bI z2) :: rest)) := by
  have h : bI z1 ||| bI z2 = bI (z1 || z2) := by cases z1 <;> cases z2 <;> decide
  rw [h]; exact k
theorem z_wv' (hr : va_Run p l e R s m args below meth c H locs cells slots 0 0 (F0 m pc ls st0) rest (zQ D cl x u none u' a) (zA (x u))) (hw : zW D cl ty nw x A s u H) (hS : va_S A H0 H locs)
    (kk : ∀ (H1 : Heap) (locs1 : List Loc), zW D cl ty nw x A s u' H1 → va_S A H0 H1 locs1 → W p l e R s m args below meth c H1 locs1 cells slots Q (F0 m (pc + 3) ls rest)) : W p l e R s m args below meth c H locs cells slots Q (F0 m pc ls st0) := z_wV hr hw hS kk
theorem z_wi' {r : Int32} (hr : va_Run p l e R s m args below meth c H locs cells slots 0 0 (F0 m pc ls st0) rest (zQ D cl x u (some (.int r)) u' a) (zA (x u))) (hw : zW D cl ty nw x A s u H) (hS : va_S A H0 H locs)
    (kk : ∀ (H1 : Heap) (locs1 : List Loc), zW D cl ty nw x A s u' H1 → va_S A H0 H1 locs1 → W p l e R s m args below meth c H1 locs1 cells slots Q (F0 m (pc + 3) ls (.int r :: rest))) : W p l e R s m args below meth c H locs cells slots Q (F0 m pc ls st0) := z_wV hr hw hS kk
theorem z_wz' {r : Bool} (hr : va_Run p l e R s m args below meth c H locs cells slots 0 0 (F0 m pc ls st0) rest (zQ D cl x u (some (.int (bI r))) u' a) (zA (x u))) (hw : zW D cl ty nw x A s u H) (hS : va_S A H0 H locs)
    (kk : ∀ (H1 : Heap) (locs1 : List Loc), zW D cl ty nw x A s u' H1 → va_S A H0 H1 locs1 → W p l e R s m args below meth c H1 locs1 cells slots Q (F0 m (pc + 3) ls (.int (bI r) :: rest))) : W p l e R s m args below meth c H locs cells slots Q (F0 m pc ls st0) := z_wV hr hw hS kk
theorem z_wl' {r : Int64} (hr : va_Run p l e R s m args below meth c H locs cells slots 0 0 (F0 m pc ls st0) rest (zQ D cl x u (some (.long r)) u' a) (zA (x u))) (hw : zW D cl ty nw x A s u H) (hS : va_S A H0 H locs)
    (kk : ∀ (H1 : Heap) (locs1 : List Loc), zW D cl ty nw x A s u' H1 → va_S A H0 H1 locs1 → W p l e R s m args below meth c H1 locs1 cells slots Q (F0 m (pc + 3) ls (.long r :: rest))) : W p l e R s m args below meth c H locs cells slots Q (F0 m pc ls st0) := z_wV hr hw hS kk
end ZO
/-! the reference's state: its arrays by their places (1 memory, 2 r, 3 kept, 4 one, 5 two, 6 sum, 7 rest, 8 taken), its fields that are ints -/
abbrev MS : Type := (Nat → Nat → Int32) × (Nat → Int32)
def mA (u : MS) (p : Nat) : Nat → Int32 := u.1 p
def mF (u : MS) : Nat → Int32 := u.2
def msA (u : MS) (p i : Nat) (v : Int32) : MS := (fun q => if q = p then upd (u.1 p) i v else u.1 q, u.2)
def msF (u : MS) (i : Nat) (v : Int32) : MS := (u.1, upd u.2 i v)
def tyM (k : Nat → ClassId) : List (ClassId × FieldType) := [(k 0, .int), (k 1, .int), (k 2, .int), (k 3, .int), (k 4, .int), (k 5, .int), (k 6, .int), (k 7, .int)]
def mW (a : Nat → Nat) (k : Nat → ClassId) (u : MS) : va_W := [(a 0, .inr (0, [.ref (a 1), .ref (a 2), .ref (a 3), .ref (a 4), .ref (a 5), .ref (a 6), .ref (a 7), .ref (a 8), .int (mF u 0), .int (mF u 1), .int (mF u 2), .int (mF u 3), .int (mF u 4), .int (mF u 5), .int (mF u 6), .int (mF u 7), .int (mF u 8), .int (mF u 9), .int (mF u 10), .int (mF u 11), .int (mF u 12), .int (mF u 13)])), (a 1, .inl (k 0, 1024, .inl (mA u 1))), (a 2, .inl (k 1, 16, .inl (mA u 2))), (a 3, .inl (k 2, 256, .inl (mA u 3))), (a 4, .inl (k 3, 32, .inl (mA u 4))), (a 5, .inl (k 4, 32, .inl (mA u 5))), (a 6, .inl (k 5, 32, .inl (mA u 6))), (a 7, .inl (k 6, 32, .inl (mA u 7))), (a 8, .inl (k 7, 256, .inl (mA u 8)))]
