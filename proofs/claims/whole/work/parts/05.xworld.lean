theorem z_nz64 {x : Int32} (h : ¬ x = 0) : ¬ x.toInt64 = 0 := fun q => h (by
  have q1 : x.toInt64.toInt = (0 : Int64).toInt := by rw [q]
  rw [Int32.toInt_toInt64] at q1
  exact Int32.toInt_inj.mp q1)
/-! the class's state: octets, registers, the decimals' source, the fields that are ints -/
abbrev XS : Type := (Nat → Int32) × (Nat → Int32) × (Nat → Int32) × (Nat → Int32)
def xM (u : XS) : Nat → Int32 := u.1
def xR (u : XS) : Nat → Int32 := u.2.1
def xO (u : XS) : Nat → Int32 := u.2.2.1
def xF (u : XS) : Nat → Int32 := u.2.2.2
def xsM (u : XS) (i : Nat) (v : Int32) : XS := (upd u.1 i v, u.2.1, u.2.2.1, u.2.2.2)
def xsR (u : XS) (i : Nat) (v : Int32) : XS := (u.1, upd u.2.1 i v, u.2.2.1, u.2.2.2)
def xsO (u : XS) (i : Nat) (v : Int32) : XS := (u.1, u.2.1, upd u.2.2.1 i v, u.2.2.2)
def xsF (u : XS) (i : Nat) (v : Int32) : XS := (u.1, u.2.1, u.2.2.1, upd u.2.2.2 i v)
def tyX (k : Nat → ClassId) : List (ClassId × FieldType) := [(k 0, .int), (k 1, .int), (k 2, .int)]
def xW (a : Nat → Nat) (k : Nat → ClassId) (u : XS) : va_W := [(a 0, .inr (0, [.ref (a 1), .ref (a 5)])), (a 1, .inr (1, [.ref (a 2), .ref (a 4), .int (xF u 0), .int (xF u 1), .int (xF u 2), .int (xF u 3)])), (a 2, .inr (2, [.ref (a 3)])), (a 3, .inl (k 0, 1024, .inl (xM u))), (a 4, .inl (k 1, 16, .inl (xR u))), (a 5, .inr (3, [.ref (a 1), .ref (a 6), .ref (a 7), .ref (a 8), .ref (a 9), .ref (a 10), .ref (a 11), .int (xF u 11), .int (xF u 12), .int (xF u 13)])), (a 6, .inr (4, [.int (xF u 4), .int (xF u 5), .int (xF u 6), .int (xF u 7), .int (xF u 8), .int (xF u 9), .int (xF u 10)])), (a 7, .inr (5, [.ref (a 1)])), (a 8, .inr (6, [.ref (a 1)])), (a 9, .inr (7, [.ref (a 1)])), (a 10, .inr (8, [.ref (a 1), .ref (a 2)])), (a 11, .inr (9, [.ref (a 1), .ref (a 2), .ref (a 12)])), (a 12, .inl (k 2, 16, .inl (xO u)))]
