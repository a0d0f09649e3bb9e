/-! ===== the heap of the run: the class's cells (0 to 12), the reference's (13 to 31), the law's array (32), what came later ===== -/
abbrev ck_T : Type := (Nat → Int32) × (Nat → Nat → Int32) × (Nat → Value)
abbrev cm_T : Type := (Nat → Int32) × (Nat → Nat → Int32)
def hp_f (G : ag_T) (κ : ck_T) (μ : cm_T) (o : Nat → Int64) (rest : List va_E) : List va_E :=
  .inr (0, [.ref (G.1 + 1), .ref (G.1 + 6), .ref (G.1 + 9), .ref (G.1 + 10), .ref (G.1 + 11), .ref (G.1 + 12), .int (κ.1 3)]) ::
  .inr (1, [.int (κ.1 0), .ref (G.1 + 2), .ref (G.1 + 3), .ref (G.1 + 4), .ref (G.1 + 5)]) ::
  .inl (G.2.2.1 0, 64, .inl (κ.2.1 0)) ::
  .inr (6, [.int (κ.1 4), κ.2.2 0, .int (κ.1 5)]) ::
  .inr (6, [.int (κ.1 6), κ.2.2 1, .int (κ.1 7)]) ::
  .inr (6, [.int (κ.1 8), κ.2.2 2, .int (κ.1 9)]) ::
  .inr (2, [.ref (G.1 + 1), .ref (G.1 + 7), .ref (G.1 + 8), .int (κ.1 1), .int (κ.1 2)]) ::
  .inl (G.2.2.1 0, 4096, .inl (κ.2.1 1)) ::
  .inl (G.2.2.1 0, 4096, .inl (κ.2.1 2)) ::
  .inl (G.2.2.1 0, 5, .inl (κ.2.1 3)) ::
  .inl (G.2.2.1 0, 6, .inl (κ.2.1 4)) ::
  .inl (G.2.2.1 0, 4, .inl (κ.2.1 5)) ::
  .inl (G.2.2.1 0, 4, .inl (κ.2.1 6)) ::
  .inr (5, [.int (μ.1 0), .int (μ.1 1), .int (μ.1 2), .ref (G.1 + 14), .ref (G.1 + 15), .ref (G.1 + 16), .ref (G.1 + 17), .ref (G.1 + 18), .ref (G.1 + 19), .ref (G.1 + 20), .ref (G.1 + 21), .ref (G.1 + 22), .ref (G.1 + 23), .int (μ.1 3), .ref (G.1 + 24), .ref (G.1 + 25), .ref (G.1 + 26), .ref (G.1 + 27), .ref (G.1 + 28), .ref (G.1 + 29), .ref (G.1 + 30), .ref (G.1 + 31), .int (μ.1 4), .int (μ.1 5)]) ::
  .inl (G.2.2.1 0, 6, .inl (μ.2 0)) ::
  .inl (G.2.2.1 0, 6, .inl (μ.2 1)) ::
  .inl (G.2.2.1 0, 6, .inl (μ.2 2)) ::
  .inl (G.2.2.1 0, 5, .inl (μ.2 3)) ::
  .inl (G.2.2.1 0, 2, .inl (μ.2 4)) ::
  .inl (G.2.2.1 0, 8, .inl (μ.2 5)) ::
  .inl (G.2.2.1 0, 8, .inl (μ.2 6)) ::
  .inl (G.2.2.1 1, 4, .inl (μ.2 7)) ::
  .inl (G.2.2.1 0, 4, .inl (μ.2 8)) ::
  .inl (G.2.2.1 0, 4, .inl (μ.2 9)) ::
  .inl (G.2.2.1 1, 8, .inl (μ.2 10)) ::
  .inl (G.2.2.1 0, 8, .inl (μ.2 11)) ::
  .inl (G.2.2.1 0, 8, .inl (μ.2 12)) ::
  .inl (G.2.2.1 0, 8, .inl (μ.2 13)) ::
  .inl (G.2.2.1 0, 8, .inl (μ.2 14)) ::
  .inl (G.2.2.1 0, 4096, .inl (μ.2 15)) ::
  .inl (G.2.2.1 1, 4096, .inl (μ.2 16)) ::
  .inl (G.2.2.1 0, 4096, .inl (μ.2 17)) ::
  .inl (G.2.2.1 2, 1, .inr (.inl o)) :: rest
/-- one number, one place of an array changed -/
def km_s (μ : cm_T) (k : Nat) (v : Int32) : cm_T := (va_up μ.1 k v, μ.2)
def km_a (μ : cm_T) (k i : Nat) (v : Int32) : cm_T := (μ.1, va_up μ.2 k (upd (μ.2 k) i v))
def kk_s (κ : ck_T) (k : Nat) (v : Int32) : ck_T := (va_up κ.1 k v, κ.2)
def kk_a (κ : ck_T) (k i : Nat) (v : Int32) : ck_T := (κ.1, va_up κ.2.1 k (upd (κ.2.1 k) i v), κ.2.2)
def kk_r (κ : ck_T) (k : Nat) (v : Value) : ck_T := (κ.1, κ.2.1, va_up κ.2.2 k v)
