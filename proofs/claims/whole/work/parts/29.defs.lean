/-! what the laws of helpers speak of -/
/-- the reference's array of the field f holds v at i -/
def ev_ar (h : ev_AH) (m f : Nat) (i v : Int32) : Prop := ∃ a : Nat, ev_f h m 4 f = some (.ref a) ∧ ¬ i < 0 ∧ ev_f h a (if f = 21 ∨ f = 22 then 101 else 100) i.toNatClampNeg = some (.int v)
/-- the list at a holds v at i -/
def ev_get (h : ev_AH) (a : Nat) (i : Int32) (v : Nat) : Prop := ∃ (n : Int32) (r : Nat), ev_f h a 3 1 = some (.int n) ∧ ¬ i < 0 ∧ i < n ∧ ev_f h a 3 0 = some (.ref r) ∧ ev_f h r 103 i.toNatClampNeg = some (.ref v)
/-- before: by the first pair, then the second, then the third -/
abbrev ev_lex (a b c d e f : Int32) : Prop := (¬ a = b ∧ a < b) ∨ (a = b ∧ ((¬ c = d ∧ c < d) ∨ (c = d ∧ e < f)))
theorem ev_b_nar (c : Prop) [Decidable c] : narrow .boolean (.int (ev_b c)) = .int (ev_b c) := by
  unfold ev_b
  split <;> rfl
