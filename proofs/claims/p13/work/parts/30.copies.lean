/-- the first n of two rows are alike -/
def CPY (f' f : Nat → Int32) (n : Int) : Prop := ∀ e : Int, 0 ≤ e → e < n → gz f' e = gz f e