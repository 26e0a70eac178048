/-- only a row of six is written, but for its fifth -/
def RWR (g f : Nat → Int32) (y : Int) : Prop := ∀ e : Int, 0 ≤ e → (e < y ∨ y + 6 ≤ e ∨ e = y + 4) → gz g e = gz f e
theorem RWR.rf (f : Nat → Int32) (y : Int) : RWR f f y := fun _ _ _ => rfl
theorem RWR.up {g f : Nat → Int32} {y i v : Int} (hg : g = upd f (iZ i).toNatClampNeg (iZ v)) (hy : 0 ≤ y) (hi : (y ≤ i ∧ i < y + 6 ∧ i < 2147483648) ∧ ¬ i = y + 4) (hv : -2147483648 ≤ v ∧ v < 2147483648) : RWR g f y := fun e x z => by
  have c := gz_upc (j := e) hg (by omega) hv x
  omega