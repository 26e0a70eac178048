/-- below the place of what is read nothing changes -/
def KP (g f : Nat → Int32) : Prop := ∀ e : Int, 0 ≤ e → e < 3560 → gz g e = gz f e
theorem KP.rf (f : Nat → Int32) : KP f f := fun _ _ _ => rfl
theorem KP.up {g f : Nat → Int32} {i v : Int} (hg : g = upd f (iZ i).toNatClampNeg (iZ v)) (hi : 3560 ≤ i ∧ i < 2147483648) (hv : -2147483648 ≤ v ∧ v < 2147483648) : KP g f := fun e x y => by
  have c := gz_upc (j := e) hg (by omega) hv x
  omega