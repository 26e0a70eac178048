/-- what the course of a world leaves alone -/
def FR (g f : Nat → Int32) : Prop := (∀ e : Int, 520 ≤ e ∨ (5 ≤ e ∧ e < 78) → gz g e = gz f e) ∧ gz g 0 = gz f 0 ∧ gz g 1 = gz f 1 ∧ gz g 2 = gz f 2
theorem FR.rf (f : Nat → Int32) : FR f f := ⟨fun _ _ => rfl, rfl, rfl, rfl⟩
theorem FR.up {g f : Nat → Int32} {i v : Int} (hg : g = upd f (iZ i).toNatClampNeg (iZ v)) (hi : i = 3 ∨ i = 4 ∨ (78 ≤ i ∧ i < 520)) (hv : -2147483648 ≤ v ∧ v < 2147483648) : FR g f := by
  have c := fun j hj => gz_upc (j := j) hg (by omega) hv hj
  refine ⟨fun e q => ?_, ?_, ?_, ?_⟩
  · have := c e (by omega); omega
  · have := c 0 (by omega); omega
  · have := c 1 (by omega); omega
  · have := c 2 (by omega); omega