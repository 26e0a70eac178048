/-- weeks in which rocks know; 1000000: never -/
def KR (f : Nat → Int32) (n : Int) : Prop := ∀ e : Int, 0 ≤ e → e < n → (0 ≤ gz f e ∧ gz f e ≤ 420) ∨ gz f e = 1000000
theorem KR.up {f g : Nat → Int32} {n e v : Int} (h : KR f n) (hg : g = upd f (iZ e).toNatClampNeg (iZ v)) (he : 0 ≤ e ∧ e < 2147483648) (hv : (0 ≤ v ∧ v ≤ 420) ∨ v = 1000000) : KR g n := by
  intro j h1 h2
  have c := gz_upc hg he ⟨by omega, by omega⟩ h1
  have := h j h1 h2
  omega
theorem KR.ext {f g : Nat → Int32} {n v : Int} (h : KR f n) (hg : g = upd f (iZ n).toNatClampNeg (iZ v)) (he : 0 ≤ n ∧ n < 2147483648) (hv : (0 ≤ v ∧ v ≤ 420) ∨ v = 1000000) : KR g (n + 1) := by
  intro j h1 h2
  have c := gz_upc hg he ⟨by omega, by omega⟩ h1
  rcases c with c | c
  · omega
  · have := h j h1 (by omega)
    omega
