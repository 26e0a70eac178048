/-- the reference's names by their codes -/
def xNr (g : Nat → Int64) (b : Int) (N : Int → Int) (n : Int) : Prop := ∀ k : Int, 0 ≤ k → k < n → xNR (N k) (g (b + k).toNat)
theorem xNr.up {g h : Nat → Int64} {b : Int} {N : Int → Int} {n c e : Int} {v : Int64} (hN : xNr g b N n) (hb : 0 ≤ b ∧ b < 100) (hn : 0 ≤ n ∧ n < 100) (he : e = b + n) (hh : h = vp_updL g (iZ e).toNatClampNeg v) (hv : xNR c v) : xNr h b (xUp N n c) (n + 1) := fun k h1 h2 => by
  rw [hh, zcl ⟨by omega, by omega⟩]
  unfold xUp vp_updL
  by_cases q : k = n
  · rw [if_pos q, if_pos (by omega)]; exact hv
  · rw [if_neg q, if_neg (by omega)]; exact hN k h1 (by omega)