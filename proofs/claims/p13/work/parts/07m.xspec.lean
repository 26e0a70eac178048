/-- a row of numbers, changed at one place -/
def xUp (F : Int → Int) (e v : Int) : Int → Int := fun j => if j = e then v else F j
def xRw (f : Nat → Int32) (F : Int → Int) (n : Int) : Prop := ∀ e : Int, 0 ≤ e → e < n → gz f e = F e
theorem xRw.up {f g : Nat → Int32} {F : Int → Int} {n e v : Int} (h : xRw f F n) (hg : g = upd f (iZ e).toNatClampNeg (iZ v)) (he : 0 ≤ e ∧ e < 2147483648) (hv : -2147483648 ≤ v ∧ v < 2147483648) : xRw g (xUp F e v) n := fun j h1 h2 => by
  rw [gz_up hg he hv h1]
  unfold xUp
  by_cases q : j = e
  · rw [if_pos q, if_pos q]
  · rw [if_neg q, if_neg q]; exact h j h1 h2
/-- names by their codes -/
def xNs (g : Nat → Int64) (N : Int → Int) (n : Int) : Prop := ∀ k : Int, 0 ≤ k → k < n → g k.toNat = lZ (N k) ∧ 0 ≤ N k ∧ N k < 1099511627776
theorem xNs.up {g h : Nat → Int64} {N : Int → Int} {n c : Int} {v : Int64} (hN : xNs g N n) (hn : 0 ≤ n ∧ n < 100) (hh : h = vp_updL g (iZ n).toNatClampNeg v) (hv : v = lZ c) (hc : 0 ≤ c ∧ c < 1099511627776) : xNs h (xUp N n c) (n + 1) := fun k h1 h2 => by
  rw [hh, zcl ⟨by omega, by omega⟩]
  unfold xUp vp_updL
  by_cases q : k = n
  · rw [if_pos (by omega), if_pos q]; exact ⟨hv, hc⟩
  · rw [if_neg (by omega), if_neg q]; exact hN k h1 (by omega)