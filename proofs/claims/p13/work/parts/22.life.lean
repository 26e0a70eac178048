theorem rg_ext {f g : Nat → Int32} {lo hi n v : Int} (h : rgI f lo hi n) (hg : g = upd f (iZ n).toNatClampNeg (iZ v)) (h0 : 0 ≤ n ∧ n < 2147483648) (hv : lo ≤ v ∧ v ≤ hi) (hr : -2147483648 ≤ v ∧ v < 2147483648) : rgI g lo hi (n + 1) := by
  intro j hj hn
  rw [gz_up hg h0 hr hj]
  by_cases he : j = n
  · rw [if_pos he]; exact hv
  · rw [if_neg he]; exact h j hj (by omega)