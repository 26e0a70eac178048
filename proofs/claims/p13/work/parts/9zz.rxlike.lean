theorem arF_like {f F g G : Nat → Int32} {ni a w b : Int} (h : ∀ e : Int, 0 ≤ e → e < 36 → gz f e = gz F e) (k : ∀ e : Int, 0 ≤ e → e < ni * 4 → gz g e = gz G e) (ha : 0 ≤ a ∧ a < 6) (hb : 0 ≤ b ∧ b < 6) : arF f g ni a w b = arF F G ni a w b := by
  unfold arF
  rw [isIc_like k, cmF_like h ha hb]