/-- when what is sent so slowly is there: the first such week -/
def isCm (f : Nat → Int32) (a w b sl t : Int) : Prop := w ≤ t ∧ sl * lt f a w b t ≤ t - w ∧ ∀ s : Int, w ≤ s → s < t → ¬ sl * lt f a w b s ≤ s - w
noncomputable def cmF (f : Nat → Int32) (a w b sl : Int) : Int := Classical.epsilon (isCm f a w b sl)
theorem cmF_eq {f : Nat → Int32} {a w b sl t : Int} (h : isCm f a w b sl t) : t = cmF f a w b sl := by
  have g : isCm f a w b sl (cmF f a w b sl) := Classical.epsilon_spec ⟨t, h⟩
  rcases Int.lt_trichotomy t (cmF f a w b sl) with q | q | q
  · exact absurd h.2.1 (g.2.2 t h.1 q)
  · exact q
  · exact absurd g.2.1 (h.2.2 _ g.1 q)
/-- when light arrives; 1000000: never -/
noncomputable def arF (f g : Nat → Int32) (ni a w b : Int) : Int := if a = b then w else if 400 < w then 1000000 else if bz (isIc g ni a b w) = 1 then 1000000 else cmF f a w b 1
/-- the latest week of which something is there -/
def isSn (f g : Nat → Int32) (ni r o w z : Int) : Prop := (-1 ≤ z ∧ z ≤ w) ∧ (0 ≤ z → arF f g ni o z r ≤ w) ∧ ∀ u : Int, z < u → u ≤ w → ¬ arF f g ni o u r ≤ w
noncomputable def snF (f g : Nat → Int32) (ni r o w : Int) : Int := Classical.epsilon (isSn f g ni r o w)
theorem bz_rg (P : Prop) : bz P = 0 ∨ bz P = 1 := by
  rcases Classical.em P with h | h
  · exact Or.inr (bz_t h)
  · exact Or.inl (bz_f h)
theorem snF_eq {f g : Nat → Int32} {ni r o w z : Int} (h : isSn f g ni r o w z) : z = snF f g ni r o w := by
  have q : isSn f g ni r o w (snF f g ni r o w) := Classical.epsilon_spec ⟨z, h⟩
  obtain ⟨h1, h2, h3⟩ := h
  obtain ⟨q1, q2, q3⟩ := q
  rcases Int.lt_trichotomy z (snF f g ni r o w) with c | c | c
  · exact absurd (q2 (by omega)) (h3 _ c (by omega))
  · exact c
  · exact absurd (h2 (by omega)) (q3 _ c (by omega))
