/-- n rocks told, of one more some facts; lo: the least of its ROUND -/
def SKR (f : Nat → Int32) (n lo : Int) : Prop := FXI f n ∧ ((0 ≤ gz f ((n * 6) + 0) ∧ gz f ((n * 6) + 0) ≤ 20) ∧ (lo ≤ gz f ((n * 6) + 1) ∧ gz f ((n * 6) + 1) ≤ 99) ∧ (0 ≤ gz f ((n * 6) + 2) ∧ gz f ((n * 6) + 2) ≤ 11) ∧ (0 ≤ gz f ((n * 6) + 3) ∧ gz f ((n * 6) + 3) ≤ 9) ∧ (0 ≤ gz f ((n * 6) + 4) ∧ gz f ((n * 6) + 4) ≤ 99) ∧ (0 ≤ gz f ((n * 6) + 5) ∧ gz f ((n * 6) + 5) ≤ 20)) ∧ ∀ e : Int, n * 6 + 6 ≤ e → e < 36 → gz f e = 0
theorem SKR.up {f g : Nat → Int32} {n lo l2 w v : Int} (h : SKR f n lo) (hg : g = upd f (iZ ((n * 6) + w)).toNatClampNeg (iZ v)) (hn : 0 ≤ n ∧ n < 6) (hw : (w = 0 ∧ 0 ≤ v ∧ v ≤ 20 ∧ l2 = lo) ∨ (w = 1 ∧ l2 ≤ v ∧ 0 ≤ l2 ∧ v ≤ 99) ∨ (w = 2 ∧ 0 ≤ v ∧ v ≤ 11 ∧ l2 = lo) ∨ (w = 3 ∧ 0 ≤ v ∧ v ≤ 9 ∧ l2 = lo) ∨ (w = 4 ∧ 0 ≤ v ∧ v ≤ 99 ∧ l2 = lo) ∨ (w = 5 ∧ 0 ≤ v ∧ v ≤ 20 ∧ l2 = lo)) : SKR g n l2 := by
  obtain ⟨h1, h2, h3⟩ := h
  have e : ∀ j : Int, 0 ≤ j → (j = (n * 6) + w ∧ gz g j = v) ∨ (¬ j = (n * 6) + w ∧ gz g j = gz f j) := fun j hj => by
    rw [gz_up hg ⟨by omega, by omega⟩ ⟨by omega, by omega⟩ hj]
    by_cases hh : j = (n * 6) + w
    · rw [if_pos hh]; exact Or.inl ⟨hh, rfl⟩
    · rw [if_neg hh]; exact Or.inr ⟨hh, rfl⟩
  refine ⟨fun r a b => ?_, ?_, fun j a b => ?_⟩
  · have := h1 r a b
    have e0 := e ((r * 6) + 0) (by omega)
    have e1 := e ((r * 6) + 1) (by omega)
    have e2 := e ((r * 6) + 2) (by omega)
    have e3 := e ((r * 6) + 3) (by omega)
    have e4 := e ((r * 6) + 4) (by omega)
    have e5 := e ((r * 6) + 5) (by omega)
    rw [show gz g ((r * 6) + 0) = gz f ((r * 6) + 0) by omega, show gz g ((r * 6) + 1) = gz f ((r * 6) + 1) by omega, show gz g ((r * 6) + 2) = gz f ((r * 6) + 2) by omega, show gz g ((r * 6) + 3) = gz f ((r * 6) + 3) by omega, show gz g ((r * 6) + 4) = gz f ((r * 6) + 4) by omega, show gz g ((r * 6) + 5) = gz f ((r * 6) + 5) by omega]
    exact this
  · have e0 := e ((n * 6) + 0) (by omega)
    have e1 := e ((n * 6) + 1) (by omega)
    have e2 := e ((n * 6) + 2) (by omega)
    have e3 := e ((n * 6) + 3) (by omega)
    have e4 := e ((n * 6) + 4) (by omega)
    have e5 := e ((n * 6) + 5) (by omega)
    refine ⟨?_, ?_, ?_, ?_, ?_, ?_⟩ <;> omega
  · have := h3 j a b
    have := e j (by omega)
    omega