def wb (x y : Int32) : Int32 := (x >>> (y &&& 31)) &&& 1
theorem wb_01 (x y : Int32) {z : Int} (h : iZ z = wb x y) (hz : -2147483648 ≤ z ∧ z < 2147483648) : z = 0 ∨ z = 1 := by
  obtain ⟨j, hj, he⟩ := pk_andE (x >>> (y &&& 31)) (m := 1) 1 (by decide)
  have h2 : iZ z = nI j := h.trans he
  rw [← iZ_nat] at h2
  have h3 := (zeq rfl rfl hz ⟨by omega, by omega⟩).mp h2
  omega
theorem wi_fin {z1 z2 a r : Int} (h1 : iZ z1 = iZ a >>> (iZ r &&& 31)) (h2 : iZ z2 = iZ z1 &&& iZ 1) (hz : -2147483648 ≤ z2 ∧ z2 < 2147483648) : iZ z2 = wb (iZ a) (iZ r) ∧ (z2 = 0 ∨ z2 = 1) := by
  have h : iZ z2 = wb (iZ a) (iZ r) := by rw [h2, h1]; rfl
  exact ⟨h, wb_01 _ _ h hz⟩