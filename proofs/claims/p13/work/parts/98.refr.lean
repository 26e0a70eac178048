theorem sh_up {f g : Nat → Int32} {c e v d : Int} (hg : g = upd f (iZ e).toNatClampNeg (iZ v)) (hc : 0 ≤ c) (hd : 0 ≤ d) (he : e = c + d ∧ e < 2147483648) : sh g c = upd (sh f c) (iZ d).toNatClampNeg (iZ v) := by
  funext i
  unfold sh
  rw [hg, zcl (e := e) ⟨by omega, by omega⟩, zcl (e := d) ⟨by omega, by omega⟩]
  unfold upd
  by_cases h : i = d.toNat
  · rw [if_pos (by omega), if_pos h]
  · rw [if_neg (by omega), if_neg h]
def NSK (f : Nat → Int32) (n lo : Int) : Prop := gz f 3560 = n ∧ (0 ≤ n ∧ n < 6) ∧ (0 ≤ gz f 3561 ∧ gz f 3561 ≤ 8) ∧ gz f 3563 = 0 ∧ gz f 3564 = 0 ∧ gz f 3565 = -1 ∧ SKR (sh f 3570) n lo
theorem NSK.up {f g : Nat → Int32} {n lo l2 e w v : Int} (h : NSK f n lo) (hg : g = upd f (iZ e).toNatClampNeg (iZ v)) (he : e = 3570 + ((n * 6) + w)) (hw : (w = 0 ∧ 0 ≤ v ∧ v ≤ 20 ∧ l2 = lo) ∨ (w = 1 ∧ l2 ≤ v ∧ 0 ≤ l2 ∧ v ≤ 99) ∨ (w = 2 ∧ 0 ≤ v ∧ v ≤ 11 ∧ l2 = lo) ∨ (w = 3 ∧ 0 ≤ v ∧ v ≤ 9 ∧ l2 = lo) ∨ (w = 4 ∧ 0 ≤ v ∧ v ≤ 99 ∧ l2 = lo) ∨ (w = 5 ∧ 0 ≤ v ∧ v ≤ 20 ∧ l2 = lo)) : NSK g n l2 := by
  obtain ⟨a, b, c, d, e4, e5, s⟩ := h
  have q := fun j hj => gz_upc (j := j) hg (by omega) (by omega) hj
  have q0 := q 3560 (by omega)
  have q1 := q 3561 (by omega)
  have q3 := q 3563 (by omega)
  have q4 := q 3564 (by omega)
  have q5 := q 3565 (by omega)
  exact ⟨by omega, b, by omega, by omega, by omega, by omega, SKR.up s (sh_up hg (by omega) (by omega) ⟨he, by omega⟩) b hw⟩