theorem CPY.rf (f : Nat → Int32) (n : Int) : CPY f f n := fun _ _ _ => rfl
/-- what is told of like skies is alike -/
theorem hd_like {f F : Nat → Int32} {a w : Int} (h : ∀ e : Int, 0 ≤ e → e < 36 → gz f e = gz F e) (ha : 0 ≤ a ∧ a < 6) : hd f a w = hd F a w := by
  unfold hd
  rw [h ((a * 6) + 2) (by omega) (by omega), h ((a * 6) + 1) (by omega) (by omega)]
theorem lt_like {f F : Nat → Int32} {a w b t : Int} (h : ∀ e : Int, 0 ≤ e → e < 36 → gz f e = gz F e) (ha : 0 ≤ a ∧ a < 6) (hb : 0 ≤ b ∧ b < 6) : lt f a w b t = lt F a w b t := by
  unfold lt ap lg0 nr fr
  rw [h ((a * 6) + 0) (by omega) (by omega), h ((b * 6) + 0) (by omega) (by omega), hd_like h ha, hd_like h hb]
theorem cmF_like {f F : Nat → Int32} {a w b sl : Int} (h : ∀ e : Int, 0 ≤ e → e < 36 → gz f e = gz F e) (ha : 0 ≤ a ∧ a < 6) (hb : 0 ≤ b ∧ b < 6) : cmF f a w b sl = cmF F a w b sl := by
  unfold cmF
  congr 1
  funext t
  unfold isCm
  rw [lt_like (t := t) (w := w) h ha hb]
  have e : (∀ s : Int, w ≤ s → s < t → ¬ sl * lt f a w b s ≤ s - w) = (∀ s : Int, w ≤ s → s < t → ¬ sl * lt F a w b s ≤ s - w) := by
    apply propext
    constructor
    · intro g s p q; rw [← lt_like (t := s) (w := w) h ha hb]; exact g s p q
    · intro g s p q; rw [lt_like (t := s) (w := w) h ha hb]; exact g s p q
  rw [e]
theorem isIc_like {g G : Nat → Int32} {n a b w : Int} (h : ∀ e : Int, 0 ≤ e → e < n * 4 → gz g e = gz G e) : isIc g n a b w = isIc G n a b w := by
  have e : ∀ j : Int, 0 ≤ j → j < n → icR g j a b w = icR G j a b w := fun j p q => by
    unfold icR
    rw [h ((j * 4) + 0) (by omega) (by omega), h ((j * 4) + 1) (by omega) (by omega), h ((j * 4) + 2) (by omega) (by omega), h ((j * 4) + 3) (by omega) (by omega)]
  apply propext
  constructor
  · rintro ⟨j, p, q, r⟩; exact ⟨j, p, q, by rw [← e j p q]; exact r⟩
  · rintro ⟨j, p, q, r⟩; exact ⟨j, p, q, by rw [e j p q]; exact r⟩