theorem gz_upc {f g : Nat → Int32} {e v j : Int} (hg : g = upd f (iZ e).toNatClampNeg (iZ v)) (he : 0 ≤ e ∧ e < 2147483648) (hv : -2147483648 ≤ v ∧ v < 2147483648) (hj : 0 ≤ j) : (j = e ∧ gz g j = v) ∨ (¬ j = e ∧ gz g j = gz f j) := by
  rw [gz_up hg he hv hj]
  by_cases h : j = e
  · rw [if_pos h]; exact Or.inl ⟨h, rfl⟩
  · rw [if_neg h]; exact Or.inr ⟨h, rfl⟩
/-- the bit of a couple among those that are opened -/
def OB (op : Int64) (c : Int) : Prop := op.toBitVec.getLsbD c.toNat = true
theorem ob_s : ∀ n : Nat, n < 64 → (((iZ (n : Int)).toInt64 &&& 63).toBitVec.smod 64).toNat = n := by decide +kernel
theorem ob_1 : ∀ n : Nat, n < 64 → ((1 : Int64) <<< ((iZ (n : Int)).toInt64 &&& 63)).toBitVec = BitVec.twoPow 64 n := by decide +kernel
theorem OB_0 (c : Int) : ¬ OB 0 c := by
  unfold OB
  rw [show (0 : Int64).toBitVec = 0#64 from rfl, BitVec.getLsbD_zero]
  exact Bool.false_ne_true
theorem OB_z {op y1 y2 : Int64} {c : Int} (hc : 0 ≤ c ∧ c < 36) (h1 : y1 = op >>> ((iZ c).toInt64 &&& 63)) (h2 : y2 = y1 &&& 1) : y2 = 0 ↔ ¬ OB op c := by
  obtain ⟨k, rfl⟩ := Int.eq_ofNat_of_zero_le hc.1
  have hk : k < 64 := by omega
  have e : y1.toBitVec = op.toBitVec.sshiftRight k := by
    rw [h1, Int64.toBitVec_shiftRight]
    show op.toBitVec.sshiftRight ((((iZ (k : Int)).toInt64 &&& 63).toBitVec.smod 64).toNat) = _
    rw [ob_s k hk]
  have e0 : (op.toBitVec.sshiftRight k).getLsbD 0 = op.toBitVec.getLsbD k := by
    rw [BitVec.getLsbD_sshiftRight]
    simp [hk]
  unfold OB
  rw [h2, ← Int64.toBitVec_inj, Int64.toBitVec_and, e, show ((k : Int)).toNat = k by omega]
  show op.toBitVec.sshiftRight k &&& 1#64 = 0#64 ↔ _
  constructor
  · intro h g
    have t := congrArg (fun x => x.getLsbD 0) h
    simp only [BitVec.getLsbD_and, e0, g, BitVec.getLsbD_zero] at t
    exact absurd t (by decide)
  · intro h
    apply BitVec.eq_of_getLsbD_eq
    intro i hi
    cases i with
    | zero => rw [BitVec.getLsbD_and, e0, Bool.eq_false_iff.mpr h, Bool.false_and, BitVec.getLsbD_zero]
    | succ i => simp
theorem OB_or {op y3 y4 : Int64} {c d : Int} (hc : 0 ≤ c ∧ c < 36) (hd : 0 ≤ d ∧ d < 36) (h3 : y3 = 1 <<< ((iZ c).toInt64 &&& 63)) (h4 : y4 = op ||| y3) : OB y4 d ↔ (OB op d ∨ d = c) := by
  obtain ⟨k, rfl⟩ := Int.eq_ofNat_of_zero_le hc.1
  obtain ⟨j, rfl⟩ := Int.eq_ofNat_of_zero_le hd.1
  have hk : k < 64 := by omega
  unfold OB
  rw [h4, Int64.toBitVec_or, h3, ob_1 k hk, BitVec.getLsbD_or, BitVec.getLsbD_twoPow, show ((j : Int)).toNat = j by omega, Bool.or_eq_true]
  constructor
  · rintro (h | h)
    · exact Or.inl h
    · have : k = j := by simpa [hk] using h
      exact Or.inr (by omega)
  · rintro (h | h)
    · exact Or.inl h
    · have : k = j := by omega
      exact Or.inr (by simp [hk, this]; omega)
theorem isCm_ex {f : Nat → Int32} {n a w b : Int} (hx : FXI f n) (ha : 0 ≤ a ∧ a < n) (hb : 0 ≤ b ∧ b < n) (hne : ¬ a = b) : ∃ t : Int, isCm f a w b 1 t ∧ w + 1 ≤ t ∧ t ≤ w + 20 := by
  have r := lt_rg (f := f) (a := a) (b := b) (w := w) (t := w + 20) hx ha hb
  have l1 : ∀ s : Int, 1 ≤ lt f a w b s := fun s => by
    unfold lt ap
    rw [if_neg hne]
    split <;> omega
  have key : ∀ k : Nat, k ≤ 20 → (∃ t : Int, isCm f a w b 1 t ∧ w + 1 ≤ t ∧ t ≤ w + 20) ∨ ∀ s : Int, w ≤ s → s < w + 1 + k → ¬ 1 * lt f a w b s ≤ s - w := by
    intro k
    induction k with
    | zero => exact fun _ => Or.inr (fun s p q => by have := l1 s; omega)
    | succ k ih =>
      intro hk
      rcases ih (by omega) with h | h
      · exact Or.inl h
      · by_cases c : 1 * lt f a w b (w + 1 + k) ≤ (w + 1 + k) - w
        · exact Or.inl ⟨w + 1 + k, ⟨by omega, c, h⟩, by omega, by omega⟩
        · refine Or.inr (fun s p q => ?_)
          rcases Int.lt_or_eq_of_le (show s ≤ w + 1 + k by omega) with d | d
          · exact h s p d
          · rw [d]; exact c
  rcases key 20 (by omega) with h | h
  · exact h
  · exact absurd (by omega) (h (w + 20) (by omega) (by omega))
theorem arF_c {f g : Nat → Int32} {n ni a w b : Int} (hx : FXI f n) (ha : 0 ≤ a ∧ a < n) (hb : 0 ≤ b ∧ b < n) (hne : ¬ a = b) (hw : w ≤ 400) : arF f g ni a w b = 1000000 ∨ (w + 1 ≤ arF f g ni a w b ∧ arF f g ni a w b ≤ w + 20) := by
  unfold arF
  rw [if_neg hne, if_neg (by omega)]
  by_cases c : bz (isIc g ni a b w) = 1
  · rw [if_pos c]; exact Or.inl rfl
  · rw [if_neg c]
    obtain ⟨t, h1, h2, h3⟩ := isCm_ex (w := w) hx ha hb hne
    rw [← cmF_eq h1]
    exact Or.inr ⟨h2, h3⟩
/-- when light arrives, -1: never, or no WEEK that sends -/
noncomputable def arN (f g : Nat → Int32) (ni a w b : Int) : Int := if 0 ≤ w ∧ w ≤ 400 then (if arF f g ni a w b = 1000000 then -1 else arF f g ni a w b) else -1
theorem arN_c {f g : Nat → Int32} {ni a w b : Int} (hw : 0 ≤ w ∧ w ≤ 400) : (arF f g ni a w b = 1000000 ∧ arN f g ni a w b = -1) ∨ (¬ arF f g ni a w b = 1000000 ∧ arN f g ni a w b = arF f g ni a w b) := by
  unfold arN
  rw [if_pos hw]
  by_cases c : arF f g ni a w b = 1000000
  · rw [if_pos c]; exact Or.inl ⟨c, rfl⟩
  · rw [if_neg c]; exact Or.inr ⟨c, rfl⟩
theorem arN_o {f g : Nat → Int32} {ni a w b : Int} (hw : w < 0 ∨ 400 < w) : arN f g ni a w b = -1 := by
  unfold arN
  rw [if_neg (by omega)]
theorem arN_s {f g : Nat → Int32} {ni a w : Int} (hw : 0 ≤ w ∧ w ≤ 400) : arN f g ni a w a = w := by
  have e : arF f g ni a w a = w := by unfold arF; rw [if_pos rfl]
  unfold arN
  rw [if_pos hw, e, if_neg (by omega)]
/-- what the class found: ice, or the first WEEK -/
theorem arN_f {f g : Nat → Int32} {n ni a w b t : Int} (hx : FXI f n) (ha : 0 ≤ a ∧ a < n) (hb : 0 ≤ b ∧ b < n) (hne : ¬ a = b) (hw : 0 ≤ w ∧ w ≤ 400) (h1 : w + 1 ≤ t ∧ t ≤ w + 20) (h2 : t = w + 20 ∨ lt f a w b t ≤ t - w) (h3 : ∀ s : Int, w + 1 ≤ s → s < t → ¬ lt f a w b s ≤ s - w) : (bz (isIc g ni a b w) = 1 → arN f g ni a w b = -1) ∧ (bz (isIc g ni a b w) = 0 → arN f g ni a w b = t) := by
  have l1 : 1 ≤ lt f a w b w := by
    unfold lt ap
    rw [if_neg hne]
    split <;> omega
  have l2 := lt_rg (f := f) (a := a) (b := b) (w := w) (t := t) hx ha hb
  have cm : isCm f a w b 1 t := ⟨by omega, by omega, fun s p q => by
    rcases Int.lt_or_eq_of_le p with d | d
    · have := h3 s (by omega) q; omega
    · rw [← d]; omega⟩
  constructor
  · intro c
    have e : arF f g ni a w b = 1000000 := by unfold arF; rw [if_neg hne, if_neg (by omega), if_pos c]
    unfold arN
    rw [if_pos hw, if_pos e]
  · intro c
    have e : arF f g ni a w b = t := by unfold arF; rw [if_neg hne, if_neg (by omega), if_neg (by omega)]; exact (cmF_eq cm).symm
    unfold arN
    rw [if_pos hw, e, if_neg (by omega)]
theorem isSn_ex {f g : Nat → Int32} {ni r o w : Int} (hw : -1 ≤ w) : ∃ z : Int, isSn f g ni r o w z := by
  have key : ∀ k : Nat, (k : Int) ≤ w + 1 → (∃ z : Int, isSn f g ni r o w z) ∨ ∀ u : Int, w - k < u → u ≤ w → ¬ arF f g ni o u r ≤ w := by
    intro k
    induction k with
    | zero => exact fun _ => Or.inr (fun u p q => absurd p (by omega))
    | succ k ih =>
      intro hk
      rcases ih (by omega) with h | h
      · exact Or.inl h
      · by_cases c : arF f g ni o (w - k) r ≤ w
        · exact Or.inl ⟨w - k, ⟨by omega, by omega⟩, fun _ => c, h⟩
        · refine Or.inr (fun u p q => ?_)
          rcases Int.lt_or_eq_of_le (show w - k ≤ u by omega) with d | d
          · exact h u d q
          · rw [← d]; exact c
  rcases key (w + 1).toNat (by omega) with h | h
  · exact h
  · exact ⟨-1, ⟨by omega, by omega⟩, fun p => absurd p (by omega), fun u p q => h u (by omega) q⟩
theorem snF_sp {f g : Nat → Int32} {ni r o w : Int} (hw : -1 ≤ w) : isSn f g ni r o w (snF f g ni r o w) := Classical.epsilon_spec (isSn_ex hw)
theorem arF_o {f g : Nat → Int32} {ni a w b : Int} (hw : 400 < w) (hne : ¬ a = b) : arF f g ni a w b = 1000000 := by
  unfold arF
  rw [if_neg hne, if_pos hw]
/-- what Rays keep is so: the rows of couples that are opened -/
def RX (f g : Nat → Int32) (n ni : Int) (fa fl : Nat → Int32) (op : Int64) : Prop := ∀ a b : Int, (0 ≤ a ∧ a < n) → (0 ≤ b ∧ b < n) → ¬ a = b → OB op ((a * 6) + b) → ∀ w : Int, 0 ≤ w → w ≤ 400 → (gz fa ((((a * 6) + b) * 401) + w) = -2 ∨ gz fa ((((a * 6) + b) * 401) + w) = arN f g ni a w b) ∧ (gz fl ((((a * 6) + b) * 401) + w) = -2 ∨ gz fl ((((a * 6) + b) * 401) + w) = snF f g ni b a w)
theorem RX.zero (f g : Nat → Int32) (n ni : Int) (fa fl : Nat → Int32) : RX f g n ni fa fl 0 := fun _ _ _ _ _ h => absurd h (OB_0 _)
theorem RX.arr {f g fa fa' fl : Nat → Int32} {n ni a b w e v : Int} {op : Int64} (h : RX f g n ni fa fl op) (hg : fa' = upd fa (iZ e).toNatClampNeg (iZ v)) (he : e = (((a * 6) + b) * 401) + w) (ha : 0 ≤ a ∧ a < n) (hb : 0 ≤ b ∧ b < n) (hw : 0 ≤ w ∧ w ≤ 400) (hn : n ≤ 6) (hv : v = arN f g ni a w b) (hr : -2147483648 ≤ v ∧ v < 2147483648) : RX f g n ni fa' fl op := fun x y h1 h2 h3 h4 t h5 h6 => by
  obtain ⟨p, q⟩ := h x y h1 h2 h3 h4 t h5 h6
  refine ⟨?_, q⟩
  have u := gz_up hg (j := (((x * 6) + y) * 401) + t) ⟨by omega, by omega⟩ hr (by omega)
  by_cases c : (((x * 6) + y) * 401) + t = e
  · rw [if_pos c] at u
    obtain ⟨rfl, rfl, rfl⟩ : x = a ∧ y = b ∧ t = w := by omega
    exact Or.inr (u.trans hv)
  · rw [if_neg c] at u
    rw [u]; exact p
theorem RX.opn {f g fa fl fa' fl' : Nat → Int32} {n ni c : Int} {op op' : Int64} (h : RX f g n ni fa fl op) (hn : n ≤ 6) (ho : ∀ d : Int, 0 ≤ d → d < 36 → OB op' d → OB op d ∨ d = c) (h1 : ∀ j : Int, c * 401 ≤ j → j < c * 401 + 401 → gz fa' j = -2 ∧ gz fl' j = -2) (h2 : ∀ j : Int, 0 ≤ j → (j < c * 401 ∨ c * 401 + 401 ≤ j) → gz fa' j = gz fa j ∧ gz fl' j = gz fl j) : RX f g n ni fa' fl' op' := fun x y g1 g2 g3 g4 t g5 g6 => by
  by_cases e : (x * 6) + y = c
  · obtain ⟨p, q⟩ := h1 ((((x * 6) + y) * 401) + t) (by omega) (by omega)
    exact ⟨Or.inl p, Or.inl q⟩
  · rcases ho ((x * 6) + y) (by omega) (by omega) g4 with k | k
    · obtain ⟨p, q⟩ := h2 ((((x * 6) + y) * 401) + t) (by omega) (by omega)
      obtain ⟨r, s⟩ := h x y g1 g2 g3 k t g5 g6
      rw [p, q]
      exact ⟨r, s⟩
    · exact absurd k e
