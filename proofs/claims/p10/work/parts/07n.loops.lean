/-- the first of the least, of n but r -/
def isFB (g : Int → Int) (r n z : Int) : Prop := (z = -1 ∧ ∀ j : Int, 0 ≤ j → j < n → j = r) ∨ ((0 ≤ z ∧ z < n ∧ ¬ z = r) ∧ ∀ j : Int, 0 ≤ j → j < n → ¬ j = r → g z ≤ g j ∧ (j < z → g z < g j))
theorem isFB_0 {g : Int → Int} {r : Int} : isFB g r 0 (-1) := Or.inl ⟨rfl, fun j h1 h2 => absurd h1 (by omega)⟩
theorem isFB_1 {g : Int → Int} {r o z : Int} (h : isFB g r o z) (e : o = r) : isFB g r (o + 1) z := by
  rcases h with ⟨a, b⟩ | ⟨a, b⟩
  · refine Or.inl ⟨a, fun j h1 h2 => ?_⟩
    rcases Int.lt_or_eq_of_le (show j ≤ o by omega) with q | q
    · exact b j h1 q
    · rw [q]; exact e
  · refine Or.inr ⟨⟨a.1, by omega, a.2.2⟩, fun j h1 h2 h3 => ?_⟩
    rcases Int.lt_or_eq_of_le (show j ≤ o by omega) with q | q
    · exact b j h1 q h3
    · exact absurd (q.trans e) h3
theorem isFB_2 {g : Int → Int} {r o z : Int} (h : isFB g r o z) (ho : 0 ≤ o) (e : ¬ o = r) (c : z = -1 ∨ g o < g z) : isFB g r (o + 1) o := by
  refine Or.inr ⟨⟨ho, by omega, e⟩, fun j h1 h2 h3 => ?_⟩
  rcases Int.lt_or_eq_of_le (show j ≤ o by omega) with q | q
  · rcases h with ⟨a, b⟩ | ⟨a, b⟩
    · exact absurd (b j h1 q) h3
    · have := b j h1 q h3
      have c2 : g o < g z := by
        rcases c with c | c
        · omega
        · exact c
      exact ⟨by omega, fun _ => by omega⟩
  · rw [q]; exact ⟨Int.le_refl _, fun k => absurd k (by omega)⟩
theorem isFB_3 {g : Int → Int} {r o z : Int} (h : isFB g r o z) (c : ¬ z = -1) (d : ¬ g o < g z) : isFB g r (o + 1) z := by
  rcases h with ⟨a, b⟩ | ⟨a, b⟩
  · exact absurd a c
  · refine Or.inr ⟨⟨a.1, by omega, a.2.2⟩, fun j h1 h2 h3 => ?_⟩
    rcases Int.lt_or_eq_of_le (show j ≤ o by omega) with q | q
    · exact b j h1 q h3
    · rw [q]; exact ⟨by omega, fun k => absurd k (by omega)⟩
theorem isFB_n {g : Int → Int} {r o n z : Int} (h : isFB g r o z) (e : o = n) : isFB g r n z := by rw [← e]; exact h
theorem isFB_eq {g k : Int → Int} {r n z w : Int} (h : isFB g r n z) (h2 : isFB k r n w) (e : ∀ j : Int, 0 ≤ j → j < n → g j = k j) : z = w := by
  rcases h with ⟨a, b⟩ | ⟨⟨a1, a2, a3⟩, b⟩ <;> rcases h2 with ⟨c, d⟩ | ⟨⟨c1, c2, c3⟩, d⟩
  · rw [a, c]
  · exact absurd (b w c1 c2) c3
  · exact absurd (d z a1 a2) a3
  · have x := b w c1 c2 c3
    have y := d z a1 a2 a3
    have ez := e z a1 a2
    have ew := e w c1 c2
    omega
/-- how many WEEKS of k from x on see two ROCKS in one DIRECTION -/
def mtC (f : Nat → Int32) (a b x : Int) : Nat → Int
  | 0 => 0
  | k + 1 => mtC f a b x k + (if hd f a (x + k) = hd f b (x + k) then 1 else 0)
theorem mtC_0 {f : Nat → Int32} {a b x : Int} : mtC f a b x (x - x).toNat = 0 := by rw [show (x - x).toNat = 0 by omega]; rfl
theorem mtC_s {f : Nat → Int32} {a b x w : Int} (h : x ≤ w) : mtC f a b x (w + 1 - x).toNat = mtC f a b x (w - x).toNat + (if hd f a w = hd f b w then 1 else 0) := by
  rw [show (w + 1 - x).toNat = (w - x).toNat + 1 by omega]
  show mtC f a b x (w - x).toNat + (if hd f a (x + ((w - x).toNat : Int)) = hd f b (x + ((w - x).toNat : Int)) then 1 else 0) = _
  rw [show x + ((w - x).toNat : Int) = w by omega]
theorem mtC_like {f F : Nat → Int32} {a b x : Int} (h : ∀ w : Int, hd f a w = hd F a w) (g : ∀ w : Int, hd f b w = hd F b w) : ∀ k : Nat, mtC f a b x k = mtC F a b x k
  | 0 => rfl
  | k + 1 => by
    show mtC f a b x k + (if hd f a (x + k) = hd f b (x + k) then 1 else 0) = mtC F a b x k + (if hd F a (x + k) = hd F b (x + k) then 1 else 0)
    rw [mtC_like h g k, h, g]
/-- the first WEEK from x to 400 in which two ROCKS are no more than l apart -/
def isCs (f : Nat → Int32) (a b x l z : Int) : Prop := ((x ≤ z ∧ z ≤ 400) ∧ lt f a z b z ≤ l ∧ ∀ t : Int, x ≤ t → t < z → ¬ lt f a t b t ≤ l) ∨ (z = -1 ∧ ∀ t : Int, x ≤ t → t ≤ 400 → ¬ lt f a t b t ≤ l)
theorem isCs_eq {f F : Nat → Int32} {a b x l z w : Int} (h : isCs f a b x l z) (g : isCs F a b x l w) (e : ∀ t : Int, lt f a t b t = lt F a t b t) : z = w := by
  rcases h with ⟨h1, h2, h3⟩ | ⟨h1, h3⟩ <;> rcases g with ⟨g1, g2, g3⟩ | ⟨g1, g3⟩
  · rcases Int.lt_trichotomy z w with q | q | q
    · exact absurd (by rw [← e]; exact h2) (g3 z h1.1 q)
    · exact q
    · exact absurd (by rw [e]; exact g2) (h3 w g1.1 q)
  · exact absurd (by rw [← e]; exact h2) (g3 z h1.1 h1.2)
  · exact absurd (by rw [e]; exact g2) (h3 w g1.1 g1.2)
  · rw [h1, g1]
/-- when a SHIP is there; its GAIN -/
noncomputable def ldF (f : Nat → Int32) (a w b : Int) : Int := Classical.epsilon (isLd f a w b)
theorem isLd_eq {f : Nat → Int32} {a w b t u : Int} (h : isLd f a w b t) (g : isLd f a w b u) : t = u := by
  unfold isLd at h g
  by_cases e : a = b
  · rw [if_pos e] at h g; omega
  · rw [if_neg e] at h g
    obtain ⟨h1, h2, h3, h4⟩ := h
    obtain ⟨g1, g2, g3, g4⟩ := g
    rcases Int.lt_trichotomy t u with q | q | q
    · exact absurd h3 (g4 t h1 q)
    · exact q
    · exact absurd g3 (h4 u g1 q)
theorem ldF_eq {f : Nat → Int32} {a w b t : Int} (h : isLd f a w b t) : t = ldF f a w b := isLd_eq h (Classical.epsilon_spec (p := isLd f a w b) ⟨t, h⟩)
noncomputable def gvF (f : Nat → Int32) (a w b : Int) : Int := pr f b (ldF f a w b) - pr f a w
theorem gvF_eq {f : Nat → Int32} {a w b z : Int} (h : ∃ t : Int, isLd f a w b t ∧ z = pr f b t - pr f a w) : z = gvF f a w b := by
  obtain ⟨t, h1, h2⟩ := h
  unfold gvF
  rw [← ldF_eq h1]
  exact h2
/-- the greatest LIGHT of the couples that were looked at -/
def isSp (f : Nat → Int32) (w n a b m : Int) : Prop := (∀ i j : Int, 0 ≤ i → i < j → j < n → (i < a ∨ (i = a ∧ j < b)) → lt f i w j w ≤ m) ∧ (m = 0 ∨ ∃ i j : Int, (0 ≤ i ∧ i < j ∧ j < n) ∧ m = lt f i w j w)
theorem isSp_0 {f : Nat → Int32} {w n : Int} : isSp f w n 0 0 0 := ⟨fun i j h1 h2 h3 h4 => by omega, Or.inl rfl⟩
theorem isSp_i {f : Nat → Int32} {w n a m : Int} (h : isSp f w n a 0 m) (ha : 0 ≤ a) : isSp f w n a (a + 1) m := ⟨fun i j h1 h2 h3 h4 => h.1 i j h1 h2 h3 (by omega), h.2⟩
theorem isSp_s {f : Nat → Int32} {w n a b m : Int} (h : isSp f w n a b m) (ha : 0 ≤ a ∧ a < b ∧ b < n) : isSp f w n a (b + 1) (max m (lt f a w b w)) := by
  refine ⟨fun i j h1 h2 h3 h4 => ?_, ?_⟩
  · by_cases q : i = a ∧ j = b
    · rw [q.1, q.2]; omega
    · have := h.1 i j h1 h2 h3 (by omega)
      omega
  · rcases Decidable.em (m < lt f a w b w) with q | q
    · exact Or.inr ⟨a, b, ha, by omega⟩
    · rw [show max m (lt f a w b w) = m by omega]; exact h.2
theorem isSp_o {f : Nat → Int32} {w n a b m : Int} (h : isSp f w n a b m) (hb : n ≤ b) : isSp f w n (a + 1) 0 m := ⟨fun i j h1 h2 h3 h4 => h.1 i j h1 h2 h3 (by omega), h.2⟩
def isSr (f : Nat → Int32) (w n a b m : Int) : Prop := (∀ i j : Int, 0 ≤ j → j < i → i < n → (i < a ∨ (i = a ∧ j < b)) → lt f i w j w ≤ m) ∧ (m = 0 ∨ ∃ i j : Int, (0 ≤ j ∧ j < i ∧ i < n) ∧ m = lt f i w j w)
theorem isSr_0 {f : Nat → Int32} {w n : Int} : isSr f w n 0 0 0 := ⟨fun i j h1 h2 h3 h4 => by omega, Or.inl rfl⟩
theorem isSr_s {f : Nat → Int32} {w n a b m : Int} (h : isSr f w n a b m) (ha : 0 ≤ b ∧ b < a ∧ a < n) : isSr f w n a (b + 1) (max m (lt f a w b w)) := by
  refine ⟨fun i j h1 h2 h3 h4 => ?_, ?_⟩
  · by_cases q : i = a ∧ j = b
    · rw [q.1, q.2]; omega
    · have := h.1 i j h1 h2 h3 (by omega)
      omega
  · rcases Decidable.em (m < lt f a w b w) with q | q
    · exact Or.inr ⟨a, b, ha, by omega⟩
    · rw [show max m (lt f a w b w) = m by omega]; exact h.2
theorem isSr_o {f : Nat → Int32} {w n a b m : Int} (h : isSr f w n a b m) (hb : a ≤ b) : isSr f w n (a + 1) 0 m := ⟨fun i j h1 h2 h3 h4 => h.1 i j h1 h2 h3 (by omega), h.2⟩
theorem nr_sym (f : Nat → Int32) (a b : Int) : nr f a b = nr f b a := by unfold nr; split <;> split <;> omega
theorem fr_sym (f : Nat → Int32) (a b : Int) : fr f a b = fr f b a := by unfold fr; split <;> split <;> omega
theorem tn_sym (h g : Int) : tn h g = tn g h := by unfold tn; split <;> split <;> omega
theorem sp_sym (h g : Int) : sp h g = sp g h := by unfold sp; rw [tn_sym h g]
theorem lt_sym (f : Nat → Int32) (a b w : Int) : lt f a w b w = lt f b w a w := by
  unfold lt ap lg0
  rw [nr_sym f a b, fr_sym f a b, sp_sym (hd f a w) (hd f b w)]
  by_cases e : a = b
  · rw [if_pos e, if_pos e.symm]
  · have e2 : ¬ b = a := fun k => e k.symm
    rw [if_neg e, if_neg e2]
theorem isSp_eq {f F : Nat → Int32} {w n m k : Int} (h : isSp f w n n 0 m) (g : isSr F w n n 0 k) (e : ∀ i j : Int, 0 ≤ i → i < n → 0 ≤ j → j < n → lt f i w j w = lt F i w j w) (hm : 0 ≤ m) (hk : 0 ≤ k) : m = k := by
  have a : m ≤ k := by
    rcases h.2 with q | ⟨i, j, q, r⟩
    · omega
    · have := g.1 j i q.1 q.2.1 q.2.2 (by omega)
      rw [lt_sym F, ← e i j q.1 (by omega) (by omega) q.2.2] at this
      omega
  have b : k ≤ m := by
    rcases g.2 with q | ⟨i, j, q, r⟩
    · omega
    · have := h.1 j i q.1 q.2.1 q.2.2 (by omega)
      rw [lt_sym f, e i j (by omega) q.2.2 q.1 (by omega)] at this
      omega
  omega
/-- when what is sent so slowly is there: the first such week -/
def isCm (f : Nat → Int32) (a w b sl t : Int) : Prop := w ≤ t ∧ sl * lt f a w b t ≤ t - w ∧ ∀ s : Int, w ≤ s → s < t → ¬ sl * lt f a w b s ≤ s - w
noncomputable def cmF (f : Nat → Int32) (a w b sl : Int) : Int := Classical.epsilon (isCm f a w b sl)
theorem cmF_eq {f : Nat → Int32} {a w b sl t : Int} (h : isCm f a w b sl t) : t = cmF f a w b sl := by
  have g : isCm f a w b sl (cmF f a w b sl) := Classical.epsilon_spec ⟨t, h⟩
  rcases Int.lt_trichotomy t (cmF f a w b sl) with q | q | q
  · exact absurd h.2.1 (g.2.2 t h.1 q)
  · exact q
  · exact absurd g.2.1 (h.2.2 _ g.1 q)
/-- when light arrives; 1000000: never -/
noncomputable def arF (f g : Nat → Int32) (ni a w b : Int) : Int := if a = b then w else if 400 < w then 1000000 else if bz (isIc g ni a b w) = 1 then 1000000 else cmF f a w b 1
/-- the latest week of which something is there -/
def isSn (f g : Nat → Int32) (ni r o w z : Int) : Prop := (-1 ≤ z ∧ z ≤ w) ∧ (0 ≤ z → arF f g ni o z r ≤ w) ∧ ∀ u : Int, z < u → u ≤ w → ¬ arF f g ni o u r ≤ w
noncomputable def snF (f g : Nat → Int32) (ni r o w : Int) : Int := Classical.epsilon (isSn f g ni r o w)
theorem bz_rg (P : Prop) : bz P = 0 ∨ bz P = 1 := by
  rcases Classical.em P with h | h
  · exact Or.inr (bz_t h)
  · exact Or.inl (bz_f h)
theorem snF_eq {f g : Nat → Int32} {ni r o w z : Int} (h : isSn f g ni r o w z) : z = snF f g ni r o w := by
  have q : isSn f g ni r o w (snF f g ni r o w) := Classical.epsilon_spec ⟨z, h⟩
  obtain ⟨h1, h2, h3⟩ := h
  obtain ⟨q1, q2, q3⟩ := q
  rcases Int.lt_trichotomy z (snF f g ni r o w) with c | c | c
  · exact absurd (q2 (by omega)) (h3 _ c (by omega))
  · exact c
  · exact absurd (h2 (by omega)) (q3 _ c (by omega))
