theorem SKX.cpy {s : XS} {n ni lw we : Int} {f g f' g' : Nat → Int32} {nf nf' : Nat → Int64} (h : SKX s n ni lw we f g nf) (h1 : CPL nf' nf 6) (h2 : CPY f' f 36) (h3 : CPY g' g 32) (hn : n ≤ 6) (hni : ni ≤ 8) : SKX s n ni lw we f' g' nf' := by
  obtain ⟨a, b, c, d, hF, hG, hN⟩ := h
  exact ⟨a, b, c, d, fun e p q => (h2 e p q).trans (hF e p q), fun e p q => (h3 e p (by omega)).trans (hG e p q), fun e p q => by rw [h1 e p (by omega)]; exact hN e p q⟩
/-- the reference's cells from a place on hold what was read -/
def SKM (s : XS) (A : Nat → Int32) (b : Int) : Prop := (gz A b = s.1 ∧ gz A (b + 1) = s.2.1 ∧ gz A (b + 2) = s.2.2.1) ∧ (∀ e : Int, 0 ≤ e → e < 36 → gz A (b + 10 + e) = s.2.2.2.2.2.1 e) ∧ ∀ e : Int, 0 ≤ e → e < s.2.1 * 4 → gz A (b + 46 + e) = s.2.2.2.2.2.2.1 e
/-- the skies of both sides are the same -/
def SKE (n ni lw : Int) (f g A : Nat → Int32) (b : Int) : Prop := (gz A b = n ∧ gz A (b + 1) = ni ∧ gz A (b + 2) = lw) ∧ (∀ e : Int, 0 ≤ e → e < 36 → gz f e = gz A (b + 10 + e)) ∧ ∀ e : Int, 0 ≤ e → e < ni * 4 → gz g e = gz A (b + 46 + e)
def SKI (i mk n ni lw : Int) (f g A : Nat → Int32) (b : Int) : Prop := i < mk → SKE n ni lw f g A b
theorem SKE.of {s : XS} {n ni lw we : Int} {f g A : Nat → Int32} {nf : Nat → Int64} {b : Int} (h : SKX s n ni lw we f g nf) (k : SKM s A b) : SKE n ni lw f g A b := by
  obtain ⟨a1, a2, a3, -, hF, hG, -⟩ := h
  obtain ⟨⟨k1, k2, k3⟩, kF, kG⟩ := k
  exact ⟨⟨k1.trans a1, k2.trans a2, k3.trans a3⟩, fun e p q => (hF e p q).trans (kF e p q).symm, fun e p q => (hG e p q).trans (kG e p (by rw [a2]; exact q)).symm⟩
theorem SKE.z {n ni lw : Int} {f g A : Nat → Int32} (h : SKE n ni lw f g A 0) : gz A 0 = n ∧ gz A 1 = ni ∧ gz A 2 = lw := by
  obtain ⟨⟨a, b, c⟩, -, -⟩ := h
  exact ⟨a, (congrArg (gz A) (show (1 : Int) = 0 + 1 by decide)).trans b, (congrArg (gz A) (show (2 : Int) = 0 + 2 by decide)).trans c⟩
theorem SKE.mv {n ni lw b c : Int} {f g f' g' A B : Nat → Int32} (h : SKE n ni lw f g A b) (k : ∀ e : Int, 0 ≤ e → e < 890 → gz B (c + e) = gz A (b + e)) (hf : CPY f' f 36) (hg : CPY g' g 32) (hni : ni ≤ 8) : SKE n ni lw f' g' B c := by
  obtain ⟨⟨h1, h2, h3⟩, hF, hG⟩ := h
  refine ⟨⟨?_, (k 1 (by omega) (by omega)).trans h2, (k 2 (by omega) (by omega)).trans h3⟩, fun e p q => ?_, fun e p q => ?_⟩
  · have := k 0 (by omega) (by omega)
    rw [show c + 0 = c by omega, show b + 0 = b by omega] at this
    exact this.trans h1
  · rw [hf e p q, hF e p q, show c + 10 + e = c + (10 + e) by omega, show b + 10 + e = b + (10 + e) by omega]
    exact (k (10 + e) (by omega) (by omega)).symm
  · rw [hg e p (by omega), hG e p q, show c + 46 + e = c + (46 + e) by omega, show b + 46 + e = b + (46 + e) by omega]
    exact (k (46 + e) (by omega) (by omega)).symm
theorem CPY.rf (f : Nat → Int32) (n : Int) : CPY f f n := fun _ _ _ => rfl
theorem SKE.keep {n ni lw b : Int} {f g A B : Nat → Int32} (h : SKE n ni lw f g A b) (k : ∀ e : Int, b ≤ e → e < b + 890 → gz B e = gz A e) (hni : ni ≤ 8) : SKE n ni lw f g B b := h.mv (fun e p q => k (b + e) (by omega) (by omega)) (CPY.rf f 36) (CPY.rf g 32) hni
theorem SKE.lo {n ni lw : Int} {f g A B : Nat → Int32} (h : SKE n ni lw f g A 0) (k : ∀ e : Int, 0 ≤ e → (e < 3 ∨ (10 ≤ e ∧ e < 78)) → gz B e = gz A e) (hni : ni ≤ 8) : SKE n ni lw f g B 0 := by
  obtain ⟨⟨h1, h2, h3⟩, hF, hG⟩ := h
  exact ⟨⟨(k 0 (by omega) (by omega)).trans h1, (k (0 + 1) (by omega) (by omega)).trans h2, (k (0 + 2) (by omega) (by omega)).trans h3⟩, fun e p q => (hF e p q).trans (k (0 + 10 + e) (by omega) (by omega)).symm, fun e p q => (hG e p q).trans (k (0 + 46 + e) (by omega) (by omega)).symm⟩
theorem SKE.fr {n ni lw : Int} {f g A B : Nat → Int32} (h : SKE n ni lw f g A 0) (k : FR B A) (hni : ni ≤ 8) : SKE n ni lw f g B 0 := by
  refine h.lo (fun e p q => ?_) hni
  by_cases c : e < 3
  · rcases (show e = 0 ∨ e = 1 ∨ e = 2 by omega) with rfl | rfl | rfl
    · exact k.2.1
    · exact k.2.2.1
    · exact k.2.2.2
  · exact k.1 e (Or.inr (by omega))
theorem SKE.l {n ni lw : Int} {f g A : Nat → Int32} (h : SKE n ni lw f g A 0) : ∀ e : Int, 0 ≤ e → e < 36 → gz f e = gz (sh A 10) e := fun e p q => by
  rw [gz_sh (by omega) p, h.2.1 e p q, show 0 + 10 + e = 10 + e by omega]
theorem SKE.i {n ni lw : Int} {f g A : Nat → Int32} (h : SKE n ni lw f g A 0) : ∀ e : Int, 0 ≤ e → e < ni * 4 → gz g e = gz (sh A 46) e := fun e p q => by
  rw [gz_sh (by omega) p, h.2.2 e p q, show 0 + 46 + e = 46 + e by omega]
/-- a mark: the place of a slot -/
theorem SKE.mark {n ni lw n0 ni0 lw0 n' ni' lw' mk mk' i c M : Int} {f g f0 g0 f' g' A B : Nat → Int32} (hc : c = 890 * (i + 1)) (hi : 0 ≤ i ∧ i < 3) (old : i < mk → SKE n0 ni0 lw0 f0 g0 A c) (w : SKE n ni lw f g A 0)
    (cf : (mk = i → (n' = n ∧ ni' = ni ∧ lw' = lw) ∧ CPY f' f 36 ∧ CPY g' g 32) ∧ (¬ mk = i → (n' = n0 ∧ ni' = ni0 ∧ lw' = lw0) ∧ f' = f0 ∧ g' = g0))
    (hq : mk = M) (rf : (M < 3 → (∀ e : Int, 0 ≤ e → e < 890 → gz B (890 * (M + 1) + e) = gz A e) ∧ ∀ j : Int, 0 ≤ j → (j < 890 * (M + 1) ∨ 890 * (M + 1) + 890 ≤ j) → gz B j = gz A j) ∧ (¬ M < 3 → B = A))
    (hm : (mk = 3 ∧ mk' = 3) ∨ (mk < 3 ∧ mk' = mk + 1)) (h1 : ni ≤ 8) (h2 : ni0 ≤ 8) : i < mk' → SKE n' ni' lw' f' g' B c := by
  subst hq
  intro h
  by_cases q : mk = i
  · obtain ⟨⟨rfl, rfl, rfl⟩, hf, hg⟩ := cf.1 q
    refine w.mv (fun e p r => ?_) hf hg h1
    have := (rf.1 (by omega)).1 e p r
    rw [show 890 * (mk + 1) = c by rw [hc, q]] at this
    rw [this, show 0 + e = e by omega]
  · obtain ⟨⟨rfl, rfl, rfl⟩, rfl, rfl⟩ := cf.2 q
    have o := old (by omega)
    by_cases m : mk < 3
    · exact o.keep (fun e p r => (rf.1 m).2 e (by omega) (by omega)) h2
    · rw [rf.2 m]; exact o
theorem SKE.mark0 {n ni lw mk M : Int} {f g A B : Nat → Int32} (hm : 0 ≤ mk) (w : SKE n ni lw f g A 0)
    (hq : mk = M) (rf : (M < 3 → (∀ e : Int, 0 ≤ e → e < 890 → gz B (890 * (M + 1) + e) = gz A e) ∧ ∀ j : Int, 0 ≤ j → (j < 890 * (M + 1) ∨ 890 * (M + 1) + 890 ≤ j) → gz B j = gz A j) ∧ (¬ M < 3 → B = A)) (h1 : ni ≤ 8) : SKE n ni lw f g B 0 := by
  subst hq
  by_cases m : mk < 3
  · exact w.keep (fun e p r => (rf.1 m).2 e (by omega) (by omega)) h1
  · rw [rf.2 m]; exact w
theorem SKE.back {n ni lw mk mk' c i M : Int} {f g A B : Nat → Int32} (hc : c = 890 * (i + 1)) (hi : 0 ≤ i) (old : i < mk → SKE n ni lw f g A c) (hq : mk = M) (rf : (0 < M → (∀ e : Int, 0 ≤ e → e < 890 → gz B e = gz A (890 * M + e)) ∧ ∀ j : Int, 890 ≤ j → gz B j = gz A j) ∧ (¬ 0 < M → B = A)) (hm : mk' ≤ mk) (h1 : ni ≤ 8) : i < mk' → SKE n ni lw f g B c := by
  subst hq
  intro h
  exact (old (by omega)).keep (fun e p r => (rf.1 (by omega)).2 e (by omega)) h1
theorem SKE.back0 {n ni lw n0 ni0 lw0 n1 ni1 lw1 n2 ni2 lw2 n' ni' lw' mk M : Int} {f g f0 g0 f1 g1 f2 g2 f' g' A B : Nat → Int32} (hm : 0 ≤ mk ∧ mk ≤ 3) (w : SKE n ni lw f g A 0) (w0 : 0 < mk → SKE n0 ni0 lw0 f0 g0 A 890) (w1 : 1 < mk → SKE n1 ni1 lw1 f1 g1 A 1780) (w2 : 2 < mk → SKE n2 ni2 lw2 f2 g2 A 2670)
    (c0 : mk = 1 → (n' = n0 ∧ ni' = ni0 ∧ lw' = lw0) ∧ CPY f' f0 36 ∧ CPY g' g0 32) (c1 : mk = 2 → (n' = n1 ∧ ni' = ni1 ∧ lw' = lw1) ∧ CPY f' f1 36 ∧ CPY g' g1 32) (c2 : mk = 3 → (n' = n2 ∧ ni' = ni2 ∧ lw' = lw2) ∧ CPY f' f2 36 ∧ CPY g' g2 32) (cz : mk = 0 → (n' = n ∧ ni' = ni ∧ lw' = lw) ∧ f' = f ∧ g' = g)
    (hq : mk = M) (rf : (0 < M → (∀ e : Int, 0 ≤ e → e < 890 → gz B e = gz A (890 * M + e)) ∧ ∀ j : Int, 890 ≤ j → gz B j = gz A j) ∧ (¬ 0 < M → B = A)) (h0 : ni0 ≤ 8) (h1 : ni1 ≤ 8) (h2 : ni2 ≤ 8) : SKE n' ni' lw' f' g' B 0 := by
  subst hq
  rcases (show mk = 0 ∨ mk = 1 ∨ mk = 2 ∨ mk = 3 by omega) with q | q | q | q
  · obtain ⟨⟨rfl, rfl, rfl⟩, rfl, rfl⟩ := cz q
    rw [rf.2 (by omega)]; exact w
  · obtain ⟨⟨rfl, rfl, rfl⟩, hf, hg⟩ := c0 q
    exact (w0 (by omega)).mv (fun e p r => by have := (rf.1 (by omega)).1 e p r; rw [q, show 890 * (1 : Int) = 890 by decide] at this; rw [show 0 + e = e by omega]; exact this) hf hg h0
  · obtain ⟨⟨rfl, rfl, rfl⟩, hf, hg⟩ := c1 q
    exact (w1 (by omega)).mv (fun e p r => by have := (rf.1 (by omega)).1 e p r; rw [q, show 890 * (2 : Int) = 1780 by decide] at this; rw [show 0 + e = e by omega]; exact this) hf hg h1
  · obtain ⟨⟨rfl, rfl, rfl⟩, hf, hg⟩ := c2 q
    exact (w2 (by omega)).mv (fun e p r => by have := (rf.1 (by omega)).1 e p r; rw [q, show 890 * (3 : Int) = 2670 by decide] at this; rw [show 0 + e = e by omega]; exact this) hf hg h2
/-- a sky that both sides read -/
theorem SKE.sky {n ni lw n' ni' lw' we' x t u : Int} {f g f' g' A B : Nat → Int32} {nf nf' : Nat → Int64} {R R' : (Int × Int) ⊕ (Int × XS)} (w : SKE n ni lw f g A 0) (hu : t = u) (hR : (0 ≤ x ∧ x ≤ t) → R = R') (hni : ni ≤ 8)
    (cf : ((0 ≤ x ∧ x ≤ t) ∧ ∃ (q9 : Int) (s9 : XS), R = .inr (q9, s9) ∧ SKX s9 n' ni' lw' we' f' g' nf') ∨ ((¬ (0 ≤ x ∧ x ≤ t) ∨ ∃ e9 : Int × Int, R = .inl e9) ∧ (n' = n ∧ ni' = ni ∧ lw' = lw) ∧ f' = f ∧ g' = g ∧ nf' = nf))
    (rf : ((0 ≤ x ∧ x ≤ u) ∧ ∃ (q9 : Int) (s9 : XS), R' = .inr (q9, s9) ∧ SKM s9 B 0) ∨ ((¬ (0 ≤ x ∧ x ≤ u) ∨ ∃ e9 : Int × Int, R' = .inl e9) ∧ ∀ e : Int, 0 ≤ e → e < 890 → gz B e = gz A e)) : SKE n' ni' lw' f' g' B 0 := by
  subst hu
  rcases cf with ⟨ok, q, s, h1, h2⟩ | ⟨c, ⟨rfl, rfl, rfl⟩, rfl, rfl, -⟩
  · rcases rf with ⟨-, q2, s2, k1, k2⟩ | ⟨k, -⟩
    · rw [hR ok, k1] at h1
      injection h1 with h3
      injection h3 with h4 h5
      rw [← h5] at h2
      exact SKE.of h2 k2
    · rcases k with k | ⟨e, k⟩
      · exact absurd ok k
      · rw [hR ok, k] at h1
        exact absurd h1 (by intro h; injection h)
  · rcases rf with ⟨ok, q2, s2, k1, k2⟩ | ⟨-, k⟩
    · rcases c with c | ⟨e, c⟩
      · exact absurd ok c
      · rw [hR ok, k1] at c
        exact absurd c (by intro h; injection h)
    · exact w.keep (fun e p r => k e p (by omega)) hni
theorem SKM.of {A B : Nat → Int32} {n ni lw we lt : Int} {F G N : Int → Int} (h : MSX A n ni lw we F G) (k : ∀ e : Int, 0 ≤ e → e < 890 → gz B e = gz A (3560 + e)) (hni : ni ≤ 8) : SKM (n, ni, lw, we, lt, F, G, N) B 0 := by
  obtain ⟨h1, h2, h3, -, hF, hG⟩ := h
  refine ⟨⟨?_, ?_, ?_⟩, fun e p q => ?_, fun e p q => ?_⟩
  · have := k 0 (by omega) (by omega); rw [show (3560 : Int) + 0 = 3560 by decide] at this; exact this.trans h1
  · have := k (0 + 1) (by omega) (by omega); rw [show (3560 : Int) + (0 + 1) = 3561 by decide] at this; exact this.trans h2
  · have := k (0 + 2) (by omega) (by omega); rw [show (3560 : Int) + (0 + 2) = 3562 by decide] at this; exact this.trans h3
  · have := k (0 + 10 + e) (by omega) (by omega)
    have r := hF e p q
    rw [gz_sh (by omega) p] at r
    rw [this, show 3560 + (0 + 10 + e) = 3570 + e by omega]
    exact r
  · have q : e < ni * 4 := q
    have := k (0 + 46 + e) (by omega) (by omega)
    have r := hG e p q
    rw [gz_sh (by omega) p] at r
    rw [this, show 3560 + (0 + 46 + e) = 3606 + e by omega]
    exact r
/-- what is told of like skies is alike -/
theorem hd_like {f F : Nat → Int32} {a w : Int} (h : ∀ e : Int, 0 ≤ e → e < 36 → gz f e = gz F e) (ha : 0 ≤ a ∧ a < 6) : hd f a w = hd F a w := by
  unfold hd
  rw [h ((a * 6) + 2) (by omega) (by omega), h ((a * 6) + 1) (by omega) (by omega)]
theorem pr_like {f F : Nat → Int32} {a w : Int} (h : ∀ e : Int, 0 ≤ e → e < 36 → gz f e = gz F e) (ha : 0 ≤ a ∧ a < 6) : pr f a w = pr F a w := by
  unfold pr
  rw [h ((a * 6) + 4) (by omega) (by omega), h ((a * 6) + 5) (by omega) (by omega), hd_like h ha]
theorem lt_like {f F : Nat → Int32} {a w b t : Int} (h : ∀ e : Int, 0 ≤ e → e < 36 → gz f e = gz F e) (ha : 0 ≤ a ∧ a < 6) (hb : 0 ≤ b ∧ b < 6) : lt f a w b t = lt F a w b t := by
  unfold lt ap lg0 nr fr
  rw [h ((a * 6) + 0) (by omega) (by omega), h ((b * 6) + 0) (by omega) (by omega), hd_like h ha, hd_like h hb]
theorem cmF_like {f F : Nat → Int32} {a w b sl : Int} (h : ∀ e : Int, 0 ≤ e → e < 36 → gz f e = gz F e) (ha : 0 ≤ a ∧ a < 6) (hb : 0 ≤ b ∧ b < 6) : cmF f a w b sl = cmF F a w b sl := by
  unfold cmF
  congr 1
  funext t
  unfold isCm
  rw [lt_like (t := t) (w := w) h ha hb]
  have e : (∀ s : Int, w ≤ s → s < t → ¬ sl * lt f a w b s ≤ s - w) = (∀ s : Int, w ≤ s → s < t → ¬ sl * lt F a w b s ≤ s - w) := by
    apply propext
    constructor
    · intro g s p q; rw [← lt_like (t := s) (w := w) h ha hb]; exact g s p q
    · intro g s p q; rw [lt_like (t := s) (w := w) h ha hb]; exact g s p q
  rw [e]
theorem isIc_like {g G : Nat → Int32} {n a b w : Int} (h : ∀ e : Int, 0 ≤ e → e < n * 4 → gz g e = gz G e) : isIc g n a b w = isIc G n a b w := by
  have e : ∀ j : Int, 0 ≤ j → j < n → icR g j a b w = icR G j a b w := fun j p q => by
    unfold icR
    rw [h ((j * 4) + 0) (by omega) (by omega), h ((j * 4) + 1) (by omega) (by omega), h ((j * 4) + 2) (by omega) (by omega), h ((j * 4) + 3) (by omega) (by omega)]
  apply propext
  constructor
  · rintro ⟨j, p, q, r⟩; exact ⟨j, p, q, by rw [← e j p q]; exact r⟩
  · rintro ⟨j, p, q, r⟩; exact ⟨j, p, q, by rw [e j p q]; exact r⟩
theorem isLd_cm {f : Nat → Int32} {n a w b t : Int} (hx : FXI f n) (ha : 0 ≤ a ∧ a < n) (hb : 0 ≤ b ∧ b < n) (h : isLd f a w b t) : t = cmF f a w b 10 := by
  apply cmF_eq
  unfold isLd at h
  by_cases e : a = b
  · rw [if_pos e] at h
    have z : lt f a w b t = 0 := by unfold lt ap; rw [if_pos e]
    exact ⟨by omega, by rw [z]; omega, fun s p q => absurd p (by omega)⟩
  · rw [if_neg e] at h
    obtain ⟨h1, h2, h3, h4⟩ := h
    refine ⟨by omega, h3, fun s p q => ?_⟩
    by_cases c : w + 10 ≤ s
    · exact h4 s c q
    · have : 1 ≤ lt f a w b s := by
        unfold lt ap
        rw [if_neg e]
        split <;> omega
      omega
theorem isLd_ex {f : Nat → Int32} {n a w b : Int} (hx : FXI f n) (ha : 0 ≤ a ∧ a < n) (hb : 0 ≤ b ∧ b < n) : ∃ t : Int, isLd f a w b t := by
  by_cases e : a = b
  · exact ⟨w, by unfold isLd; rw [if_pos e]⟩
  · have r := lt_rg (f := f) (a := a) (b := b) (w := w) (t := w + 200) hx ha hb
    have key : ∀ k : Nat, (∃ t : Int, isLd f a w b t) ∨ ∀ s : Int, w + 10 ≤ s → s < w + 10 + k → ¬ 10 * lt f a w b s ≤ s - w := by
      intro k
      induction k with
      | zero => exact Or.inr (fun s p q => absurd p (by omega))
      | succ k ih =>
        rcases ih with h | h
        · exact Or.inl h
        · by_cases c2 : (k : Int) ≤ 190
          · by_cases c : 10 * lt f a w b (w + 10 + k) ≤ (w + 10 + k) - w
            · exact Or.inl ⟨w + 10 + k, by unfold isLd; rw [if_neg e]; exact ⟨by omega, by omega, c, fun s p q => h s p q⟩⟩
            · refine Or.inr (fun s p q => ?_)
              rcases Int.lt_or_eq_of_le (show s ≤ w + 10 + k by omega) with d | d
              · exact h s p d
              · rw [d]; exact c
          · exact absurd (by omega) (h (w + 200) (by omega) (by omega))
    rcases key 191 with h | h
    · exact h
    · exact absurd (by omega) (h (w + 200) (by omega) (by omega))
theorem gv_like {f F : Nat → Int32} {n a w b : Int} (hx : FXI f n) (h : ∀ e : Int, 0 ≤ e → e < 36 → gz f e = gz F e) (hn : n ≤ 6) (ha : 0 ≤ a ∧ a < n) (hb : 0 ≤ b ∧ b < n) : gvF f a w b = gnF F a w b := by
  obtain ⟨t, ht⟩ := isLd_ex (w := w) hx ha hb
  unfold gvF gnF
  rw [← ldF_eq ht, isLd_cm hx ha hb ht, cmF_like h ⟨by omega, by omega⟩ ⟨by omega, by omega⟩, pr_like h ⟨by omega, by omega⟩, pr_like h ⟨by omega, by omega⟩]
/-- two calls that are granted alike and answer alike -/
theorem eq_ok {P Q : Prop} {x y v w : Int} (a : (P ∧ x = v) ∨ (¬ P ∧ x = -1)) (b : (Q ∧ y = w) ∨ (¬ Q ∧ y = -1)) (h : P ↔ Q) (hv : P → v = w) : x = y := by
  rcases a with ⟨p, rfl⟩ | ⟨p, rfl⟩ <;> rcases b with ⟨q, rfl⟩ | ⟨q, rfl⟩
  · exact hv p
  · exact absurd (h.mp p) q
  · exact absurd (h.mpr q) p
  · rfl
theorem eq_op {P Q V W : Prop} {x y : Int} (a : (P ∧ V) ∨ (¬ P ∧ x = -1)) (b : (Q ∧ W) ∨ (¬ Q ∧ y = -1)) (h : P ↔ Q) (hv : P → V → W → x = y) : x = y := by
  rcases a with ⟨p, v⟩ | ⟨p, rfl⟩ <;> rcases b with ⟨q, w⟩ | ⟨q, rfl⟩
  · exact hv p v w
  · exact absurd (h.mp p) q
  · exact absurd (h.mpr q) p
  · rfl
theorem eq_tf {P Q : Prop} {x y : Int} (a : (x = 1 ∧ P) ∨ (x = 0 ∧ ¬ P)) (b : (y = 1 ∧ Q) ∨ (y = 0 ∧ ¬ Q)) (h : P ↔ Q) : x = y := by
  rcases a with ⟨rfl, p⟩ | ⟨rfl, p⟩ <;> rcases b with ⟨rfl, q⟩ | ⟨rfl, q⟩
  · rfl
  · exact absurd (h.mp p) q
  · exact absurd (h.mpr q) p
  · rfl
