section
/-- YEARS under way: who opens and who closes -/
def YN_ (s : YS_) : Prop := match s with
  | (r, _, d, W, _, _, _, P, O) => (0 ≤ r ∧ 0 ≤ d) ∧ (∀ k : Int, r ≤ k → W k = -1 ∧ P k = -1) ∧ (∀ i : Int, 0 ≤ i → i < d → (0 ≤ O i ∧ O i < r) ∧ (W (O i) = 19 ∨ W (O i) = 22) ∧ P (O i) = -1) ∧ (∀ i j : Int, 0 ≤ i → i < j → j < d → O i < O j) ∧ (∀ e : Int, 0 ≤ e → e < r → W e = 23 → (0 ≤ P e ∧ P e < e) ∧ P (P e) = e ∧ (W (P e) = 19 ∨ W (P e) = 22)) ∧ (∀ e f : Int, 0 ≤ e → e < r → 0 ≤ f → f < r → W e = 23 → W f = 23 → P f < P e → P e < f → e < f) ∧ (∀ i e : Int, 0 ≤ i → i < d → 0 ≤ e → e < r → W e = 23 → ¬ (P e < O i ∧ O i < e)) ∧ ∀ k : Int, 0 ≤ k → k < r → (W k = 19 ∨ W k = 22) → (∃ i : Int, (0 ≤ i ∧ i < d) ∧ O i = k) ∨ ((k < P k ∧ P k < r) ∧ W (P k) = 23 ∧ P (P k) = k)
theorem YN_0 : YN_ yS0 := ⟨⟨by omega, by omega⟩, fun k _ => ⟨rfl, rfl⟩, fun i a b => absurd b (by omega), fun i j a b c => absurd c (by omega), fun e a b => absurd b (by omega), fun e f a b => absurd b (by omega), fun i e a b => absurd b (by omega), fun k a b => absurd b (by omega)⟩
theorem YN_ed {T : Int → Int} {p q : Int} {s t : YS_} (h : xEd T p s = .inr (q, t)) (v : YN_ s) : YN_ t := by
  obtain ⟨r, st, d, W, A, B, C, P, O⟩ := s
  have h : (if d = 0 then .inl (xEr T p 2) else xBn (xTs T 59 (xEn T p)) fun q => .inr (q, (r + 1, st, d - 1, xUp W r 23, A, B, C, xUp (xUp P r (O (d - 1))) (O (d - 1)) r, O)) : (Int × Int) ⊕ (Int × YS_)) = .inr (q, t) := h
  by_cases k : d = 0
  · rw [if_pos k] at h; cases h
  · rw [if_neg k] at h
    obtain ⟨x, -, h⟩ := xBn_i h
    cases h
    obtain ⟨⟨v1, v2⟩, v3, v4, v5, v6, v7, v8, v9⟩ := v
    obtain ⟨o1, o2, o3⟩ := v4 (d - 1) (by omega) (by omega)
    have vr := v3 r (Int.le_refl _)
    have eW : ∀ j : Int, ¬ j = r → xUp W r 23 j = W j := fun j c => if_neg c
    have eWr : xUp W r 23 r = 23 := if_pos rfl
    have eP : ∀ j : Int, ¬ j = r → ¬ j = O (d - 1) → xUp (xUp P r (O (d - 1))) (O (d - 1)) r j = P j := fun j c c2 => by
      unfold xUp
      rw [if_neg c2, if_neg c]
    have ePr : xUp (xUp P r (O (d - 1))) (O (d - 1)) r r = O (d - 1) := by
      unfold xUp
      rw [if_neg (by omega), if_pos rfl]
    have ePo : xUp (xUp P r (O (d - 1))) (O (d - 1)) r (O (d - 1)) = r := if_pos rfl
    have no23 : ∀ e : Int, W e = 23 → ¬ e = O (d - 1) := fun e c c2 => by rw [c2] at c; omega
    have pne : ∀ e : Int, 0 ≤ e → e < r → W e = 23 → ¬ P e = O (d - 1) ∧ ¬ P e = r := fun e a b c => by
      have w := v6 e a b c
      refine ⟨fun g => ?_, by omega⟩
      have w2 := w.2.1
      rw [g, o3] at w2
      omega
    have old : ∀ e : Int, 0 ≤ e → e < r → W e = 23 → xUp W r 23 e = 23 ∧ xUp (xUp P r (O (d - 1))) (O (d - 1)) r e = P e := fun e a b c => ⟨by rw [eW e (by omega)]; exact c, eP e (by omega) (no23 e c)⟩
    have back : ∀ e : Int, 0 ≤ e → e < r + 1 → xUp W r 23 e = 23 → e = r ∨ (e < r ∧ W e = 23 ∧ xUp (xUp P r (O (d - 1))) (O (d - 1)) r e = P e) := fun e a b c => by
      by_cases g : e = r
      · exact Or.inl g
      · rw [eW e g] at c
        exact Or.inr ⟨by omega, c, eP e g (no23 e c)⟩
    refine ⟨⟨by omega, by omega⟩, fun j hj => ?_, fun i a b => ?_, fun i j a b c => v5 i j a b (by omega), fun e a b c => ?_, fun e f a b c b2 c1 c2 g1 g2 => ?_, fun i e a b c g1 g2 => ?_, fun j a b c => ?_⟩
    · have w := v3 j (by omega)
      exact ⟨by rw [eW j (by omega)]; exact w.1, by rw [eP j (by omega) (by omega)]; exact w.2⟩
    · obtain ⟨w1, w2, w3⟩ := v4 i a (by omega)
      have lt := v5 i (d - 1) a (by omega) (by omega)
      exact ⟨⟨w1.1, by omega⟩, by rw [eW _ (by omega)]; exact w2, by rw [eP _ (by omega) (by omega)]; exact w3⟩
    · rcases back e a b c with g | ⟨g1, g2, g3⟩
      · rw [g, ePr, ePo]
        exact ⟨o1, rfl, by rw [eW _ (by omega)]; exact o2⟩
      · have w := v6 e a g1 g2
        have pn := pne e a g1 g2
        rw [g3, eP _ pn.2 pn.1, eW _ pn.2]
        exact w
    · rcases back e a b c1 with q1 | ⟨q1, q2, q3⟩
      · rcases back f c b2 c2 with k1 | ⟨k1, k2, k3⟩
        · rw [q1, k1] at g1
          omega
        · rw [q1, ePr] at g1 g2
          rw [k3] at g1
          exact absurd ⟨g1, g2⟩ (v8 (d - 1) f (by omega) (by omega) c k1 k2)
      · rcases back f c b2 c2 with k1 | ⟨k1, k2, k3⟩
        · omega
        · rw [q3, k3] at g1
          rw [q3] at g2
          exact v7 e f a q1 c k1 q2 k2 g1 g2
    · rcases back e c g1 g2 with q1 | ⟨q1, q2, q3⟩
      · rw [q1, ePr]
        have lt := v5 i (d - 1) a (by omega) (by omega)
        omega
      · rw [q3]
        exact v8 i e a (by omega) c q1 q2
    · by_cases g : j = r
      · rw [g, eWr] at c; omega
      · rw [eW j g] at c
        by_cases g2 : j = O (d - 1)
        · rw [g2, ePo, ePr, eWr]
          exact Or.inr ⟨⟨by omega, by omega⟩, rfl, rfl⟩
        · rw [eP j g g2]
          rcases v9 j a (by omega) c with ⟨i, i1, i2⟩ | ⟨w1, w2, w3⟩
          · by_cases z : i = d - 1
            · rw [z] at i2; exact absurd i2.symm g2
            · exact Or.inl ⟨i, ⟨i1.1, by omega⟩, i2⟩
          · right
            rw [eW _ (by omega), eP _ (by omega) (no23 _ w2)]
            exact ⟨⟨w1.1, by omega⟩, w2, w3⟩
theorem YN_st {T N : Int → Int} {n p q : Int} {s t : YS_} (h : xSt T N n p s = .inr (q, t)) (v : YN_ s) : YN_ t := by
  obtain ⟨r, st, d, W, A, B, C, P, O⟩ := s
  have h : (if ¬ yIs (xKw T p) then .inl (xEr T p 2) else if 30 ≤ st then .inl (xEr T p 6) else if yOp (xKw T p) ∧ 3 ≤ d then .inl (xEr T p 7) else xBn (xRe T N n (xKw T p) (xEn T p)) fun a => xBn (xTs T 59 a.1) fun q => .inr (q, (r + 1, st + 1, (if yOp (xKw T p) then d + 1 else d), xUp W r (xKw T p), xUp A r a.2.1, xUp B r a.2.2.1, xUp C r a.2.2.2, P, (if yOp (xKw T p) then xUp O d r else O))) : (Int × Int) ⊕ (Int × YS_)) = .inr (q, t) := h
  by_cases k : yIs (xKw T p)
  · rw [if_neg (fun g => g k)] at h
    by_cases k6 : 30 ≤ st
    · rw [if_pos k6] at h; cases h
    · rw [if_neg k6] at h
      by_cases k7 : yOp (xKw T p) ∧ 3 ≤ d
      · rw [if_pos k7] at h; cases h
      · rw [if_neg k7] at h
        obtain ⟨⟨x1, a, b, c⟩, -, h⟩ := xBn_i h
        obtain ⟨y1, -, h⟩ := xBn_i h
        cases h
        obtain ⟨⟨v1, v2⟩, v3, v4, v5, v6, v7, v8, v9⟩ := v
        have kk : xKw T p = 15 ∨ xKw T p = 16 ∨ xKw T p = 17 ∨ xKw T p = 18 ∨ xKw T p = 19 ∨ xKw T p = 22 ∨ xKw T p = 24 := k
        generalize xKw T p = w at kk ⊢
        have vr := v3 r (Int.le_refl _)
        have eW : ∀ j : Int, ¬ j = r → xUp W r w j = W j := fun j c => if_neg c
        have eWr : xUp W r w r = w := if_pos rfl
        have back : ∀ e : Int, 0 ≤ e → e < r + 1 → xUp W r w e = 23 → e < r ∧ W e = 23 := fun e a b c => by
          by_cases g : e = r
          · rw [g, eWr] at c; omega
          · rw [eW e g] at c; exact ⟨by omega, c⟩
        have core : ∀ (d' : Int) (O' : Int → Int), (d' = d ∧ O' = O ∧ ¬ (w = 19 ∨ w = 22)) ∨ (d' = d + 1 ∧ O' = xUp O d r ∧ (w = 19 ∨ w = 22)) → YN_ (r + 1, st + 1, d', xUp W r w, xUp A r a, xUp B r b, xUp C r c, P, O') := fun d' O' hd => by
          have eO : ∀ i : Int, 0 ≤ i → i < d → O' i = O i := fun i a b => by
            rcases hd with ⟨-, q, -⟩ | ⟨-, q, -⟩
            · rw [q]
            · rw [q]; exact if_neg (by omega)
          have eOd : d' = d + 1 → O' d = r ∧ (w = 19 ∨ w = 22) := fun z => by
            rcases hd with ⟨q, -, -⟩ | ⟨-, q, q2⟩
            · omega
            · rw [q]; exact ⟨if_pos rfl, q2⟩
          have dd : d' = d ∨ d' = d + 1 := by
            rcases hd with ⟨q, -⟩ | ⟨q, -⟩
            · exact Or.inl q
            · exact Or.inr q
          refine ⟨⟨by omega, by omega⟩, fun j hj => ?_, fun i i1 i2 => ?_, fun i j i1 i2 i3 => ?_, fun e e1 e2 e3 => ?_, fun e f e1 e2 f1 f2 e3 f3 => ?_, fun i e i1 i2 e1 e2 e3 => ?_, fun j j1 j2 j3 => ?_⟩
          · have z := v3 j (by omega)
            exact ⟨by rw [eW j (by omega)]; exact z.1, z.2⟩
          · by_cases g : i < d
            · rw [eO i i1 g]
              obtain ⟨z1, z2, z3⟩ := v4 i i1 g
              exact ⟨⟨z1.1, by omega⟩, by rw [eW _ (by omega)]; exact z2, z3⟩
            · obtain ⟨z1, z2⟩ := eOd (by omega)
              rw [show i = d by omega, z1, eWr]
              exact ⟨⟨v1, by omega⟩, z2, vr.2⟩
          · by_cases g : j < d
            · rw [eO i i1 (by omega), eO j (by omega) g]
              exact v5 i j i1 i2 g
            · obtain ⟨z1, -⟩ := eOd (by omega)
              rw [eO i i1 (by omega), show j = d by omega, z1]
              exact (v4 i i1 (by omega)).1.2
          · obtain ⟨b1, b2⟩ := back e e1 e2 e3
            obtain ⟨z1, z2, z3⟩ := v6 e e1 b1 b2
            exact ⟨z1, z2, by rw [eW _ (by omega)]; exact z3⟩
          · obtain ⟨b1, b2⟩ := back e e1 e2 e3
            obtain ⟨b3, b4⟩ := back f f1 f2 f3
            exact v7 e f e1 b1 f1 b3 b2 b4
          · obtain ⟨b1, b2⟩ := back e e1 e2 e3
            by_cases g : i < d
            · rw [eO i i1 g]
              exact v8 i e i1 g e1 b1 b2
            · obtain ⟨z1, -⟩ := eOd (by omega)
              rw [show i = d by omega, z1]
              omega
          · by_cases g : j = r
            · rw [g, eWr] at j3
              rcases hd with ⟨-, -, q⟩ | ⟨q, q2, -⟩
              · exact absurd j3 q
              · exact Or.inl ⟨d, ⟨v2, by omega⟩, by rw [(eOd q).1]; exact g.symm⟩
            · rw [eW j g] at j3
              rcases v9 j j1 (by omega) j3 with ⟨i, i1, i2⟩ | ⟨z1, z2, z3⟩
              · exact Or.inl ⟨i, ⟨i1.1, by omega⟩, by rw [eO i i1.1 i1.2]; exact i2⟩
              · exact Or.inr ⟨⟨z1.1, by omega⟩, by rw [eW _ (by omega)]; exact z2, z3⟩
        by_cases o : w = 19 ∨ w = 22
        · have o2 : yOp w := o
          rw [if_pos o2, if_pos o2]
          exact core _ _ (Or.inr ⟨rfl, rfl, o⟩)
        · have o2 : ¬ yOp w := o
          rw [if_neg o2, if_neg o2]
          exact core _ _ (Or.inl ⟨rfl, rfl, o⟩)
  · rw [if_pos k] at h; cases h
theorem YN_yp {T N : Int → Int} {n p q : Int} {s t : YS_} (h : xYp T N n p s = .inr (q, t)) (v : YN_ s) : YN_ t := by
  unfold xYp at h
  by_cases c : xKw T p = 23
  · rw [if_pos c] at h; exact YN_ed h v
  · rw [if_neg c] at h; exact YN_st h v
theorem YN_ya {T N : Int → Int} {n : Int} : ∀ (k : Nat) (p q : Int) (s t : YS_), xYa T N n k p s = .inr (q, t) → YN_ s → YN_ t
  | 0, p, q, s, t, h, v => by cases h
  | k + 1, p, q, s, t, h, v => by
    have h : (if xKd T p = 0 then .inr (p, s) else xBn (xYp T N n p s) fun a => xYa T N n k a.1 a.2 : (Int × Int) ⊕ (Int × YS_)) = .inr (q, t) := h
    by_cases c : xKd T p = 0
    · rw [if_pos c] at h; cases h; exact v
    · rw [if_neg c] at h
      obtain ⟨⟨x1, x2⟩, s1, h⟩ := xBn_i h
      exact YN_ya k x1 q x2 t h (YN_yp s1 v)
/-- YEARS whose steps stand in one another as they should -/
def nsP (P : PR_) : Prop := (∀ e : Int, 0 ≤ e → e < P.1 → P.2.1 e = 23 → (0 ≤ P.2.2.2.2.2 e ∧ P.2.2.2.2.2 e < e) ∧ P.2.2.2.2.2 (P.2.2.2.2.2 e) = e ∧ (P.2.1 (P.2.2.2.2.2 e) = 19 ∨ P.2.1 (P.2.2.2.2.2 e) = 22)) ∧ (∀ e f : Int, 0 ≤ e → e < P.1 → 0 ≤ f → f < P.1 → P.2.1 e = 23 → P.2.1 f = 23 → P.2.2.2.2.2 f < P.2.2.2.2.2 e → P.2.2.2.2.2 e < f → e < f) ∧ ∀ k : Int, 0 ≤ k → k < P.1 → (P.2.1 k = 19 ∨ P.2.1 k = 22) → (k < P.2.2.2.2.2 k ∧ P.2.2.2.2.2 k < P.1) ∧ P.2.1 (P.2.2.2.2.2 k) = 23 ∧ P.2.2.2.2.2 (P.2.2.2.2.2 k) = k
theorem nsP_of {T N : Int → Int} {n : Int} {s : YS_} (h : xYrs T N n = .inr s) (hd : s.2.2.1 = 0) : nsP (pOf s) := by
  unfold xYrs at h
  obtain ⟨⟨x1, x2⟩, s1, h⟩ := xBn_i h
  have v := YN_ya 1000 0 x1 yS0 x2 s1 YN_0
  by_cases c : 0 < x2.2.2.1
  · have h : (if 0 < x2.2.2.1 then .inl (xEr T x1 2) else .inr x2 : (Int × Int) ⊕ YS_) = .inr s := h
    rw [if_pos c] at h; cases h
  · have h : (if 0 < x2.2.2.1 then .inl (xEr T x1 2) else .inr x2 : (Int × Int) ⊕ YS_) = .inr s := h
    rw [if_neg c] at h
    cases h
    obtain ⟨r, st, d, W, A, B, C, P, O⟩ := s
    obtain ⟨⟨v1, v2⟩, v3, v4, v5, v6, v7, v8, v9⟩ := v
    have hd : d = 0 := hd
    refine ⟨v6, v7, fun k a b c => ?_⟩
    rcases v9 k a b c with ⟨i, i1, -⟩ | w
    · omega
    · exact w
/-- what is left of the class's loops -/
def cQ (f : Nat → Int32) : Int → Int := cut 60 (fun o => if 1 ≤ gz f o then gz f o - 1 else 0)
def inL (P : PR_) (k : Int) (f : Nat → Int32) : Prop := (∀ o : Int, 0 ≤ o → o < 60 → 0 ≤ gz f o ∧ gz f o ≤ 99) ∧ ∀ e : Int, 0 ≤ e → e < P.1 → P.2.1 e = 23 → P.2.1 (P.2.2.2.2.2 e) = 22 → P.2.2.2.2.2 e < k → k ≤ e → 1 ≤ gz f (P.2.2.2.2.2 e)
theorem cQ_c {f : Nat → Int32} {o : Int} (ho : 0 ≤ o ∧ o < 60) : (1 ≤ gz f o ∧ cQ f o = gz f o - 1) ∨ (¬ 1 ≤ gz f o ∧ cQ f o = 0) := by
  have e : cQ f o = if 1 ≤ gz f o then gz f o - 1 else 0 := cut_in ho
  by_cases c : 1 ≤ gz f o
  · rw [if_pos c] at e; exact Or.inl ⟨c, e⟩
  · rw [if_neg c] at e; exact Or.inr ⟨c, e⟩
theorem cQ_ok {P : PR_} {k : Int} {f : Nat → Int32} (h : inL P k f) : okQ (cQ f) := fun o a b => by
  have c := cQ_c (f := f) ⟨a, b⟩
  have d := h.1 o a b
  omega
theorem cQ_up {f f' : Nat → Int32} {b v : Int} (hb : 0 ≤ b ∧ b < 60) (h : f' = upd f (iZ b).toNatClampNeg (iZ v)) (hv : -2147483648 ≤ v ∧ v < 2147483648) : cQ f' = xUp (cQ f) b (if 1 ≤ v then v - 1 else 0) := by
  refine cut_set (F := fun o => if 1 ≤ gz f o then gz f o - 1 else 0) hb ?_ (fun e p q c => ?_)
  · show (if 1 ≤ gz f' b then gz f' b - 1 else 0) = _
    rw [gz_up h ⟨by omega, by omega⟩ hv hb.1, if_pos rfl]
  · show (if 1 ≤ gz f' e then gz f' e - 1 else 0) = if 1 ≤ gz f e then gz f e - 1 else 0
    rw [gz_up h ⟨by omega, by omega⟩ hv p, if_neg c]
theorem xUp_id {F : Int → Int} {b v : Int} (h : F b = v) : xUp F b v = F := by
  funext e
  unfold xUp
  by_cases c : e = b
  · rw [if_pos c, c]; exact h.symm
  · rw [if_neg c]
theorem inL_0 {P : PR_} {f : Nat → Int32} (hs : nsP P) (h : ∀ o : Int, 0 ≤ o → o < 60 → 0 ≤ gz f o ∧ gz f o ≤ 99) : inL P 0 f := ⟨h, fun e a b c _ d _ => by have := (hs.1 e a b c).1; omega⟩
theorem inL_fin {P : PR_} {k j : Int} {f : Nat → Int32} (h : inL P k f) (hj : P.1 ≤ j) : inL P j f := ⟨h.1, fun e a b c d g i => absurd b (by omega)⟩
theorem inL_step {P : PR_} {k : Int} {f : Nat → Int32} (h : inL P k f) (h1 : ¬ P.2.1 k = 22) : inL P (k + 1) f := ⟨h.1, fun e a b c d g i => by
  by_cases q : P.2.2.2.2.2 e = k
  · rw [q] at d; exact absurd d h1
  · exact h.2 e a b c d (by omega) (by omega)⟩
theorem inL_loop {P : PR_} {k a : Int} {f f' : Nat → Int32} (h : inL P k f) (hk : 0 ≤ k ∧ k < 60) (ha : 1 ≤ a ∧ a ≤ 99) (hf : f' = upd f (iZ k).toNatClampNeg (iZ a)) (hs : nsP P) : inL P (k + 1) f' ∧ cQ f' = xUp (cQ f) k (a - 1) := by
  have u := fun j hj => gz_upc (j := j) hf ⟨by omega, by omega⟩ ⟨by omega, by omega⟩ hj
  refine ⟨⟨fun o p q => by have := u o p; have := h.1 o p q; omega, fun e p q c d g i => ?_⟩, ?_⟩
  · have p0 := (hs.1 e p q c).1
    have := u (P.2.2.2.2.2 e) p0.1
    by_cases z : P.2.2.2.2.2 e = k
    · omega
    · have := h.2 e p q c d (by omega) (by omega)
      omega
  · rw [cQ_up hk hf ⟨by omega, by omega⟩, if_pos ha.1]
theorem inL_when {P : PR_} {k : Int} {f : Nat → Int32} (h : inL P k f) (hs : nsP P) (hk : 0 ≤ k ∧ k < P.1) (hw : P.2.1 k = 19) : inL P (P.2.2.2.2.2 k + 1) f := by
  obtain ⟨n1, n2, n3⟩ := hs
  obtain ⟨k1, k2, k3⟩ := n3 k hk.1 hk.2 (Or.inl hw)
  refine ⟨h.1, fun e p q c d g i => ?_⟩
  have e1 := n1 e p q c
  have b1 : ¬ P.2.2.2.2.2 e = P.2.2.2.2.2 k := fun z => by rw [z, k2] at d; omega
  have b2 : ¬ P.2.2.2.2.2 e = k := fun z => by rw [z, hw] at d; omega
  have b3 : ¬ k < P.2.2.2.2.2 e := fun z => by
    have := n2 e (P.2.2.2.2.2 k) p q (by omega) (by omega) c k2 (by rw [k3]; exact z) (by omega)
    omega
  exact h.2 e p q c d (by omega) (by omega)
theorem inL_end {P : PR_} {k : Int} {f : Nat → Int32} (h : inL P k f) (hs : nsP P) (hk : 0 ≤ k ∧ k < P.1) (hw : P.2.1 k = 23) (hb : ¬ P.2.1 (P.2.2.2.2.2 k) = 22) : inL P (k + 1) f := by
  obtain ⟨n1, n2, n3⟩ := hs
  have k1 := n1 k hk.1 hk.2 hw
  refine ⟨h.1, fun e p q c d g i => ?_⟩
  have b1 : ¬ P.2.2.2.2.2 e = k := fun z => by rw [z, hw] at d; omega
  exact h.2 e p q c d (by omega) (by omega)
theorem inL_end2 {P : PR_} {k v : Int} {f f' : Nat → Int32} (h : inL P k f) (hs : nsP P) (hk : 0 ≤ k ∧ k < P.1) (h60 : P.1 ≤ 60) (hw : P.2.1 k = 23) (hb : P.2.1 (P.2.2.2.2.2 k) = 22) (hf : f' = upd f (iZ (P.2.2.2.2.2 k)).toNatClampNeg (iZ v)) (hv : v = gz f (P.2.2.2.2.2 k) - 1) : (0 ≤ v ∧ v ≤ 98) ∧ (0 < v → inL P (P.2.2.2.2.2 k + 1) f' ∧ 0 < cQ f (P.2.2.2.2.2 k) ∧ cQ f' = xUp (cQ f) (P.2.2.2.2.2 k) (cQ f (P.2.2.2.2.2 k) - 1)) ∧ (¬ 0 < v → inL P (k + 1) f' ∧ ¬ 0 < cQ f (P.2.2.2.2.2 k) ∧ cQ f' = cQ f) := by
  obtain ⟨n1, n2, n3⟩ := id hs
  obtain ⟨k1, k2, k3⟩ := n1 k hk.1 hk.2 hw
  have r1 := h.2 k hk.1 hk.2 hw hb (by omega) (Int.le_refl _)
  have r2 := h.1 (P.2.2.2.2.2 k) (by omega) (by omega)
  have u := fun j hj => gz_upc (j := j) hf ⟨by omega, by omega⟩ ⟨by omega, by omega⟩ hj
  have rg : ∀ o : Int, 0 ≤ o → o < 60 → 0 ≤ gz f' o ∧ gz f' o ≤ 99 := fun o p q => by have := u o p; have := h.1 o p q; omega
  have cq := cQ_c (f := f) (o := P.2.2.2.2.2 k) ⟨by omega, by omega⟩
  have cu := cQ_up (f := f) (f' := f') (b := P.2.2.2.2.2 k) ⟨by omega, by omega⟩ hf ⟨by omega, by omega⟩
  refine ⟨by omega, fun z => ⟨⟨rg, fun e p q c d g i => ?_⟩, by omega, ?_⟩, fun z => ⟨⟨rg, fun e p q c d g i => ?_⟩, by omega, ?_⟩⟩
  · have e1 := n1 e p q c
    have := u (P.2.2.2.2.2 e) e1.1.1
    by_cases b1 : P.2.2.2.2.2 e = P.2.2.2.2.2 k
    · omega
    · have le : k ≤ e := by
        by_cases y : k ≤ e
        · exact y
        · have := n2 k e hk.1 hk.2 p q hw c (by omega) (by omega)
          omega
      have := h.2 e p q c d (by omega) le
      omega
  · rw [cu, if_pos (by omega)]
    congr 1
    omega
  · have e1 := n1 e p q c
    have := u (P.2.2.2.2.2 e) e1.1.1
    have b0 : ¬ P.2.2.2.2.2 e = k := fun y => by rw [y, hw] at d; omega
    have b1 : ¬ P.2.2.2.2.2 e = P.2.2.2.2.2 k := fun y => by
      have x1 := e1.2.1
      rw [y, k2] at x1
      omega
    have b2 : ¬ P.2.2.2.2.2 k < P.2.2.2.2.2 e := fun y => by
      have := n2 e k p q hk.1 hk.2 c hw y (by omega)
      omega
    have := h.2 e p q c d (by omega) (by omega)
    omega
  · rw [cu, if_neg (by omega)]
    exact xUp_id (by omega)
theorem cL_pl {e : EV_} {wk od wk' a : Int} {wf gf sf wf' : Nat → Int32} (h : (wk', cut (wk' + 1) (gz wf')) = psF e a (wk, cut (wk + 1) (gz wf))) : plF e a (cL wk od wf gf sf) = cL wk' od wf' gf sf := by
  show ((psF e a (wk, cut (wk + 1) (gz wf))).1, od, (psF e a (wk, cut (wk + 1) (gz wf))).2, cut od (gz gf), cut od (gz sf)) = _
  rw [← h]
  rfl
theorem cL_ch {f g wf gf sf wf' : Nat → Int32} {n ni lw wk od d c : Int} (hw : 0 ≤ wk ∧ wk ≤ 400) (h1 : gz wf' wk = chX d c (gz wf wk) n.toNat) (h2 : ∀ e : Int, 0 ≤ e → e ≤ 400 → ¬ e = wk → gz wf' e = gz wf e) : cL wk od wf' gf sf = chF (eC f g n ni lw) d c (cL wk od wf gf sf) := by
  show (wk, od, cut (wk + 1) (gz wf'), cut od (gz gf), cut od (gz sf)) = (wk, od, xUp (cut (wk + 1) (gz wf)) wk (chX d c (cut (wk + 1) (gz wf) wk) n.toNat), cut od (gz gf), cut od (gz sf))
  rw [cut_in (F := gz wf) (show 0 ≤ wk ∧ wk < wk + 1 by omega), cut_set (F := gz wf) (i := wk) ⟨by omega, by omega⟩ h1 (fun k p q c => h2 k p (by omega) c)]
theorem hoZ_c {f g wf gf sf : Nat → Int32} {n ni lw wk od a b c : Int} (hw : 0 ≤ wk ∧ wk ≤ 400) (ht : yTst n a b c) (hr : a = 20 → ¬ ruF (eC f g n ni lw) (cL wk od wf gf sf) c wk = -1 → 0 ≤ ruF (eC f g n ni lw) (cL wk od wf gf sf) c wk ∧ ruF (eC f g n ni lw) (cL wk od wf gf sf) c wk < od) : (a = 7 ∧ ((hoZ (eC f g n ni lw) (cL wk od wf gf sf) a b c = 1 ∧ wB (gz wf wk) b = 1) ∨ (hoZ (eC f g n ni lw) (cL wk od wf gf sf) a b c = 0 ∧ ¬ wB (gz wf wk) b = 1))) ∨ (a = 20 ∧ ((hoZ (eC f g n ni lw) (cL wk od wf gf sf) a b c = 1 ∧ ¬ ruF (eC f g n ni lw) (cL wk od wf gf sf) c wk = -1 ∧ gz gf (ruF (eC f g n ni lw) (cL wk od wf gf sf) c wk) = b) ∨ (hoZ (eC f g n ni lw) (cL wk od wf gf sf) a b c = 0 ∧ (ruF (eC f g n ni lw) (cL wk od wf gf sf) c wk = -1 ∨ ¬ gz gf (ruF (eC f g n ni lw) (cL wk od wf gf sf) c wk) = b)))) ∨ (a = 15 ∧ ((hoZ (eC f g n ni lw) (cL wk od wf gf sf) a b c = 1 ∧ ((b = 60 ∧ wk < c) ∨ (b = 62 ∧ wk > c) ∨ (¬ b = 60 ∧ ¬ b = 62 ∧ wk = c))) ∨ (hoZ (eC f g n ni lw) (cL wk od wf gf sf) a b c = 0 ∧ ((b = 60 ∧ ¬ wk < c) ∨ (b = 62 ∧ ¬ wk > c) ∨ (¬ b = 60 ∧ ¬ b = 62 ∧ ¬ wk = c))))) := by
  have eW : (cL wk od wf gf sf).2.2.1 (cL wk od wf gf sf).1 = gz wf wk := cut_in (F := gz wf) (show 0 ≤ wk ∧ wk < wk + 1 by omega)
  by_cases h : hoP (eC f g n ni lw) (cL wk od wf gf sf) a b c
  · rw [hoZ_y h]
    rcases h with ⟨h1, h2⟩ | ⟨h1, h2, h3⟩ | ⟨h1, h2⟩
    · rw [eW] at h2
      exact Or.inl ⟨h1, Or.inl ⟨rfl, h2⟩⟩
    · have h2 : ¬ ruF (eC f g n ni lw) (cL wk od wf gf sf) c wk = -1 := h2
      have r := hr h1 h2
      have e3 : (cL wk od wf gf sf).2.2.2.1 (ruF (eC f g n ni lw) (cL wk od wf gf sf) c wk) = gz gf (ruF (eC f g n ni lw) (cL wk od wf gf sf) c wk) := cut_in r
      have h3 : (cL wk od wf gf sf).2.2.2.1 (ruF (eC f g n ni lw) (cL wk od wf gf sf) c wk) = b := h3
      rw [e3] at h3
      exact Or.inr (Or.inl ⟨h1, Or.inl ⟨rfl, h2, h3⟩⟩)
    · have h2 : (b = 60 ∧ wk < c) ∨ (b = 62 ∧ wk > c) ∨ ((¬ b = 60 ∧ ¬ b = 62) ∧ wk = c) := h2
      rcases ht with ⟨t, -⟩ | ⟨t, -⟩ | ⟨t, -⟩
      · refine Or.inr (Or.inr ⟨t, Or.inl ⟨rfl, ?_⟩⟩)
        rcases h2 with q | q | ⟨q, q2⟩
        · exact Or.inl q
        · exact Or.inr (Or.inl q)
        · exact Or.inr (Or.inr ⟨q.1, q.2, q2⟩)
      · exact absurd t h1.1
      · exact absurd t h1.2
  · rw [hoZ_n h]
    have k1 : a = 7 → ¬ wB (gz wf wk) b = 1 := fun q z => h (Or.inl ⟨q, by rw [eW]; exact z⟩)
    have k2 : a = 20 → ¬ (¬ ruF (eC f g n ni lw) (cL wk od wf gf sf) c wk = -1 ∧ gz gf (ruF (eC f g n ni lw) (cL wk od wf gf sf) c wk) = b) := fun q z => h (Or.inr (Or.inl ⟨q, z.1, by
      have e3 : (cL wk od wf gf sf).2.2.2.1 (ruF (eC f g n ni lw) (cL wk od wf gf sf) c wk) = gz gf (ruF (eC f g n ni lw) (cL wk od wf gf sf) c wk) := cut_in (hr q z.1)
      exact e3.trans z.2⟩))
    have k3 : a = 15 → ¬ ((b = 60 ∧ wk < c) ∨ (b = 62 ∧ wk > c) ∨ ((¬ b = 60 ∧ ¬ b = 62) ∧ wk = c)) := fun q z => h (Or.inr (Or.inr ⟨⟨by omega, by omega⟩, z⟩))
    rcases ht with ⟨t, t2, -⟩ | ⟨t, -⟩ | ⟨t, -⟩
    · have := k3 t
      exact Or.inr (Or.inr ⟨t, Or.inr ⟨rfl, by omega⟩⟩)
    · exact Or.inl ⟨t, Or.inr ⟨rfl, k1 t⟩⟩
    · have := k2 t
      refine Or.inr (Or.inl ⟨t, Or.inr ⟨rfl, ?_⟩⟩)
      by_cases y : ruF (eC f g n ni lw) (cL wk od wf gf sf) c wk = -1
      · exact Or.inl y
      · exact Or.inr (fun z => this ⟨y, z⟩)
theorem ruF_rg {e : EV_} {L : LS_} {r w : Int} (h : 0 ≤ L.2.1) : ruF e L r w = -1 ∨ (0 ≤ ruF e L r w ∧ ruF e L r w < L.2.1) := by
  have a := rlF_rg (e := e) (L := L) (r := r) (w := w) L.2.1.toNat
  unfold ruF
  omega
theorem rs_eq {k k' d d' st st' ms ms' we we' tu tu' o0 o0' le le' : Int} {L L' : LS_} {q q' : Int → Int} (h1 : k = k') (h2 : L = L') (h3 : q = q') (h4 : d = d') (h5 : st = st') (h6 : ms = ms') (h7 : we = we') (h8 : tu = tu') (h9 : o0 = o0') (h10 : le = le') : ((k, L, q, d, st, ms, we, tu, o0, le) : RS_) = (k', L', q', d', st', ms', we', tu', o0', le') := by
  subst h1 h2 h3 h4 h5 h6 h7 h8 h9 h10
  rfl
/-- a step adds 98 to what is left of loops at most -/
theorem yT_q {e : EV_} {P : PR_} {k j d d' st st' ms we tu o0 ms' we' tu' o0' n : Int} {L L' : LS_} {q q' : Int → Int} (hq : okQ q) (hk : 0 ≤ k ∧ k < P.1) (hP : okR n P) (h : yT e P (k, L, q, d, st, ms, we, tu, o0, 0) = (j, L', q', d', st', ms', we', tu', o0', 0)) : smQ q' 60 ≤ smQ q 60 + 98 := by
  have e2 : (yT e P (k, L, q, d, st, ms, we, tu, o0, 0)).2.2.1 = q' := by rw [h]
  have key : q' = q ∨ (P.2.1 k = 22 ∧ q' = xUp q k (P.2.2.1 k - 1)) := by
    rw [← e2]
    by_cases c15 : P.2.1 k = 15
    · rw [yT_15 c15]; exact Or.inl rfl
    · by_cases c16 : P.2.1 k = 16
      · rw [yT_16 c16]; exact Or.inl rfl
      · by_cases c17 : P.2.1 k = 17
        · rw [yT_17 c17]
          by_cases y : L.2.1 < 20
          · rw [if_pos y]; exact Or.inl rfl
          · rw [if_neg y]; exact Or.inl rfl
        · by_cases c18 : P.2.1 k = 18
          · rw [yT_18 c18]; exact Or.inl rfl
          · by_cases c19 : P.2.1 k = 19
            · rw [yT_19 c19]; exact Or.inl rfl
            · by_cases c22 : P.2.1 k = 22
              · rw [yT_22 c22]; exact Or.inr ⟨c22, rfl⟩
              · rw [yT_24 ⟨c15, c16, c17, c18, c19, c22⟩]; exact Or.inl rfl
  rcases key with c | ⟨c, c2⟩
  · rw [c]; omega
  · have a := (hP.1.2.2 k hk.1 hk.2).1 c
    have b := hq k hk.1 (by have := hP.1.1; omega)
    rw [c2, smQ_up q 60 hk.1]
    split <;> omega
/-- what a row of the class holds -/
theorem row_of {w a b c p : Nat → Int32} {yr n r : Int} {P : PR_} (h : yCM w a b c p yr P) (k : okR n P) (hn : n ≤ 6) (hr : 0 ≤ r ∧ r < yr) : gz w r = P.2.1 r ∧ (yIs (P.2.1 r) ∨ P.2.1 r = 23) ∧ yNum n (P.2.1 r) (P.2.2.1 r) (P.2.2.2.1 r) (P.2.2.2.2.1 r) ∧ (P.2.1 r = 23 ∨ P.2.1 r = 19 → (0 ≤ P.2.2.2.2.2 r ∧ P.2.2.2.2.2 r < P.1) ∧ gz p r = P.2.2.2.2.2 r) ∧ (¬ P.2.2.1 r = -1 → gz a r = P.2.2.1 r) ∧ (¬ P.2.2.2.1 r = -1 → gz b r = P.2.2.2.1 r) ∧ (¬ P.2.2.2.2.1 r = -1 → gz c r = P.2.2.2.2.1 r) := by
  obtain ⟨h0, hw, ha, hb, hc, hp⟩ := h
  obtain ⟨k0, k1, k2⟩ := k
  have hr2 : r < P.1 := by omega
  obtain ⟨w1, w2, w3, w4⟩ := k2 r hr.1 hr2
  have hw1 : ¬ P.2.1 r = -1 := by
    rcases w1 with q | q
    · have q : P.2.1 r = 15 ∨ P.2.1 r = 16 ∨ P.2.1 r = 17 ∨ P.2.1 r = 18 ∨ P.2.1 r = 19 ∨ P.2.1 r = 22 ∨ P.2.1 r = 24 := q
      omega
    · omega
  refine ⟨hw r hr.1 hr2 hw1, w1, w2, fun e => ?_, ha r hr.1 hr2, hb r hr.1 hr2, hc r hr.1 hr2⟩
  have pr : 0 ≤ P.2.2.2.2.2 r ∧ P.2.2.2.2.2 r < P.1 := by
    rcases e with e | e
    · exact w3 e
    · rcases w4 e with g | ⟨i, i1, -⟩
      · exact g
      · omega
  exact ⟨pr, hp r hr.1 hr2 (by omega)⟩
end

section
set_option maxHeartbeats 4000000 in
set_option maxRecDepth 100000 in
theorem x_giveOrder (l : Launch) (D : va_G) (k : Nat → ClassId) (hL : Nat) (hw1 : Nat) (h : Nat) (hn1 : Nat) (fs : List Value) (hs : Nat) (hf : Nat) (hg : Nat) (hc : Nat) (hy : Nat) (n : Int) (ni : Int) (lw : Int) (f : Nat → Int32) (g : Nat → Int32) (ro : Nat) (cw : Nat) (cg : Nat) (cs : Nat) (ck : Nat) (kn : Nat) (te : Nat) (ho : Nat) (co : Nat) (yw : Nat) (y1 : Nat) (y2 : Nat) (y3 : Nat) (yp : Nat) (dr : Int) (st : Int) (mi : Int) (we : Int) (tu : Int) (o0 : Int) (le : Int) (th : Int) (ys : Int) (yr : Int) (wk : Int) (od : Int) (kf : Nat → Int32) (tf : Nat → Int32) (hf2 : Nat → Int32) (wf : Nat → Int32) (gf : Nat → Int32) (sf : Nat → Int32) (kf0 : Nat → Int32) (rof : Nat → Int32) (cof : Nat → Int32) (ywf : Nat → Int32) (y1f : Nat → Int32) (y2f : Nat → Int32) (y3f : Nat → Int32) (ypf : Nat → Int32) (a : Int) (r0 : Ry) (hRT : RT k (RX f g n ni) r0) (f1 : fs[1]? = some (.ref hf)) (f2 : fs[2]? = some (.ref hg)) (f3 : fs[3]? = some (.int (iZ n))) (f4 : fs[4]? = some (.int (iZ ni))) (f5 : fs[5]? = some (.int (iZ lw))) (hn : n ≤ 6) (hx0 : FXI f n) (hni : 0 ≤ ni ∧ ni ≤ 8) (hn0 : 0 ≤ n) (hlw : -2147483648 ≤ lw ∧ lw < 2147483648) (hyr : 0 ≤ yr ∧ yr ≤ 60) (rgk : rgI kf (-1) 420 6) (rgt : rgI tf (-1) 5 6) (hwk : 0 ≤ wk ∧ wk ≤ 400) (hod : 0 ≤ od ∧ od ≤ 20) (rgg0 : rgI gf 0 (n - 1) od) (hdr : 0 ≤ dr ∧ dr ≤ 65535) (hYI : YI ywf y1f y3f ypf n yr) (hKN : KNC f g n ni od gf sf kf0) (q_a : 0 ≤ a ∧ a < n) : XD (σ := (Ry × (Int × Int) × (Int64) × ((Nat → Int32) × (Nat → Int32) × (Nat → Int32) × (Nat → Int32) × (Nat → Int32) × (Nat → Int32) × (Nat → Int32)) × (Unit))) l yX1_giveOrder cX1_giveOrder 4 (some .int) 4 r0 D k [.ref hL, .int (iZ a)] [(hL, .inr (1, [.ref hw1, .ref h, .ref hn1, .ref ro, .int (iZ dr), .int (iZ st), .int (iZ mi), .int (iZ we), .int (iZ tu), .int (iZ o0), .int (iZ le)])), (hw1, .inr (8, [.ref hs, .ref hc, .ref hy])), (hc, .inr (0, [.ref cw, .ref cg, .ref cs, .ref ck, .int (iZ wk), .int (iZ od)])), (cw, .inl (k 1, 401, .inl wf)), (cg, .inl (k 1, 20, .inl gf)), (cs, .inl (k 1, 20, .inl sf)), (ck, .inl (k 1, 120, .inl kf0)), (h, .inr (3, [.ref hs, .long r0.op, r0.vA, r0.vL])), (hn1, .inr (2, [.ref hs, .ref h, .ref kn, .ref te, .ref ho, .ref co])), (kn, .inl (k 1, 6, .inl kf)), (te, .inl (k 1, 6, .inl tf)), (ho, .inl (k 1, 6, .inl hf2)), (co, .inl (k 1, 126, .inl cof)), (ro, .inl (k 1, 60, .inl rof)), (hs, .inr (5, fs)), (hf, .inl (k 1, 36, .inl f)), (hg, .inl (k 1, 32, .inl g)), (hy, .inr (9, [.ref yw, .ref y1, .ref y2, .ref y3, .ref yp, .int (iZ th), .int (iZ ys), .int (iZ yr)])), (yw, .inl (k 1, 60, .inl ywf)), (y1, .inl (k 1, 60, .inl y1f)), (y2, .inl (k 1, 60, .inl y2f)), (y3, .inl (k 1, 60, .inl y3f)), (yp, .inl (k 1, 60, .inl ypf))] (fun u => u.1) (fun u => some (.int (iZ u.2.1.1))) (fun u => ((od < 20 ∧ u.2.1.1 = od ∧ u.2.1.2 = od + 1 ∧ (cL wk u.2.1.2 wf u.2.2.2.1.2.2.2.1 u.2.2.2.1.2.2.2.2.1) = odF a (cL wk od wf gf sf)) ∨ (¬ od < 20 ∧ u.2.1.1 = -1 ∧ u.2.1.2 = od ∧ (cL wk u.2.1.2 wf u.2.2.2.1.2.2.2.1 u.2.2.2.1.2.2.2.2.1) = (cL wk od wf gf sf))) ∧ (KNC f g n ni u.2.1.2 u.2.2.2.1.2.2.2.1 u.2.2.2.1.2.2.2.2.1 u.2.2.2.1.2.2.2.2.2.1) ∧ (0 ≤ u.2.1.2 ∧ u.2.1.2 ≤ 20) ∧ (rgI u.2.2.2.1.1 (-1) 420 6) ∧ (rgI u.2.2.2.1.2.1 (-1) 5 6) ∧ (rgI u.2.2.2.1.2.2.2.1 0 (n - 1) u.2.1.2) ∧ (RT k (RX f g n ni) u.1)) (fun u => [(hL, .inr (1, [.ref hw1, .ref h, .ref hn1, .ref ro, .int (iZ dr), .int (iZ st), .int (iZ mi), .int (iZ we), .int (iZ tu), .int (iZ o0), .int (iZ le)])), (hw1, .inr (8, [.ref hs, .ref hc, .ref hy])), (hc, .inr (0, [.ref cw, .ref cg, .ref cs, .ref ck, .int (iZ wk), .int (iZ u.2.1.2)])), (cw, .inl (k 1, 401, .inl wf)), (cg, .inl (k 1, 20, .inl u.2.2.2.1.2.2.2.1)), (cs, .inl (k 1, 20, .inl u.2.2.2.1.2.2.2.2.1)), (ck, .inl (k 1, 120, .inl u.2.2.2.1.2.2.2.2.2.1)), (h, .inr (3, [.ref hs, .long u.1.op, u.1.vA, u.1.vL])), (hn1, .inr (2, [.ref hs, .ref h, .ref kn, .ref te, .ref ho, .ref co])), (kn, .inl (k 1, 6, .inl u.2.2.2.1.1)), (te, .inl (k 1, 6, .inl u.2.2.2.1.2.1)), (ho, .inl (k 1, 6, .inl u.2.2.2.1.2.2.1)), (co, .inl (k 1, 126, .inl u.2.2.2.1.2.2.2.2.2.2)), (ro, .inl (k 1, 60, .inl rof)), (hs, .inr (5, fs)), (hf, .inl (k 1, 36, .inl f)), (hg, .inl (k 1, 32, .inl g)), (hy, .inr (9, [.ref yw, .ref y1, .ref y2, .ref y3, .ref yp, .int (iZ th), .int (iZ ys), .int (iZ yr)])), (yw, .inl (k 1, 60, .inl ywf)), (y1, .inl (k 1, 60, .inl y1f)), (y2, .inl (k 1, 60, .inl y2f)), (y3, .inl (k 1, 60, .inl y3f)), (yp, .inl (k 1, 60, .inl ypf))]) := by
  refine MX (by decide) (Nat.le_of_ble_eq_true rfl) (fun p e s m below meth c ls A hx hb hml hr hlocks hin hts hown hKK hP hD hS hA hl => ?_)
  have hK := hKK.1
  have hl : lv_has ls 4 [(0, .ref hL), (1, .int (iZ a))] := hl
  refine lv_aload_n hx hb dX1_giveOrder_0 rfl (lv_at hl 0 rfl) ?_
  refine va_get (D := D) (ci := 1) (v := .ref hw1) (C := RX1) (T := TX1) (N := 11) hx hb hts iX1 hown hK hP 0 rfl rfl 0 (bl rfl) (hts _ qf_X1_17) (fun _ h => h) rfl dX1_giveOrder_1 ?_
  refine va_get (D := D) (ci := 8) (v := .ref hc) (C := RX8) (T := TX8) (N := 3) hx hb hts iX8 hown hK hP 1 rfl rfl 1 (bl rfl) (hts _ qf_X1_29) (fun _ h => h) rfl dX1_giveOrder_4 ?_
  refine lv_astore_n (lv' := [(2, .ref hc), (0, .ref hL), (1, .int (iZ a))]) hx hb dX1_giveOrder_7 rfl hl (bl rfl) rfl (fun ls hl => ?_)
  refine lv_aload_n hx hb dX1_giveOrder_8 rfl (lv_at hl 0 rfl) ?_
  refine va_get (D := D) (ci := 0) (v := .int (iZ od)) (C := RX0) (T := TX0) (N := 6) hx hb hts iX0 hown hK hP 2 rfl rfl 5 (bl rfl) (hts _ qf_X1_67) (fun _ h => h) rfl dX1_giveOrder_9 ?_
  refine lv_istore_n (lv' := [(3, .int (iZ od)), (2, .ref hc), (0, .ref hL), (1, .int (iZ a))]) hx hb dX1_giveOrder_12 rfl hl (bl rfl) rfl (fun ls hl => ?_)
  refine lv_iload_n hx hb dX1_giveOrder_13 rfl (lv_at hl 0 rfl) ?_
  refine lv_bipush (v := iZ 20) hx hb dX1_giveOrder_14 bip_20 ?_
  refine lv_icmp_lt (tgt := 21) hx hb dX1_giveOrder_16 rfl (fun c_1 => ?_) (fun c_1 => ?_)
  ·
    have c_1 := (zlt (x := iZ od) (y := iZ 20) rfl rfl ⟨by omega, by omega⟩ wn_20).mp c_1
    refine lv_aload_n hx hb dX1_giveOrder_21 rfl (lv_at hl 2 rfl) ?_
    refine va_get (D := D) (ci := 1) (v := .ref hn1) (C := RX1) (T := TX1) (N := 11) hx hb hts iX1 hown hK hP 0 rfl rfl 2 (bl rfl) (hts _ qf_X1_25) (fun _ h => h) rfl dX1_giveOrder_22 ?_
    refine lv_iload_n hx hb dX1_giveOrder_25 rfl (lv_at hl 3 rfl) ?_
    refine lv_aload_n hx hb dX1_giveOrder_26 rfl (lv_at hl 1 rfl) ?_
    refine va_get (D := D) (ci := 0) (v := .int (iZ wk)) (C := RX0) (T := TX0) (N := 6) hx hb hts iX0 hown hK hP 2 rfl rfl 4 (bl rfl) (hts _ qf_X1_35) (fun _ h => h) rfl dX1_giveOrder_27 ?_
    refine CXV (r := r0) (b0 := r0.b) (As := [.int (iZ a), .int (iZ wk)]) (rest := []) (ws := [(hL, .inr (1, [.ref hw1, .ref h, .ref hn1, .ref ro, .int (iZ dr), .int (iZ st), .int (iZ mi), .int (iZ we), .int (iZ tu), .int (iZ o0), .int (iZ le)])), (hw1, .inr (8, [.ref hs, .ref hc, .ref hy])), (hc, .inr (0, [.ref cw, .ref cg, .ref cs, .ref ck, .int (iZ wk), .int (iZ od)])), (cw, .inl (k 1, 401, .inl wf)), (cg, .inl (k 1, 20, .inl gf)), (cs, .inl (k 1, 20, .inl sf)), (ck, .inl (k 1, 120, .inl kf0)), (h, .inr (3, [.ref hs, .long r0.op, r0.vA, r0.vL])), (hn1, .inr (2, [.ref hs, .ref h, .ref kn, .ref te, .ref ho, .ref co])), (kn, .inl (k 1, 6, .inl kf)), (te, .inl (k 1, 6, .inl tf)), (ho, .inl (k 1, 6, .inl hf2)), (co, .inl (k 1, 126, .inl cof)), (ro, .inl (k 1, 60, .inl rof)), (hs, .inr (5, fs)), (hf, .inl (k 1, 36, .inl f)), (hg, .inl (k 1, 32, .inl g)), (hy, .inr (9, [.ref yw, .ref y1, .ref y2, .ref y3, .ref yp, .int (iZ th), .int (iZ ys), .int (iZ yr)])), (yw, .inl (k 1, 60, .inl ywf)), (y1, .inl (k 1, 60, .inl y1f)), (y2, .inl (k 1, 60, .inl y2f)), (y3, .inl (k 1, 60, .inl y3f)), (yp, .inl (k 1, 60, .inl ypf))]) (wc := _) (wr := [(hL, .inr (1, [.ref hw1, .ref h, .ref hn1, .ref ro, .int (iZ dr), .int (iZ st), .int (iZ mi), .int (iZ we), .int (iZ tu), .int (iZ o0), .int (iZ le)])), (hw1, .inr (8, [.ref hs, .ref hc, .ref hy])), (hc, .inr (0, [.ref cw, .ref cg, .ref cs, .ref ck, .int (iZ wk), .int (iZ od)])), (cw, .inl (k 1, 401, .inl wf)), (cg, .inl (k 1, 20, .inl gf)), (cs, .inl (k 1, 20, .inl sf)), (ck, .inl (k 1, 120, .inl kf0)), (co, .inl (k 1, 126, .inl cof)), (ro, .inl (k 1, 60, .inl rof)), (hy, .inr (9, [.ref yw, .ref y1, .ref y2, .ref y3, .ref yp, .int (iZ th), .int (iZ ys), .int (iZ yr)])), (yw, .inl (k 1, 60, .inl ywf)), (y1, .inl (k 1, 60, .inl y1f)), (y2, .inl (k 1, 60, .inl y2f)), (y3, .inl (k 1, 60, .inl y3f)), (yp, .inl (k 1, 60, .inl ypf))]) hx hb hml hown hts hKK hP hD hS hA (fun h => h) (k_spread l D k hn1 kn te ho co h hs r0 hRT fs hf hg f1 f2 f g n hn hx0 ni f4 hni rfl f3 hn0 kf tf hf2 rgk rgt a wk ⟨by omega, by omega⟩ ⟨by omega, by omega⟩) ci_X2_spread qm_X1_70 ⟨Nat.le_of_ble_eq_true rfl, Nat.le_of_ble_eq_true rfl⟩ ⟨rfl, rfl⟩ [8, 7, 9, 10, 11, 14, 15, 16] [0, 1, 2, 3, 4, 5, 6, 12, 13, 17, 18, 19, 20, 21, 22] rfl rfl rfl rfl rfl (dj rfl) 0 rfl rfl rfl hl.1 rfl (Nat.le_of_ble_eq_true rfl) dX1_giveOrder_30 (fun u_2 H locs hφ hP hD hS hb1 => ?_)
    obtain ⟨z_4, r_5, F_6⟩ := u_2
    obtain ⟨rtr_5, q0h_7, q1h_7, ⟨bBh_7, nqh_7, nbh_7⟩⟩ := hφ
    have rtr_5 : RT k (RX f g n ni) r_5 := rtr_5
    have q0h_7 : rgI (F_6 0) (-1) 420 6 := q0h_7
    have q1h_7 : rgI (F_6 1) (-1) 5 6 := q1h_7
    have nqh_7 : isNW (arF f g ni) n a wk (cK (F_6 0)) (gz (F_6 1)) bBh_7 := nqh_7
    have nbh_7 : ∀ o : Int, 0 ≤ o → o < n → (gz (F_6 0) o = -1 → gz (F_6 2) o = -1) ∧ (¬ gz (F_6 0) o = -1 → gz (F_6 2) o = bBh_7 o) := nbh_7
    have hbh_3 : r_5.b = true → r0.b = true := fun h => (fun h => h) (hb1 h)
    refine W.ceq (cells' := cz r0.b r_5.b) (slots' := sz r0.b r_5.b) rfl rfl ?_
    refine W.eq (g2 := F0 m 33 ls []) rfl ?_
    refine lv_aload_n hx hb dX1_giveOrder_33 rfl (lv_at hl 1 rfl) ?_
    refine va_get (D := D) (ci := 0) (v := .ref cg) (C := RX0) (T := TX0) (N := 6) hx hb hts iX0 hown hK hP 2 rfl rfl 1 (bl rfl) (hts _ qf_X1_76) (fun _ h => h) rfl dX1_giveOrder_34 ?_
    refine lv_iload_n hx hb dX1_giveOrder_37 rfl (lv_at hl 0 rfl) ?_
    refine lv_iload_n hx hb dX1_giveOrder_38 rfl (lv_at hl 3 rfl) ?_
    refine va_iast hx hb hK hP hD hS 4 1 rfl rfl (zin (e := od) (n := 20) ⟨by omega, by omega⟩ (bl rfl)) dX1_giveOrder_39 (fun H locs hP hD hS => ?_)
    obtain ⟨f_8, hf_8⟩ : ∃ gg9, gg9 = upd gf (iZ od).toNatClampNeg (iZ a) := ⟨_, rfl⟩
    rw [← hf_8] at hP hD
    have rgf_8 := rg_upd rgg0 hf_8 (by omega) ⟨by omega, by omega⟩ ⟨by omega, by omega⟩
    refine lv_aload_n hx hb dX1_giveOrder_40 rfl (lv_at hl 1 rfl) ?_
    refine va_get (D := D) (ci := 0) (v := .ref cs) (C := RX0) (T := TX0) (N := 6) hx hb hts iX0 hown hK hP 2 rfl rfl 2 (bl rfl) (hts _ qf_X1_79) (fun _ h => h) rfl dX1_giveOrder_41 ?_
    refine lv_iload_n hx hb dX1_giveOrder_44 rfl (lv_at hl 0 rfl) ?_
    refine lv_aload_n hx hb dX1_giveOrder_45 rfl (lv_at hl 1 rfl) ?_
    refine va_get (D := D) (ci := 0) (v := .int (iZ wk)) (C := RX0) (T := TX0) (N := 6) hx hb hts iX0 hown hK hP 2 rfl rfl 4 (bl rfl) (hts _ qf_X1_35) (fun _ h => h) rfl dX1_giveOrder_46 ?_
    refine va_iast hx hb hK hP hD hS 5 1 rfl rfl (zin (e := od) (n := 20) ⟨by omega, by omega⟩ (bl rfl)) dX1_giveOrder_49 (fun H locs hP hD hS => ?_)
    obtain ⟨f_9, hf_9⟩ : ∃ gg9, gg9 = upd sf (iZ od).toNatClampNeg (iZ wk) := ⟨_, rfl⟩
    rw [← hf_9] at hP hD
    refine lv_aload_n hx hb dX1_giveOrder_50 rfl (lv_at hl 2 rfl) ?_
    refine va_get (D := D) (ci := 1) (v := .ref hn1) (C := RX1) (T := TX1) (N := 11) hx hb hts iX1 hown hK hP 0 rfl rfl 2 (bl rfl) (hts _ qf_X1_25) (fun _ h => h) rfl dX1_giveOrder_51 ?_
    refine va_get (D := D) (ci := 2) (v := .ref kn) (C := RX2) (T := TX2) (N := 6) hx hb hts iX2 hown hK hP 15 rfl rfl 2 (bl rfl) (hts _ qf_X1_82) (fun _ h => h) rfl dX1_giveOrder_54 ?_
    refine lv_iconst (v := iZ 0) hx hb dX1_giveOrder_57 rfl ?_
    refine lv_aload_n hx hb dX1_giveOrder_58 rfl (lv_at hl 1 rfl) ?_
    refine va_get (D := D) (ci := 0) (v := .ref ck) (C := RX0) (T := TX0) (N := 6) hx hb hts iX0 hown hK hP 2 rfl rfl 3 (bl rfl) (hts _ qf_X1_85) (fun _ h => h) rfl dX1_giveOrder_59 ?_
    refine lv_iload_n hx hb dX1_giveOrder_62 rfl (lv_at hl 0 rfl) ?_
    refine lv_bipush (v := iZ 6) hx hb dX1_giveOrder_63 bip_6 ?_
    refine lv_imul hx hb dX1_giveOrder_65 ?_
    refine lv_topi (fun x_10 ex_10 => ?_)
    obtain rfl : x_10 = iZ (od * 6) := ex_10.trans (iZ_mul od 6)
    refine lv_bipush (v := iZ 6) hx hb dX1_giveOrder_66 bip_6 ?_
    refine va_copyi hx hb (by rw [hml]; exact hl.1.symm) (own := RX1) hown (hts _ qm_X1_86) (hts _ qn_arraycopy) (hts _ qt_arraycopyName) (hts _ qz_J10) hK hP hD hS 17 6 1 1 rfl rfl rfl rfl rfl (fun h => absurd ((zlt (x := iZ 0) (y := 0) (b := 0) rfl rfl ⟨by omega, by omega⟩ ⟨by omega, by omega⟩).mp h) (by omega)) (fun h => absurd ((zlt (x := iZ (od * 6)) (y := 0) (b := 0) rfl rfl ⟨by omega, by omega⟩ ⟨by omega, by omega⟩).mp h) (by omega)) (fun h => absurd ((zlt (x := iZ 6) (y := 0) (b := 0) rfl rfl ⟨by omega, by omega⟩ ⟨by omega, by omega⟩).mp h) (by omega)) (by rw [zcl (e := 0) ⟨by omega, by omega⟩, zcl (e := 6) ⟨by omega, by omega⟩]; omega) (by rw [zcl (e := (od * 6)) ⟨by omega, by omega⟩, zcl (e := 6) ⟨by omega, by omega⟩]; omega) (fun _ _ => rfl) (Nat.le_of_ble_eq_true rfl) (Nat.le_of_ble_eq_true rfl) dX1_giveOrder_68 (fun H locs hP hD hS => ?_)
    obtain ⟨f_11, hf_11⟩ : ∃ gg9, gg9 = va_cpy (F_6 0) kf0 (iZ 0).toNatClampNeg (iZ (od * 6)).toNatClampNeg (iZ 6).toNatClampNeg := ⟨_, rfl⟩
    rw [← hf_11] at hP hD
    refine lv_aload_n hx hb dX1_giveOrder_71 rfl (lv_at hl 1 rfl) ?_
    refine lv_dup hx hb dX1_giveOrder_72 rfl ?_
    refine va_get (D := D) (ci := 0) (v := .int (iZ od)) (C := RX0) (T := TX0) (N := 6) hx hb hts iX0 hown hK hP 2 rfl rfl 5 (bl rfl) (hts _ qf_X1_67) (fun _ h => h) rfl dX1_giveOrder_73 ?_
    refine lv_iconst (v := iZ 1) hx hb dX1_giveOrder_76 rfl ?_
    refine lv_iadd hx hb dX1_giveOrder_77 ?_
    refine lv_topi (fun x_12 ex_12 => ?_)
    obtain rfl : x_12 = iZ (od + 1) := ex_12.trans (iZ_add od 1)
    refine va_put (D := D) (ci := 0) (v := .int (iZ (od + 1))) (ty := .int) (C := RX0) (T := TX0) (N := 6) hx hb hts iX0 tyX0 tyX0_ok nmX0 hown hK hP hD hS 2 rfl rfl 5 (bl rfl) (hts _ qf_X1_67) (fun _ h => h) rfl (by decide +kernel) rfl rfl (Nat.le_of_ble_eq_true rfl) dX1_giveOrder_78 (fun H locs hP hD hS => ?_)
    refine lv_iload_n hx hb dX1_giveOrder_81 rfl (lv_at hl 0 rfl) ?_
    exact EXi hx hb hr hlocks hbh_3 hS (r_5, (od, (od + 1)), 0, ((F_6 0), (F_6 1), (F_6 2), f_8, f_9, f_11, cof), ()) rfl rfl ⟨(show (od < 20 ∧ od = od ∧ (od + 1) = od + 1 ∧ (cL wk (od + 1) wf f_8 f_9) = odF a (cL wk od wf gf sf)) ∨ (¬ od < 20 ∧ od = -1 ∧ (od + 1) = od ∧ (cL wk (od + 1) wf f_8 f_9) = (cL wk od wf gf sf)) from (Or.inl ⟨by omega, by omega, by omega, cL_od ⟨by omega, by omega⟩ hf_8 hf_9 ⟨by omega, by omega⟩ ⟨by omega, by omega⟩⟩)), (show KNC f g n ni (od + 1) f_8 f_9 f_11 from (KNC.add hKN hx0 hn ⟨by omega, by omega⟩ hf_8 hf_9 hf_11 ⟨by omega, by omega⟩ ⟨by omega, by omega⟩ nqh_7 q0h_7)), (show 0 ≤ (od + 1) ∧ (od + 1) ≤ 20 from (by omega)), (show rgI (F_6 0) (-1) 420 6 from q0h_7), (show rgI (F_6 1) (-1) 5 6 from q1h_7), (show rgI f_8 0 (n - 1) (od + 1) from (rg_ext rgg0 hf_8 ⟨by omega, by omega⟩ ⟨by omega, by omega⟩ ⟨by omega, by omega⟩)), rtr_5⟩ (va_P.subT (pre := [(hL, .inr (1, [.ref hw1, .ref h, .ref hn1, .ref ro, .int (iZ dr), .int (iZ st), .int (iZ mi), .int (iZ we), .int (iZ tu), .int (iZ o0), .int (iZ le)])), (hw1, .inr (8, [.ref hs, .ref hc, .ref hy])), (hc, .inr (0, [.ref cw, .ref cg, .ref cs, .ref ck, .int (iZ wk), .int (iZ (od + 1))])), (cw, .inl (k 1, 401, .inl wf)), (cg, .inl (k 1, 20, .inl f_8)), (cs, .inl (k 1, 20, .inl f_9)), (ck, .inl (k 1, 120, .inl f_11)), (co, .inl (k 1, 126, .inl cof)), (ro, .inl (k 1, 60, .inl rof)), (hy, .inr (9, [.ref yw, .ref y1, .ref y2, .ref y3, .ref yp, .int (iZ th), .int (iZ ys), .int (iZ yr)])), (yw, .inl (k 1, 60, .inl ywf)), (y1, .inl (k 1, 60, .inl y1f)), (y2, .inl (k 1, 60, .inl y2f)), (y3, .inl (k 1, 60, .inl y3f)), (yp, .inl (k 1, 60, .inl ypf)), (hn1, .inr (2, [.ref hs, .ref h, .ref kn, .ref te, .ref ho, .ref co])), (h, .inr (3, [.ref hs, .long r_5.op, r_5.vA, r_5.vL])), (kn, .inl (k 1, 6, .inl (F_6 0))), (te, .inl (k 1, 6, .inl (F_6 1))), (ho, .inl (k 1, 6, .inl (F_6 2))), (hs, .inr (5, fs)), (hf, .inl (k 1, 36, .inl f)), (hg, .inl (k 1, 32, .inl g))]) (pre' := [(hL, .inr (1, [.ref hw1, .ref h, .ref hn1, .ref ro, .int (iZ dr), .int (iZ st), .int (iZ mi), .int (iZ we), .int (iZ tu), .int (iZ o0), .int (iZ le)])), (hw1, .inr (8, [.ref hs, .ref hc, .ref hy])), (hc, .inr (0, [.ref cw, .ref cg, .ref cs, .ref ck, .int (iZ wk), .int (iZ (od + 1))])), (cw, .inl (k 1, 401, .inl wf)), (cg, .inl (k 1, 20, .inl f_8)), (cs, .inl (k 1, 20, .inl f_9)), (ck, .inl (k 1, 120, .inl f_11)), (h, .inr (3, [.ref hs, .long r_5.op, r_5.vA, r_5.vL])), (hn1, .inr (2, [.ref hs, .ref h, .ref kn, .ref te, .ref ho, .ref co])), (kn, .inl (k 1, 6, .inl (F_6 0))), (te, .inl (k 1, 6, .inl (F_6 1))), (ho, .inl (k 1, 6, .inl (F_6 2))), (co, .inl (k 1, 126, .inl cof)), (ro, .inl (k 1, 60, .inl rof)), (hs, .inr (5, fs)), (hf, .inl (k 1, 36, .inl f)), (hg, .inl (k 1, 32, .inl g)), (hy, .inr (9, [.ref yw, .ref y1, .ref y2, .ref y3, .ref yp, .int (iZ th), .int (iZ ys), .int (iZ yr)])), (yw, .inl (k 1, 60, .inl ywf)), (y1, .inl (k 1, 60, .inl y1f)), (y2, .inl (k 1, 60, .inl y2f)), (y3, .inl (k 1, 60, .inl y3f)), (yp, .inl (k 1, 60, .inl ypf))]) (tl := r_5.tl) hP [0, 1, 2, 3, 4, 5, 6, 16, 15, 17, 18, 19, 7, 8, 20, 21, 22, 9, 10, 11, 12, 13, 14] rfl) (va_D.subT (pre := [(hL, .inr (1, [.ref hw1, .ref h, .ref hn1, .ref ro, .int (iZ dr), .int (iZ st), .int (iZ mi), .int (iZ we), .int (iZ tu), .int (iZ o0), .int (iZ le)])), (hw1, .inr (8, [.ref hs, .ref hc, .ref hy])), (hc, .inr (0, [.ref cw, .ref cg, .ref cs, .ref ck, .int (iZ wk), .int (iZ (od + 1))])), (cw, .inl (k 1, 401, .inl wf)), (cg, .inl (k 1, 20, .inl f_8)), (cs, .inl (k 1, 20, .inl f_9)), (ck, .inl (k 1, 120, .inl f_11)), (co, .inl (k 1, 126, .inl cof)), (ro, .inl (k 1, 60, .inl rof)), (hy, .inr (9, [.ref yw, .ref y1, .ref y2, .ref y3, .ref yp, .int (iZ th), .int (iZ ys), .int (iZ yr)])), (yw, .inl (k 1, 60, .inl ywf)), (y1, .inl (k 1, 60, .inl y1f)), (y2, .inl (k 1, 60, .inl y2f)), (y3, .inl (k 1, 60, .inl y3f)), (yp, .inl (k 1, 60, .inl ypf)), (hn1, .inr (2, [.ref hs, .ref h, .ref kn, .ref te, .ref ho, .ref co])), (h, .inr (3, [.ref hs, .long r_5.op, r_5.vA, r_5.vL])), (kn, .inl (k 1, 6, .inl (F_6 0))), (te, .inl (k 1, 6, .inl (F_6 1))), (ho, .inl (k 1, 6, .inl (F_6 2))), (hs, .inr (5, fs)), (hf, .inl (k 1, 36, .inl f)), (hg, .inl (k 1, 32, .inl g))]) (pre' := [(hL, .inr (1, [.ref hw1, .ref h, .ref hn1, .ref ro, .int (iZ dr), .int (iZ st), .int (iZ mi), .int (iZ we), .int (iZ tu), .int (iZ o0), .int (iZ le)])), (hw1, .inr (8, [.ref hs, .ref hc, .ref hy])), (hc, .inr (0, [.ref cw, .ref cg, .ref cs, .ref ck, .int (iZ wk), .int (iZ (od + 1))])), (cw, .inl (k 1, 401, .inl wf)), (cg, .inl (k 1, 20, .inl f_8)), (cs, .inl (k 1, 20, .inl f_9)), (ck, .inl (k 1, 120, .inl f_11)), (h, .inr (3, [.ref hs, .long r_5.op, r_5.vA, r_5.vL])), (hn1, .inr (2, [.ref hs, .ref h, .ref kn, .ref te, .ref ho, .ref co])), (kn, .inl (k 1, 6, .inl (F_6 0))), (te, .inl (k 1, 6, .inl (F_6 1))), (ho, .inl (k 1, 6, .inl (F_6 2))), (co, .inl (k 1, 126, .inl cof)), (ro, .inl (k 1, 60, .inl rof)), (hs, .inr (5, fs)), (hf, .inl (k 1, 36, .inl f)), (hg, .inl (k 1, 32, .inl g)), (hy, .inr (9, [.ref yw, .ref y1, .ref y2, .ref y3, .ref yp, .int (iZ th), .int (iZ ys), .int (iZ yr)])), (yw, .inl (k 1, 60, .inl ywf)), (y1, .inl (k 1, 60, .inl y1f)), (y2, .inl (k 1, 60, .inl y2f)), (y3, .inl (k 1, 60, .inl y3f)), (yp, .inl (k 1, 60, .inl ypf))]) (tl := r_5.tl) hD [0, 1, 2, 3, 4, 5, 6, 16, 15, 17, 18, 19, 7, 8, 20, 21, 22, 9, 10, 11, 12, 13, 14] rfl rfl) dX1_giveOrder_82
  ·
    have c_1 := mt (zlt (x := iZ od) (y := iZ 20) rfl rfl ⟨by omega, by omega⟩ wn_20).mpr c_1
    refine lv_iconst (v := iZ (-1)) hx hb dX1_giveOrder_19 rfl ?_
    exact EXi hx hb hr hlocks (fun h => h) hS (r0, ((-1), od), 0, (kf, tf, hf2, gf, sf, kf0, cof), ()) rfl rfl ⟨(show (od < 20 ∧ (-1) = od ∧ od = od + 1 ∧ (cL wk od wf gf sf) = odF a (cL wk od wf gf sf)) ∨ (¬ od < 20 ∧ (-1) = -1 ∧ od = od ∧ (cL wk od wf gf sf) = (cL wk od wf gf sf)) from (Or.inr ⟨by omega, by omega, by omega, rfl⟩)), (show KNC f g n ni od gf sf kf0 from hKN), (show 0 ≤ od ∧ od ≤ 20 from (by omega)), (show rgI kf (-1) 420 6 from rgk), (show rgI tf (-1) 5 6 from rgt), (show rgI gf 0 (n - 1) od from rgg0), hRT⟩ (va_P.subT (pre := [(hL, .inr (1, [.ref hw1, .ref h, .ref hn1, .ref ro, .int (iZ dr), .int (iZ st), .int (iZ mi), .int (iZ we), .int (iZ tu), .int (iZ o0), .int (iZ le)])), (hw1, .inr (8, [.ref hs, .ref hc, .ref hy])), (hc, .inr (0, [.ref cw, .ref cg, .ref cs, .ref ck, .int (iZ wk), .int (iZ od)])), (cw, .inl (k 1, 401, .inl wf)), (cg, .inl (k 1, 20, .inl gf)), (cs, .inl (k 1, 20, .inl sf)), (ck, .inl (k 1, 120, .inl kf0)), (h, .inr (3, [.ref hs, .long r0.op, r0.vA, r0.vL])), (hn1, .inr (2, [.ref hs, .ref h, .ref kn, .ref te, .ref ho, .ref co])), (kn, .inl (k 1, 6, .inl kf)), (te, .inl (k 1, 6, .inl tf)), (ho, .inl (k 1, 6, .inl hf2)), (co, .inl (k 1, 126, .inl cof)), (ro, .inl (k 1, 60, .inl rof)), (hs, .inr (5, fs)), (hf, .inl (k 1, 36, .inl f)), (hg, .inl (k 1, 32, .inl g)), (hy, .inr (9, [.ref yw, .ref y1, .ref y2, .ref y3, .ref yp, .int (iZ th), .int (iZ ys), .int (iZ yr)])), (yw, .inl (k 1, 60, .inl ywf)), (y1, .inl (k 1, 60, .inl y1f)), (y2, .inl (k 1, 60, .inl y2f)), (y3, .inl (k 1, 60, .inl y3f)), (yp, .inl (k 1, 60, .inl ypf))]) (pre' := [(hL, .inr (1, [.ref hw1, .ref h, .ref hn1, .ref ro, .int (iZ dr), .int (iZ st), .int (iZ mi), .int (iZ we), .int (iZ tu), .int (iZ o0), .int (iZ le)])), (hw1, .inr (8, [.ref hs, .ref hc, .ref hy])), (hc, .inr (0, [.ref cw, .ref cg, .ref cs, .ref ck, .int (iZ wk), .int (iZ od)])), (cw, .inl (k 1, 401, .inl wf)), (cg, .inl (k 1, 20, .inl gf)), (cs, .inl (k 1, 20, .inl sf)), (ck, .inl (k 1, 120, .inl kf0)), (h, .inr (3, [.ref hs, .long r0.op, r0.vA, r0.vL])), (hn1, .inr (2, [.ref hs, .ref h, .ref kn, .ref te, .ref ho, .ref co])), (kn, .inl (k 1, 6, .inl kf)), (te, .inl (k 1, 6, .inl tf)), (ho, .inl (k 1, 6, .inl hf2)), (co, .inl (k 1, 126, .inl cof)), (ro, .inl (k 1, 60, .inl rof)), (hs, .inr (5, fs)), (hf, .inl (k 1, 36, .inl f)), (hg, .inl (k 1, 32, .inl g)), (hy, .inr (9, [.ref yw, .ref y1, .ref y2, .ref y3, .ref yp, .int (iZ th), .int (iZ ys), .int (iZ yr)])), (yw, .inl (k 1, 60, .inl ywf)), (y1, .inl (k 1, 60, .inl y1f)), (y2, .inl (k 1, 60, .inl y2f)), (y3, .inl (k 1, 60, .inl y3f)), (yp, .inl (k 1, 60, .inl ypf))]) (tl := r0.tl) hP [0, 1, 2, 3, 4, 5, 6, 7, 8, 9, 10, 11, 12, 13, 14, 15, 16, 17, 18, 19, 20, 21, 22] rfl) (va_D.subT (pre := [(hL, .inr (1, [.ref hw1, .ref h, .ref hn1, .ref ro, .int (iZ dr), .int (iZ st), .int (iZ mi), .int (iZ we), .int (iZ tu), .int (iZ o0), .int (iZ le)])), (hw1, .inr (8, [.ref hs, .ref hc, .ref hy])), (hc, .inr (0, [.ref cw, .ref cg, .ref cs, .ref ck, .int (iZ wk), .int (iZ od)])), (cw, .inl (k 1, 401, .inl wf)), (cg, .inl (k 1, 20, .inl gf)), (cs, .inl (k 1, 20, .inl sf)), (ck, .inl (k 1, 120, .inl kf0)), (h, .inr (3, [.ref hs, .long r0.op, r0.vA, r0.vL])), (hn1, .inr (2, [.ref hs, .ref h, .ref kn, .ref te, .ref ho, .ref co])), (kn, .inl (k 1, 6, .inl kf)), (te, .inl (k 1, 6, .inl tf)), (ho, .inl (k 1, 6, .inl hf2)), (co, .inl (k 1, 126, .inl cof)), (ro, .inl (k 1, 60, .inl rof)), (hs, .inr (5, fs)), (hf, .inl (k 1, 36, .inl f)), (hg, .inl (k 1, 32, .inl g)), (hy, .inr (9, [.ref yw, .ref y1, .ref y2, .ref y3, .ref yp, .int (iZ th), .int (iZ ys), .int (iZ yr)])), (yw, .inl (k 1, 60, .inl ywf)), (y1, .inl (k 1, 60, .inl y1f)), (y2, .inl (k 1, 60, .inl y2f)), (y3, .inl (k 1, 60, .inl y3f)), (yp, .inl (k 1, 60, .inl ypf))]) (pre' := [(hL, .inr (1, [.ref hw1, .ref h, .ref hn1, .ref ro, .int (iZ dr), .int (iZ st), .int (iZ mi), .int (iZ we), .int (iZ tu), .int (iZ o0), .int (iZ le)])), (hw1, .inr (8, [.ref hs, .ref hc, .ref hy])), (hc, .inr (0, [.ref cw, .ref cg, .ref cs, .ref ck, .int (iZ wk), .int (iZ od)])), (cw, .inl (k 1, 401, .inl wf)), (cg, .inl (k 1, 20, .inl gf)), (cs, .inl (k 1, 20, .inl sf)), (ck, .inl (k 1, 120, .inl kf0)), (h, .inr (3, [.ref hs, .long r0.op, r0.vA, r0.vL])), (hn1, .inr (2, [.ref hs, .ref h, .ref kn, .ref te, .ref ho, .ref co])), (kn, .inl (k 1, 6, .inl kf)), (te, .inl (k 1, 6, .inl tf)), (ho, .inl (k 1, 6, .inl hf2)), (co, .inl (k 1, 126, .inl cof)), (ro, .inl (k 1, 60, .inl rof)), (hs, .inr (5, fs)), (hf, .inl (k 1, 36, .inl f)), (hg, .inl (k 1, 32, .inl g)), (hy, .inr (9, [.ref yw, .ref y1, .ref y2, .ref y3, .ref yp, .int (iZ th), .int (iZ ys), .int (iZ yr)])), (yw, .inl (k 1, 60, .inl ywf)), (y1, .inl (k 1, 60, .inl y1f)), (y2, .inl (k 1, 60, .inl y2f)), (y3, .inl (k 1, 60, .inl y3f)), (yp, .inl (k 1, 60, .inl ypf))]) (tl := r0.tl) hD [0, 1, 2, 3, 4, 5, 6, 7, 8, 9, 10, 11, 12, 13, 14, 15, 16, 17, 18, 19, 20, 21, 22] rfl rfl) dX1_giveOrder_20
set_option maxHeartbeats 4000000 in
set_option maxRecDepth 100000 in
theorem x_turnByChance (l : Launch) (D : va_G) (k : Nat → ClassId) (fs : List Value) (hL : Nat) (hw1 : Nat) (h : Nat) (hn1 : Nat) (ro : Nat) (hs : Nat) (hf : Nat) (hg : Nat) (hc : Nat) (hy : Nat) (cw : Nat) (cg : Nat) (cs : Nat) (ck : Nat) (n : Int) (ni : Int) (lw : Int) (dr : Int) (st : Int) (mi : Int) (we : Int) (tu : Int) (o0 : Int) (le : Int) (wk : Int) (od : Int) (wf : Nat → Int32) (a : Int) (f1 : fs[1]? = some (.ref hf)) (f2 : fs[2]? = some (.ref hg)) (f3 : fs[3]? = some (.int (iZ n))) (f4 : fs[4]? = some (.int (iZ ni))) (f5 : fs[5]? = some (.int (iZ lw))) (hn : n ≤ 6) (hn0 : 0 ≤ n) (hwk : 0 ≤ wk ∧ wk ≤ 400) (hdr : 0 ≤ dr ∧ dr ≤ 65535) (q_a : -2147483648 ≤ a ∧ a < 2147483648) : WD (σ := ((Int × Int × Int) × (Int64) × ((Nat → Int32)) × (Unit))) l yX1_turnByChance cX1_turnByChance 3 none 1 0 0 D k [.ref hL, .int (iZ a)] [(hL, .inr (1, [.ref hw1, .ref h, .ref hn1, .ref ro, .int (iZ dr), .int (iZ st), .int (iZ mi), .int (iZ we), .int (iZ tu), .int (iZ o0), .int (iZ le)])), (hw1, .inr (8, [.ref hs, .ref hc, .ref hy])), (hc, .inr (0, [.ref cw, .ref cg, .ref cs, .ref ck, .int (iZ wk), .int (iZ od)])), (cw, .inl (k 1, 401, .inl wf)), (hs, .inr (5, fs))] (fun _ => none) (fun u => (u.1.2.1 = drN dr (n).toNat) ∧ (u.1.2.2 = tu + chN dr a (n).toNat) ∧ (gz u.2.2.1 wk = chX dr a (gz wf wk) (n).toNat) ∧ (∀ e : Int, 0 ≤ e → e ≤ 400 → ¬ e = wk → gz u.2.2.1 e = gz wf e) ∧ (0 ≤ u.1.2.1 ∧ u.1.2.1 ≤ 65535)) (fun u => [(hL, .inr (1, [.ref hw1, .ref h, .ref hn1, .ref ro, .int (iZ u.1.2.1), .int (iZ st), .int (iZ mi), .int (iZ we), .int (iZ u.1.2.2), .int (iZ o0), .int (iZ le)])), (hw1, .inr (8, [.ref hs, .ref hc, .ref hy])), (hc, .inr (0, [.ref cw, .ref cg, .ref cs, .ref ck, .int (iZ wk), .int (iZ od)])), (cw, .inl (k 1, 401, .inl u.2.2.1)), (hs, .inr (5, fs))]) := by
  refine MW (by decide) (Nat.le_of_ble_eq_true rfl) (fun p e s m below meth c ls A hx hb hml hr hlocks hin hts hown hKK hP hD hS hA hl => ?_)
  have hK := hKK.1
  have hl : lv_has ls 3 [(0, .ref hL), (1, .int (iZ a))] := hl
  refine lv_iconst (v := iZ 0) hx hb dX1_turnByChance_0 rfl ?_
  refine lv_istore_n (lv' := [(2, .int (iZ 0)), (0, .ref hL), (1, .int (iZ a))]) hx hb dX1_turnByChance_1 rfl hl (bl rfl) rfl (fun ls hl => ?_)
  have HL2 : ∀ (fu : Nat) (v2_2 : Int) (drq2 : Int) (tuq2 : Int) (wfq2 : Nat → Int32) (H : Heap) (locs : List Loc) (ls : Array Slot), ((n - 1) + 2 - v2_2) < (fu : Int) → ((0 ≤ v2_2 ∧ v2_2 ≤ (n - 1) + 1)) → (drq2 = drN dr (Int.toNat (v2_2)) ∧ (0 ≤ drq2 ∧ drq2 ≤ 65535)) → (tuq2 = tu + chN dr a (Int.toNat (v2_2))) → (gz wfq2 wk = chX dr a (gz wf wk) (Int.toNat (v2_2)) ∧ ∀ e : Int, 0 ≤ e → e ≤ 400 → ¬ e = wk → gz wfq2 e = gz wf e) → va_P D vwCl [(hL, .inr (1, [.ref hw1, .ref h, .ref hn1, .ref ro, .int (iZ drq2), .int (iZ st), .int (iZ mi), .int (iZ we), .int (iZ tuq2), .int (iZ o0), .int (iZ le)])), (hw1, .inr (8, [.ref hs, .ref hc, .ref hy])), (hc, .inr (0, [.ref cw, .ref cg, .ref cs, .ref ck, .int (iZ wk), .int (iZ od)])), (cw, .inl (k 1, 401, .inl wfq2)), (hs, .inr (5, fs))] H → va_D A [(hL, .inr (1, [.ref hw1, .ref h, .ref hn1, .ref ro, .int (iZ drq2), .int (iZ st), .int (iZ mi), .int (iZ we), .int (iZ tuq2), .int (iZ o0), .int (iZ le)])), (hw1, .inr (8, [.ref hs, .ref hc, .ref hy])), (hc, .inr (0, [.ref cw, .ref cg, .ref cs, .ref ck, .int (iZ wk), .int (iZ od)])), (cw, .inl (k 1, 401, .inl wfq2)), (hs, .inr (5, fs))] → va_S A s.heap H locs → lv_has ls 3 [(2, .int (iZ v2_2)), (0, .ref hL), (1, .int (iZ a))] → W p l e (rj 1 0 0) s m [.ref hL, .int (iZ a)].toArray below meth c H locs 0 0 (MQ below (QW (σ := ((Int × Int × Int) × (Int64) × ((Nat → Int32)) × (Unit))) (fun _ => none) (fun u => (u.1.2.1 = drN dr (n).toNat) ∧ (u.1.2.2 = tu + chN dr a (n).toNat) ∧ (gz u.2.2.1 wk = chX dr a (gz wf wk) (n).toNat) ∧ (∀ e : Int, 0 ≤ e → e ≤ 400 → ¬ e = wk → gz u.2.2.1 e = gz wf e) ∧ (0 ≤ u.1.2.1 ∧ u.1.2.1 ≤ 65535)) (fun u => [(hL, .inr (1, [.ref hw1, .ref h, .ref hn1, .ref ro, .int (iZ u.1.2.1), .int (iZ st), .int (iZ mi), .int (iZ we), .int (iZ u.1.2.2), .int (iZ o0), .int (iZ le)])), (hw1, .inr (8, [.ref hs, .ref hc, .ref hy])), (hc, .inr (0, [.ref cw, .ref cg, .ref cs, .ref ck, .int (iZ wk), .int (iZ od)])), (cw, .inl (k 1, 401, .inl u.2.2.1)), (hs, .inr (5, fs))]) D A) [.ref hL, .int (iZ a)].toArray s 0 0 A) (F0 m 2 ls []) := by
    intro fu
    induction fu with
    | zero => intro v2_2 drq2 tuq2 wfq2 H locs ls hμ2 hi2 hdn htn hwn hP hD hS hl; exact absurd hμ2 (by omega)
    | succ fu ih2 =>
      intro v2_2 drq2 tuq2 wfq2 H locs ls hμ2 hi2 hdn htn hwn hP hD hS hl
      refine lv_iload_n hx hb dX1_turnByChance_2 rfl (lv_at hl 0 rfl) ?_
      refine lv_aload_n hx hb dX1_turnByChance_3 rfl (lv_at hl 1 rfl) ?_
      refine va_get (D := D) (ci := 1) (v := .ref hw1) (C := RX1) (T := TX1) (N := 11) hx hb hts iX1 hown hK hP 0 rfl rfl 0 (bl rfl) (hts _ qf_X1_17) (fun _ h => h) rfl dX1_turnByChance_4 ?_
      refine va_get (D := D) (ci := 8) (v := .ref hs) (C := RX8) (T := TX8) (N := 3) hx hb hts iX8 hown hK hP 1 rfl rfl 0 (bl rfl) (hts _ qf_X1_48) (fun _ h => h) rfl dX1_turnByChance_7 ?_
      refine va_get (D := D) (ci := 5) (v := .int (iZ n)) (C := RX5) (T := TX5) (N := 7) hx hb hts iX5 hown hK hP 4 rfl rfl 3 (bl rfl) (hts _ qf_X1_52) (fun _ h => h) f3 dX1_turnByChance_10 ?_
      refine lv_icmp_ge (tgt := 76) hx hb dX1_turnByChance_13 rfl (fun c_1 => ?_) (fun c_1 => ?_)
      ·
        have c_1 := (zle (x := iZ n) (y := iZ v2_2) rfl rfl ⟨by omega, by omega⟩ ⟨by omega, by omega⟩).mp c_1
        exact EWv hx hb hr hlocks hS ((0, drq2, tuq2), 0, wfq2, ()) rfl ⟨(show drq2 = drN dr (n).toNat from (by have e9 : v2_2 = n := (by omega); rw [← e9]; exact hdn.1)), (show tuq2 = tu + chN dr a (n).toNat from (by have e9 : v2_2 = n := (by omega); rw [← e9]; exact htn)), (show gz wfq2 wk = chX dr a (gz wf wk) (n).toNat from (by have e9 : v2_2 = n := (by omega); rw [← e9]; exact hwn.1)), (show ∀ e : Int, 0 ≤ e → e ≤ 400 → ¬ e = wk → gz wfq2 e = gz wf e from hwn.2), (show 0 ≤ drq2 ∧ drq2 ≤ 65535 from (by omega))⟩ (hP.sub [0, 1, 2, 3, 4] rfl) (hD.sub [0, 1, 2, 3, 4] rfl rfl) dX1_turnByChance_76
      ·
        have c_1 := mt (zle (x := iZ n) (y := iZ v2_2) rfl rfl ⟨by omega, by omega⟩ ⟨by omega, by omega⟩).mpr c_1
        refine lv_aload_n hx hb dX1_turnByChance_16 rfl (lv_at hl 1 rfl) ?_
        refine lv_aload_n hx hb dX1_turnByChance_17 rfl (lv_at hl 1 rfl) ?_
        refine va_get (D := D) (ci := 1) (v := .int (iZ drq2)) (C := RX1) (T := TX1) (N := 11) hx hb hts iX1 hown hK hP 0 rfl rfl 4 (bl rfl) (hts _ qf_X1_96) (fun _ h => h) rfl dX1_turnByChance_18 ?_
        refine lv_sipush (v := iZ 2893) hx hb dX1_turnByChance_21 sip_2893 ?_
        refine lv_imul hx hb dX1_turnByChance_24 ?_
        refine lv_topi (fun x_2 ex_2 => ?_)
        obtain rfl : x_2 = iZ (drq2 * 2893) := ex_2.trans (iZ_mul drq2 2893)
        refine lv_sipush (v := iZ 11093) hx hb dX1_turnByChance_25 sip_11093 ?_
        refine lv_iadd hx hb dX1_turnByChance_28 ?_
        refine lv_topi (fun x_3 ex_3 => ?_)
        obtain rfl : x_3 = iZ ((drq2 * 2893) + 11093) := ex_3.trans (iZ_add (drq2 * 2893) 11093)
        refine lv_ldc (own := RX1) (v := 65536) hx hb hown (hts _ qk_X1_157) dX1_turnByChance_29 ?_
        refine W.eq (g2 := F0 m 31 ls [.int (iZ 65536), .int (iZ ((drq2 * 2893) + 11093)), .ref hL]) rfl ?_
        refine lv_irem hx hb dX1_turnByChance_31 (by rw [zne rfl ⟨by omega, by omega⟩]; omega) ?_
        refine lv_topi (fun x_4 ex_4 => ?_)
        obtain rfl : x_4 = iZ (((drq2 * 2893) + 11093) % 65536) := ex_4.trans (iZ_rem (a := ((drq2 * 2893) + 11093)) (b := 65536) (by omega) (by omega) (by omega) (by omega))
        refine va_put (D := D) (ci := 1) (v := .int (iZ (((drq2 * 2893) + 11093) % 65536))) (ty := .int) (C := RX1) (T := TX1) (N := 11) hx hb hts iX1 tyX1 tyX1_ok nmX1 hown hK hP hD hS 0 rfl rfl 4 (bl rfl) (hts _ qf_X1_96) (fun _ h => h) rfl (by decide +kernel) rfl rfl (Nat.le_of_ble_eq_true rfl) dX1_turnByChance_32 (fun H locs hP hD hS => ?_)
        refine lv_aload_n hx hb dX1_turnByChance_35 rfl (lv_at hl 1 rfl) ?_
        refine va_get (D := D) (ci := 1) (v := .int (iZ (((drq2 * 2893) + 11093) % 65536))) (C := RX1) (T := TX1) (N := 11) hx hb hts iX1 hown hK hP 0 rfl rfl 4 (bl rfl) (hts _ qf_X1_96) (fun _ h => h) rfl dX1_turnByChance_36 ?_
        refine lv_bipush (v := iZ 8) hx hb dX1_turnByChance_39 bip_8 ?_
        refine lv_idiv hx hb dX1_turnByChance_41 (by rw [zne rfl ⟨by omega, by omega⟩]; omega) ?_
        have hd_41 := zdiv_b (a := (((drq2 * 2893) + 11093) % 65536)) (b := 8) (by omega) (by omega)
        refine lv_topi (fun x_5 ex_5 => ?_)
        obtain rfl : x_5 = iZ ((((drq2 * 2893) + 11093) % 65536) / 8) := ex_5.trans (iZ_div (a := (((drq2 * 2893) + 11093) % 65536)) (b := 8) (by omega) (by omega) (by omega) (by omega))
        refine lv_bipush (v := iZ 16) hx hb dX1_turnByChance_42 bip_16 ?_
        refine lv_irem hx hb dX1_turnByChance_44 (by rw [zne rfl ⟨by omega, by omega⟩]; omega) ?_
        refine lv_topi (fun x_6 ex_6 => ?_)
        obtain rfl : x_6 = iZ (((((drq2 * 2893) + 11093) % 65536) / 8) % 16) := ex_6.trans (iZ_rem (a := ((((drq2 * 2893) + 11093) % 65536) / 8)) (b := 16) (by omega) (by omega) (by omega) (by omega))
        refine lv_iload_n hx hb dX1_turnByChance_45 rfl (lv_at hl 2 rfl) ?_
        refine lv_icmp_ge (tgt := 70) hx hb dX1_turnByChance_46 rfl (fun c_7 => ?_) (fun c_7 => ?_)
        ·
          have c_7 := (zle (x := iZ a) (y := iZ (((((drq2 * 2893) + 11093) % 65536) / 8) % 16)) rfl rfl ⟨by omega, by omega⟩ ⟨by omega, by omega⟩).mp c_7
          refine lv_iinc (v := iZ (v2_2 + 1)) (lv' := [(2, .int (iZ (v2_2 + 1))), (0, .ref hL), (1, .int (iZ a))]) hx hb dX1_turnByChance_70 hl (k := 0) rfl (iZ_add v2_2 1) (by decide) rfl (fun ls hl => ?_)
          refine lv_goto (tgt := 2) hx hb dX1_turnByChance_73 rfl ?_
          exact ih2  (v2_2 + 1) (((drq2 * 2893) + 11093) % 65536) tuq2 wfq2 _ _ _ (by omega) (show (0 ≤ (v2_2 + 1) ∧ (v2_2 + 1) ≤ (n - 1) + 1) from ⟨by omega, by omega⟩) (show (((drq2 * 2893) + 11093) % 65536) = drN dr (Int.toNat ((v2_2 + 1))) ∧ (0 ≤ (((drq2 * 2893) + 11093) % 65536) ∧ (((drq2 * 2893) + 11093) % 65536) ≤ 65535) from (by have s9 := ch_s (d := dr) (c := a) (s := gz wf wk) (i := v2_2) (by omega); rw [← hdn.1] at s9; have t9 := s9.2; rw [s9.1] at t9; exact ⟨s9.1.symm, by omega⟩)) (show tuq2 = tu + chN dr a (Int.toNat ((v2_2 + 1))) from (by have s9 := ch_s (d := dr) (c := a) (s := gz wf wk) (i := v2_2) (by omega); rw [← hdn.1] at s9; have t9 := s9.2; rw [s9.1] at t9; omega)) (show gz wfq2 wk = chX dr a (gz wf wk) (Int.toNat ((v2_2 + 1))) ∧ ∀ e : Int, 0 ≤ e → e ≤ 400 → ¬ e = wk → gz wfq2 e = gz wf e from ⟨by have s9 := ch_s (d := dr) (c := a) (s := gz wf wk) (i := v2_2) (by omega); rw [← hdn.1] at s9; have t9 := s9.2; rw [s9.1] at t9; have w9 := hwn.1; omega, hwn.2⟩) (hP.sub [0, 1, 2, 3, 4] rfl) (hD.sub [0, 1, 2, 3, 4] rfl rfl) hS (lv_sub hl [0, 1, 2] rfl)
        ·
          have c_7 := mt (zle (x := iZ a) (y := iZ (((((drq2 * 2893) + 11093) % 65536) / 8) % 16)) rfl rfl ⟨by omega, by omega⟩ ⟨by omega, by omega⟩).mpr c_7
          refine lv_aload_n hx hb dX1_turnByChance_49 rfl (lv_at hl 1 rfl) ?_
          refine va_get (D := D) (ci := 1) (v := .ref hw1) (C := RX1) (T := TX1) (N := 11) hx hb hts iX1 hown hK hP 0 rfl rfl 0 (bl rfl) (hts _ qf_X1_17) (fun _ h => h) rfl dX1_turnByChance_50 ?_
          refine va_get (D := D) (ci := 8) (v := .ref hc) (C := RX8) (T := TX8) (N := 3) hx hb hts iX8 hown hK hP 1 rfl rfl 1 (bl rfl) (hts _ qf_X1_29) (fun _ h => h) rfl dX1_turnByChance_53 ?_
          refine lv_iload_n hx hb dX1_turnByChance_56 rfl (lv_at hl 0 rfl) ?_
          refine CWV (As := [.int (iZ v2_2)]) (rest := []) (wc := _) (wr := [(hL, .inr (1, [.ref hw1, .ref h, .ref hn1, .ref ro, .int (iZ (((drq2 * 2893) + 11093) % 65536)), .int (iZ st), .int (iZ mi), .int (iZ we), .int (iZ tuq2), .int (iZ o0), .int (iZ le)])), (hw1, .inr (8, [.ref hs, .ref hc, .ref hy])), (hs, .inr (5, fs))]) hx hb hml hown hts hKK hP hD hS hA (x_turnRound l D k hc cw cg cs ck wk od wfq2 v2_2 ⟨by omega, by omega⟩) ci_X0_turnRound qm_X1_158 ⟨Nat.le_of_ble_eq_true rfl, Nat.le_of_ble_eq_true rfl⟩ ⟨Nat.le_of_ble_eq_true rfl, Nat.le_of_ble_eq_true rfl⟩ [2, 3] [0, 1, 4] rfl rfl rfl rfl rfl (dj rfl) 0 rfl rfl rfl hl.1 rfl (Nat.le_of_ble_eq_true rfl) dX1_turnByChance_57 (fun u_8 H locs hφ hP hD hS => ?_)
          have p_9 : u_8.2.2.1 = upd wfq2 (iZ wk).toNatClampNeg (iZ (xoV (gz wfq2 wk) v2_2)) := hφ
          refine W.eq (g2 := F0 m 60 ls []) rfl ?_
          refine lv_aload_n hx hb dX1_turnByChance_60 rfl (lv_at hl 1 rfl) ?_
          refine lv_dup hx hb dX1_turnByChance_61 rfl ?_
          refine va_get (D := D) (ci := 1) (v := .int (iZ tuq2)) (C := RX1) (T := TX1) (N := 11) hx hb hts iX1 hown hK hP 0 rfl rfl 8 (bl rfl) (hts _ qf_X1_108) (fun _ h => h) rfl dX1_turnByChance_62 ?_
          refine lv_iconst (v := iZ 1) hx hb dX1_turnByChance_65 rfl ?_
          refine lv_iadd hx hb dX1_turnByChance_66 ?_
          refine lv_topi (fun x_10 ex_10 => ?_)
          obtain rfl : x_10 = iZ (tuq2 + 1) := ex_10.trans (iZ_add tuq2 1)
          refine va_put (D := D) (ci := 1) (v := .int (iZ (tuq2 + 1))) (ty := .int) (C := RX1) (T := TX1) (N := 11) hx hb hts iX1 tyX1 tyX1_ok nmX1 hown hK hP hD hS 0 rfl rfl 8 (bl rfl) (hts _ qf_X1_108) (fun _ h => h) rfl (by decide +kernel) rfl rfl (Nat.le_of_ble_eq_true rfl) dX1_turnByChance_67 (fun H locs hP hD hS => ?_)
          refine lv_iinc (v := iZ (v2_2 + 1)) (lv' := [(2, .int (iZ (v2_2 + 1))), (0, .ref hL), (1, .int (iZ a))]) hx hb dX1_turnByChance_70 hl (k := 0) rfl (iZ_add v2_2 1) (by decide) rfl (fun ls hl => ?_)
          refine lv_goto (tgt := 2) hx hb dX1_turnByChance_73 rfl ?_
          exact ih2  (v2_2 + 1) (((drq2 * 2893) + 11093) % 65536) (tuq2 + 1) u_8.2.2.1 _ _ _ (by omega) (show (0 ≤ (v2_2 + 1) ∧ (v2_2 + 1) ≤ (n - 1) + 1) from ⟨by omega, by omega⟩) (show (((drq2 * 2893) + 11093) % 65536) = drN dr (Int.toNat ((v2_2 + 1))) ∧ (0 ≤ (((drq2 * 2893) + 11093) % 65536) ∧ (((drq2 * 2893) + 11093) % 65536) ≤ 65535) from (by have s9 := ch_s (d := dr) (c := a) (s := gz wf wk) (i := v2_2) (by omega); rw [← hdn.1] at s9; have t9 := s9.2; rw [s9.1] at t9; exact ⟨s9.1.symm, by omega⟩)) (show (tuq2 + 1) = tu + chN dr a (Int.toNat ((v2_2 + 1))) from (by have s9 := ch_s (d := dr) (c := a) (s := gz wf wk) (i := v2_2) (by omega); rw [← hdn.1] at s9; have t9 := s9.2; rw [s9.1] at t9; omega)) (show gz u_8.2.2.1 wk = chX dr a (gz wf wk) (Int.toNat ((v2_2 + 1))) ∧ ∀ e : Int, 0 ≤ e → e ≤ 400 → ¬ e = wk → gz u_8.2.2.1 e = gz wf e from ⟨(gz_up p_9 ⟨by omega, by omega⟩ (xoV_rg _ _) (by omega)).trans ((if_pos rfl).trans (by rw [hwn.1]; have s9 := ch_s (d := dr) (c := a) (s := gz wf wk) (i := v2_2) (by omega); rw [← hdn.1] at s9; have t9 := s9.2; rw [s9.1] at t9; rcases t9 with t8 | t8; exact t8.2.1.symm; omega)), fun e h1 h2 h3 => (gz_up p_9 ⟨by omega, by omega⟩ (xoV_rg _ _) h1).trans ((if_neg h3).trans (hwn.2 e h1 h2 h3))⟩) (hP.sub [0, 1, 3, 4, 2] rfl) (hD.sub [0, 1, 3, 4, 2] rfl rfl) hS (lv_sub hl [0, 1, 2] rfl)
  exact HL2 9 0 dr tu wf _ _ _ (by omega) (show (0 ≤ 0 ∧ 0 ≤ (n - 1) + 1) from ⟨by omega, by omega⟩) (show dr = drN dr (Int.toNat (0)) ∧ (0 ≤ dr ∧ dr ≤ 65535) from ⟨rfl, by omega⟩) (show tu = tu + chN dr a (Int.toNat (0)) from (by show tu = tu + 0; omega)) (show gz wf wk = chX dr a (gz wf wk) (Int.toNat (0)) ∧ ∀ e : Int, 0 ≤ e → e ≤ 400 → ¬ e = wk → gz wf e = gz wf e from ⟨rfl, fun e h1 h2 h3 => rfl⟩) (hP.sub [0, 1, 2, 3, 4] rfl) (hD.sub [0, 1, 2, 3, 4] rfl rfl) hS (lv_sub hl [0, 1, 2] rfl)
end
