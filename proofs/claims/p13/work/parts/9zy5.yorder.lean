section
/-- a row's word as the reference has it -/
def yCd (w a : Int) : Int := if w = 19 then 1900 + xPm a else xPm w
theorem yCd_n {w a : Int} (h : ¬ w = 19) : yCd w a = xPm w := if_neg h
theorem yCd_t (a : Int) : yCd 19 a = 1900 + xPm a := if_pos rfl
/-- what a row of the reference holds -/
def yRS (f : Nat → Int32) (y w a b c : Int) : Prop := (w = 15 ∨ w = 22 ∨ w = 18 ∨ w = 17 ∨ w = 16 → gz f (y + 1) = a) ∧ (w = 16 → gz f (y + 2) = b) ∧ (w = 19 → (a = 15 → gz f (y + 5) = b ∧ gz f (y + 1) = c) ∧ (a = 7 → gz f (y + 1) = b) ∧ (a = 20 → gz f (y + 1) = b ∧ gz f (y + 2) = c))
theorem yRS_1 {f : Nat → Int32} {y w a b c : Int} (h : gz f (y + 1) = a) (k : ¬ w = 16 ∧ ¬ w = 19) : yRS f y w a b c := ⟨fun _ => h, fun e => absurd e k.1, fun e => absurd e k.2⟩
theorem yRS_2 {f : Nat → Int32} {y w a b c : Int} (h : gz f (y + 1) = a) (h2 : gz f (y + 2) = b) (k : ¬ w = 19) : yRS f y w a b c := ⟨fun _ => h, fun _ => h2, fun e => absurd e k⟩
theorem yRS_0 {f : Nat → Int32} {y w a b c : Int} (k : ¬ w = 15 ∧ ¬ w = 22 ∧ ¬ w = 18 ∧ ¬ w = 17 ∧ ¬ w = 16 ∧ ¬ w = 19) : yRS f y w a b c := ⟨fun e => absurd e (by omega), fun e => absurd e (by omega), fun e => absurd e (by omega)⟩
theorem yRS_15 {f : Nat → Int32} {y b c : Int} (h : gz f (y + 5) = b) (h2 : gz f (y + 1) = c) : yRS f y 19 15 b c := ⟨fun e => absurd e (by omega), fun e => absurd e (by omega), fun _ => ⟨fun _ => ⟨h, h2⟩, fun e => absurd e (by omega), fun e => absurd e (by omega)⟩⟩
theorem yRS_7 {f : Nat → Int32} {y b c : Int} (h : gz f (y + 1) = b) : yRS f y 19 7 b c := ⟨fun e => absurd e (by omega), fun e => absurd e (by omega), fun _ => ⟨fun e => absurd e (by omega), fun _ => h, fun e => absurd e (by omega)⟩⟩
theorem yRS_20 {f : Nat → Int32} {y b c : Int} (h : gz f (y + 1) = b) (h2 : gz f (y + 2) = c) : yRS f y 19 20 b c := ⟨fun e => absurd e (by omega), fun e => absurd e (by omega), fun _ => ⟨fun e => absurd e (by omega), fun e => absurd e (by omega), fun _ => ⟨h, h2⟩⟩⟩
theorem yRS.like {f g : Nat → Int32} {y w a b c : Int} (h : yRS f y w a b c) (k1 : gz g (y + 1) = gz f (y + 1)) (k2 : gz g (y + 2) = gz f (y + 2)) (k5 : gz g (y + 5) = gz f (y + 5)) : yRS g y w a b c := by
  unfold yRS at h ⊢
  rw [k1, k2, k5]
  exact h
def yRR (f : Nat → Int32) (y w a b c p : Int) : Prop := gz f y = yCd w a ∧ ((p = -1 ∧ gz f (y + 4) = 0) ∨ (¬ p = -1 ∧ gz f (y + 4) = p)) ∧ yRS f y w a b c
theorem yRR.like {f g : Nat → Int32} {y w a b c p : Int} (h : yRR f y w a b c p) (k : ∀ e : Int, y ≤ e → e < y + 6 → gz g e = gz f e) : yRR g y w a b c p := by
  obtain ⟨h1, h2, h3⟩ := h
  refine ⟨(k y (by omega) (by omega)).trans h1, ?_, h3.like (k _ (by omega) (by omega)) (k _ (by omega) (by omega)) (k _ (by omega) (by omega))⟩
  rw [k (y + 4) (by omega) (by omega)]
  exact h2
/-- the reference's rows hold YEARS under way -/
def YRL (f of0 : Nat → Int32) (d : Int) (W A B C P O : Int → Int) : Prop := (∀ i : Int, 0 ≤ i → i < d → gz of0 i = O i) ∧ ∀ j : Int, 0 ≤ j → j < gz f 3565 → yRR f (4080 + 6 * j) (W j) (A j) (B j) (C j) (P j) ∧ 0 ≤ gz f (4080 + 6 * j + 4) ∧ gz f (4080 + 6 * j + 4) < gz f 3565
theorem YRL_0 {f of0 : Nat → Int32} (h : gz f 3565 = 0) : YRL f of0 0 (fun _ => -1) (fun _ => -1) (fun _ => -1) (fun _ => -1) (fun _ => -1) (fun _ => -1) := ⟨fun i a b => absurd a (by omega), fun j a b => absurd a (by omega)⟩
/-- a step more -/
theorem YRL.add {f g of0 og : Nat → Int32} {n ct dp d2 w a b c : Int} {W A B C P O O' : Int → Int} (h : YRL f of0 dp W A B C P O) (v : YV_ n (gz f 3565, ct, dp, W, A, B, C, P, O)) (hA : ∀ e : Int, 0 ≤ e → (e < 3560 ∨ (4080 ≤ e ∧ e < 4080 + 6 * gz f 3565)) → gz g e = gz f e) (h5 : gz g 3565 = gz f 3565 + 1) (hw : gz g (4080 + (6 * gz f 3565)) = yCd w a) (hs : yRS g (4080 + (6 * gz f 3565)) w a b c) (h4 : gz g ((4080 + (6 * gz f 3565)) + 4) = 0) (ho : ∀ i : Int, 0 ≤ i → i < d2 → gz og i = O' i) : YRL g og d2 (xUp W (gz f 3565) w) (xUp A (gz f 3565) a) (xUp B (gz f 3565) b) (xUp C (gz f 3565) c) P O' := by
  obtain ⟨h1, h2⟩ := h
  obtain ⟨⟨v1, v2, v3, v4, v0⟩, v5, v6, v7, v8, v9⟩ := v
  have vr := v6 (gz f 3565) (Int.le_refl _)
  refine ⟨ho, fun j j1 j2 => ?_⟩
  unfold xUp
  by_cases q : j = gz f 3565
  · rw [if_pos q, if_pos q, if_pos q, if_pos q, q]
    exact ⟨⟨hw, Or.inl ⟨vr.2.2.2.2, h4⟩, hs⟩, by omega, by omega⟩
  · rw [if_neg q, if_neg q, if_neg q, if_neg q]
    obtain ⟨r1, r2⟩ := h2 j j1 (by omega)
    have k4 := hA (4080 + 6 * j + 4) (by omega) (Or.inr ⟨by omega, by omega⟩)
    exact ⟨r1.like (fun e e1 e2 => hA e (by omega) (Or.inr ⟨by omega, by omega⟩)), by omega, by omega⟩
theorem YRL.keep {f of0 : Nat → Int32} {dp : Int} {W A B C P O : Int → Int} (h : YRL f of0 dp W A B C P O) : ∀ i : Int, 0 ≤ i → i < dp → gz of0 i = O i := h.1
theorem YRL.push {f of0 og : Nat → Int32} {n ct dp v : Int} {W A B C P O : Int → Int} (h : YRL f of0 dp W A B C P O) (vv : YV_ n (gz f 3565, ct, dp, W, A, B, C, P, O)) (hg : og = upd of0 (iZ dp).toNatClampNeg (iZ v)) (hd : 0 ≤ dp ∧ dp < 3) (hv : -2147483648 ≤ v ∧ v < 2147483648) : ∀ i : Int, 0 ≤ i → i < dp + 1 → gz og i = xUp O dp v i := fun i a b => by
  rw [gz_up hg ⟨by omega, by omega⟩ hv a]
  unfold xUp
  by_cases q : i = dp
  · rw [if_pos q, if_pos q]
  · rw [if_neg q, if_neg q]; exact h.1 i a (by omega)
/-- an end -/
theorem YRL.close {f g g1 g2 of0 : Nat → Int32} {n ct dp e1 e2 v1 v2 : Int} {W A B C P O : Int → Int} (h : YRL f of0 dp W A B C P O) (v : YV_ n (gz f 3565, ct, dp, W, A, B, C, P, O)) (hd : 0 < dp) (hA : ∀ e : Int, 0 ≤ e → (e < 3560 ∨ (4080 ≤ e ∧ e < 4080 + 6 * gz f 3565)) → gz g e = gz f e) (h5 : gz g 3565 = gz f 3565 + 1) (hw : gz g (4080 + (6 * gz f 3565)) = 21) (hg1 : g1 = upd g (iZ e1).toNatClampNeg (iZ v1)) (he1 : e1 = (4080 + (6 * gz f 3565)) + 4) (hv1 : v1 = gz of0 (dp - 1)) (hg2 : g2 = upd g1 (iZ e2).toNatClampNeg (iZ v2)) (he2 : e2 = (4080 + (6 * gz of0 (dp - 1))) + 4) (hv2 : v2 = gz f 3565) : gz g2 3565 = gz f 3565 + 1 ∧ YRL g2 of0 (dp - 1) (xUp W (gz f 3565) 23) A B C (xUp (xUp P (gz f 3565) (O (dp - 1))) (O (dp - 1)) (gz f 3565)) O := by
  obtain ⟨h1, h2⟩ := h
  obtain ⟨⟨v1', v2', v3, v4, v0⟩, v5, v6, v7, v8, v9⟩ := v
  have vr := v6 (gz f 3565) (Int.le_refl _)
  have ho := h1 (dp - 1) (by omega) (by omega)
  have hO := v7 (dp - 1) (by omega) (by omega)
  have u1 := fun j hj => gz_upc (j := j) hg1 (by omega) (by omega) hj
  have u2 := fun j hj => gz_upc (j := j) hg2 (by omega) (by omega) hj
  have s1 := u1 3565 (by omega)
  have s2 := u2 3565 (by omega)
  have h6 : gz g2 3565 = gz f 3565 + 1 := by omega
  refine ⟨h6, fun i a b => h1 i a (by omega), fun j j1 j2 => ?_⟩
  have a0 := u1 (4080 + 6 * j) (by omega)
  have b0 := u2 (4080 + 6 * j) (by omega)
  have a1 := u1 (4080 + 6 * j + 1) (by omega)
  have b1 := u2 (4080 + 6 * j + 1) (by omega)
  have a2 := u1 (4080 + 6 * j + 2) (by omega)
  have b2 := u2 (4080 + 6 * j + 2) (by omega)
  have a4 := u1 (4080 + 6 * j + 4) (by omega)
  have b4 := u2 (4080 + 6 * j + 4) (by omega)
  have a5 := u1 (4080 + 6 * j + 5) (by omega)
  have b5 := u2 (4080 + 6 * j + 5) (by omega)
  by_cases q : j = gz f 3565
  · have eW : xUp W (gz f 3565) 23 j = 23 := by unfold xUp; rw [if_pos q]
    have eP : xUp (xUp P (gz f 3565) (O (dp - 1))) (O (dp - 1)) (gz f 3565) j = O (dp - 1) := by unfold xUp; rw [if_neg (by omega), if_pos q]
    rw [eW, eP]
    refine ⟨⟨?_, Or.inr ⟨by omega, by omega⟩, yRS_0 ⟨by omega, by omega, by omega, by omega, by omega, by omega⟩⟩, by omega, by omega⟩
    rw [yCd_n (by omega), show xPm 23 = 21 from by decide]
    have hw2 : gz g (4080 + 6 * j) = 21 := by rw [q]; exact hw
    omega
  · have eW : xUp W (gz f 3565) 23 j = W j := by unfold xUp; rw [if_neg q]
    rw [eW]
    obtain ⟨⟨r1, r2, r3⟩, r4⟩ := h2 j j1 (by omega)
    have k0 := hA (4080 + 6 * j) (by omega) (by omega)
    have k1 := hA (4080 + 6 * j + 1) (by omega) (by omega)
    have k2 := hA (4080 + 6 * j + 2) (by omega) (by omega)
    have k4 := hA (4080 + 6 * j + 4) (by omega) (by omega)
    have k5 := hA (4080 + 6 * j + 5) (by omega) (by omega)
    have c0 : gz g2 (4080 + 6 * j) = gz f (4080 + 6 * j) := by omega
    refine ⟨⟨c0.trans r1, ?_, r3.like (by omega) (by omega) (by omega)⟩, by omega, by omega⟩
    by_cases y : j = O (dp - 1)
    · have eP : xUp (xUp P (gz f 3565) (O (dp - 1))) (O (dp - 1)) (gz f 3565) j = gz f 3565 := by unfold xUp; rw [if_pos y]
      rw [eP]
      exact Or.inr ⟨by omega, by omega⟩
    · have eP : xUp (xUp P (gz f 3565) (O (dp - 1))) (O (dp - 1)) (gz f 3565) j = P j := by unfold xUp; rw [if_neg y, if_neg q]
      rw [eP]
      omega
theorem yCd_c {n w a b c : Int} (hw : yIs w ∨ w = 23) (ht : w = 19 → yTst n a b c) : (w = 15 ∧ yCd w a = 15) ∨ (w = 16 ∧ yCd w a = 16) ∨ (w = 17 ∧ yCd w a = 17) ∨ (w = 18 ∧ yCd w a = 18) ∨ (w = 19 ∧ a = 15 ∧ yCd w a = 1915) ∨ (w = 19 ∧ a = 7 ∧ yCd w a = 1909) ∨ (w = 19 ∧ a = 20 ∧ yCd w a = 1923) ∨ (w = 22 ∧ yCd w a = 20) ∨ (w = 24 ∧ yCd w a = 22) ∨ (w = 23 ∧ yCd w a = 21) := by
  have e : ∀ v k : Int, ¬ v = 19 → xPm v = k → w = v → yCd w a = k := fun v k h1 h2 h3 => by rw [h3, yCd_n h1, h2]
  have e19 : ∀ v k : Int, xPm v = k → w = 19 → a = v → yCd w a = 1900 + k := fun v k h2 h3 h4 => by rw [h3, yCd_t, h4, h2]
  rcases hw with (h | h | h | h | h | h | h) | h
  · have := e 15 15 (by omega) (by decide) h; omega
  · have := e 16 16 (by omega) (by decide) h; omega
  · have := e 17 17 (by omega) (by decide) h; omega
  · have := e 18 18 (by omega) (by decide) h; omega
  · rcases ht h with ⟨q, -⟩ | ⟨q, -⟩ | ⟨q, -⟩
    · have := e19 15 15 (by decide) h q; omega
    · have := e19 7 9 (by decide) h q; omega
    · have := e19 20 23 (by decide) h q; omega
  · have := e 22 20 (by omega) (by decide) h; omega
  · have := e 24 22 (by omega) (by decide) h; omega
  · have := e 23 21 (by omega) (by decide) h; omega
/-- what the loose reading wants of it -/
theorem YRL.nyr {f of0 : Nat → Int32} {n ct dp : Int} {W A B C P O : Int → Int} (h : YRL f of0 dp W A B C P O) (v : YV_ n (gz f 3565, ct, dp, W, A, B, C, P, O)) (hn : gz f 0 = n ∧ n ≤ 6) : NYR f of0 dp ct := by
  obtain ⟨h1, h2⟩ := h
  obtain ⟨⟨v1, v2, v3, v4, v0⟩, v5, v6, v7, v8, v9⟩ := v
  refine ⟨⟨v3, v1, v2, by omega⟩, fun i a b => ?_, fun k a b => ?_⟩
  · rw [h1 i a b]; exact v7 i a b
  · obtain ⟨⟨r1, r2, r3⟩, r4⟩ := h2 k a b
    obtain ⟨w1, w2, w3, w4⟩ := v9 k a b
    obtain ⟨n1, n2, n3, n4, n5⟩ := w2
    have c := yCd_c w1 n5
    have y1 : W k = 17 → gz f (4080 + 6 * k + 1) = A k := fun e => r3.1 (by omega)
    have y2 : W k = 19 → A k = 20 → gz f (4080 + 6 * k + 2) = C k := fun e e2 => ((r3.2.2 e).2.2 e2).2
    refine ⟨fun e => ?_, fun e => ?_, r4⟩
    · have q : W k = 17 := by omega
      have := y1 q
      have := n3 q
      omega
    · have q : W k = 19 ∧ A k = 20 := by omega
      have := y2 q.1 q.2
      rcases n5 q.1 with u | u | u <;> omega
theorem xVl_3 {T : Int → Int} {p : Int} (h : xKd T p = 3) : xVl T p = 59 ∨ xVl T p = 60 ∨ xVl T p = 62 ∨ xVl T p = 61 := by
  by_cases c : xVl T p = 59
  · exact Or.inl c
  · have q : xTc T p = .inr (xEn T p, xVl T p) := by unfold xTc; rw [if_pos ⟨h, c⟩]
    have := xTc_i q
    omega
theorem xTc_g {T : Int → Int} {p v q : Int} (h : xKd T p = 3) (hv : xVl T p = v) (c : ¬ v = 59) (hq : q = xEn T p) : xTc T p = .inr (q, v) := by
  unfold xTc
  rw [if_pos ⟨h, by omega⟩, hv, hq]
theorem xTc_b {T : Int → Int} {p fk fp : Int} (h : ¬ (xKd T p = 3 ∧ xVl T p = 60) ∧ ¬ (xKd T p = 3 ∧ xVl T p = 62) ∧ ¬ (xKd T p = 3 ∧ xVl T p = 61)) (hf : fk = xFl T p 2 ∧ fp = xPl T p) : xTc T p = .inl (fk, fp) := by
  unfold xTc xEr
  rw [if_neg (fun g => by have := xVl_3 g.1; omega), hf.1, hf.2]
theorem xRe_23 {T N : Int → Int} {n w p q a b c : Int} (hw : w = 23) (h : xRe T N n w p = .inr (q, a, b, c)) : q = p ∧ a = -1 := by
  rw [xRe_s (by omega)] at h
  cases h
  exact ⟨rfl, rfl⟩
section YPP
variable {T N : Int → Int} {n p q q1 a b c fk fp r st d : Int} {W A B C P O : Int → Int} {e : Int × Int}
theorem xYp_2 (k : ¬ yIs (xKw T p)) (k2 : xKw T p = 23 → d = 0) (h : fk = xFl T p 2 ∧ fp = xPl T p) : xYp T N n p (r, st, d, W, A, B, C, P, O) = .inl (fk, fp) := by
  unfold xYp
  by_cases g : xKw T p = 23
  · rw [if_pos g]; exact xEd_2 (k2 g) h
  · rw [if_neg g]; exact xSt_2 k h
theorem xYp_6 (k : yIs (xKw T p)) (k6 : 30 ≤ st) (h : fk = xFl T p 6 ∧ fp = xPl T p) : xYp T N n p (r, st, d, W, A, B, C, P, O) = .inl (fk, fp) := by
  have k' : xKw T p = 15 ∨ xKw T p = 16 ∨ xKw T p = 17 ∨ xKw T p = 18 ∨ xKw T p = 19 ∨ xKw T p = 22 ∨ xKw T p = 24 := k
  unfold xYp
  rw [if_neg (by omega)]; exact xSt_6 k k6 h
theorem xYp_7 (k : yIs (xKw T p)) (k6 : ¬ 30 ≤ st) (k7 : yOp (xKw T p) ∧ 3 ≤ d) (h : fk = xFl T p 7 ∧ fp = xPl T p) : xYp T N n p (r, st, d, W, A, B, C, P, O) = .inl (fk, fp) := by
  have k' : xKw T p = 15 ∨ xKw T p = 16 ∨ xKw T p = 17 ∨ xKw T p = 18 ∨ xKw T p = 19 ∨ xKw T p = 22 ∨ xKw T p = 24 := k
  unfold xYp
  rw [if_neg (by omega)]; exact xSt_7 k k6 k7 h
theorem xYp_a (k : yIs (xKw T p) ∨ xKw T p = 23) (k6 : xKw T p = 23 ∨ ¬ 30 ≤ st) (k7 : ¬ (yOp (xKw T p) ∧ 3 ≤ d)) (s1 : xRe T N n (xKw T p) (xEn T p) = .inl e) : xYp T N n p (r, st, d, W, A, B, C, P, O) = .inl e := by
  by_cases g : xKw T p = 23
  · rw [xRe_s (by omega)] at s1; cases s1
  · unfold xYp
    rw [if_neg g]; exact xSt_a (k.resolve_right g) (k6.resolve_left g) k7 s1
theorem xYp_e (g : xKw T p = 23) (hd : ¬ d = 0) (s : xTs T 59 (xEn T p) = .inr q) : xYp T N n p (r, st, d, W, A, B, C, P, O) = .inr (q, (r + 1, st, d - 1, xUp W r 23, A, B, C, xUp (xUp P r (O (d - 1))) (O (d - 1)) r, O)) := by
  unfold xYp
  rw [if_pos g]; exact xEd_ok hd s
theorem xYp_el (g : xKw T p = 23) (hd : ¬ d = 0) (s : xTs T 59 (xEn T p) = .inl e) : xYp T N n p (r, st, d, W, A, B, C, P, O) = .inl e := by
  unfold xYp
  rw [if_pos g]; exact xEd_l hd s
theorem xYp_k (o : ¬ yOp (xKw T p)) (k : yIs (xKw T p)) (k6 : ¬ 30 ≤ st) (s1 : xRe T N n (xKw T p) (xEn T p) = .inr (q1, a, b, c)) (s2 : xTs T 59 q1 = .inr q) : xYp T N n p (r, st, d, W, A, B, C, P, O) = .inr (q, (r + 1, st + 1, d, xUp W r (xKw T p), xUp A r a, xUp B r b, xUp C r c, P, O)) := by
  have k' : xKw T p = 15 ∨ xKw T p = 16 ∨ xKw T p = 17 ∨ xKw T p = 18 ∨ xKw T p = 19 ∨ xKw T p = 22 ∨ xKw T p = 24 := k
  unfold xYp
  rw [if_neg (by omega)]; exact xSt_k o k k6 s1 s2
theorem xYp_o (o : yOp (xKw T p)) (k : yIs (xKw T p)) (k6 : ¬ 30 ≤ st) (k7 : ¬ 3 ≤ d) (s1 : xRe T N n (xKw T p) (xEn T p) = .inr (q1, a, b, c)) (s2 : xTs T 59 q1 = .inr q) : xYp T N n p (r, st, d, W, A, B, C, P, O) = .inr (q, (r + 1, st + 1, d + 1, xUp W r (xKw T p), xUp A r a, xUp B r b, xUp C r c, P, xUp O d r)) := by
  have k' : xKw T p = 15 ∨ xKw T p = 16 ∨ xKw T p = 17 ∨ xKw T p = 18 ∨ xKw T p = 19 ∨ xKw T p = 22 ∨ xKw T p = 24 := k
  unfold xYp
  rw [if_neg (by omega)]; exact xSt_o o k k6 k7 s1 s2
theorem xYp_b (k : yIs (xKw T p)) (k6 : ¬ 30 ≤ st) (k7 : ¬ (yOp (xKw T p) ∧ 3 ≤ d)) (s1 : xRe T N n (xKw T p) (xEn T p) = .inr (q1, a, b, c)) (s2 : xTs T 59 q1 = .inl e) : xYp T N n p (r, st, d, W, A, B, C, P, O) = .inl e := by
  have k' : xKw T p = 15 ∨ xKw T p = 16 ∨ xKw T p = 17 ∨ xKw T p = 18 ∨ xKw T p = 19 ∨ xKw T p = 22 ∨ xKw T p = 24 := k
  unfold xYp
  rw [if_neg (by omega)]; exact xSt_b k k6 k7 s1 s2
end YPP
theorem gy_row0 {f g : Nat → Int32} {y v : Int} (hg : g = upd f (iZ y).toNatClampNeg (iZ v)) (hy : 4080 ≤ y ∧ y ≤ 4434) (hv : -2147483648 ≤ v ∧ v < 2147483648) : gz g y = v ∧ gz g (y + 1) = gz f (y + 1) ∧ gz g (y + 2) = gz f (y + 2) ∧ gz g (y + 5) = gz f (y + 5) ∧ gz g 0 = gz f 0 := ⟨gz_hit hg ⟨by omega, by omega⟩ hv, gz_missr hg ⟨by omega, by omega⟩ hv (by omega), gz_missr hg ⟨by omega, by omega⟩ hv (by omega), gz_missr hg ⟨by omega, by omega⟩ hv (by omega), gz_missl hg ⟨by omega, by omega⟩ hv ⟨by omega, by omega⟩⟩
theorem gy_row1 {f g : Nat → Int32} {y v : Int} (hg : g = upd f (iZ (y + 1)).toNatClampNeg (iZ v)) (hy : 4080 ≤ y ∧ y ≤ 4434) (hv : -2147483648 ≤ v ∧ v < 2147483648) : gz g y = gz f y ∧ gz g (y + 1) = v ∧ gz g (y + 2) = gz f (y + 2) ∧ gz g (y + 5) = gz f (y + 5) ∧ gz g 0 = gz f 0 := ⟨gz_missl hg ⟨by omega, by omega⟩ hv ⟨by omega, by omega⟩, gz_hit hg ⟨by omega, by omega⟩ hv, gz_missr hg ⟨by omega, by omega⟩ hv (by omega), gz_missr hg ⟨by omega, by omega⟩ hv (by omega), gz_missl hg ⟨by omega, by omega⟩ hv ⟨by omega, by omega⟩⟩
theorem gy_row2 {f g : Nat → Int32} {y v : Int} (hg : g = upd f (iZ (y + 2)).toNatClampNeg (iZ v)) (hy : 4080 ≤ y ∧ y ≤ 4434) (hv : -2147483648 ≤ v ∧ v < 2147483648) : gz g y = gz f y ∧ gz g (y + 1) = gz f (y + 1) ∧ gz g (y + 2) = v ∧ gz g (y + 5) = gz f (y + 5) ∧ gz g 0 = gz f 0 := ⟨gz_missl hg ⟨by omega, by omega⟩ hv ⟨by omega, by omega⟩, gz_missl hg ⟨by omega, by omega⟩ hv ⟨by omega, by omega⟩, gz_hit hg ⟨by omega, by omega⟩ hv, gz_missr hg ⟨by omega, by omega⟩ hv (by omega), gz_missl hg ⟨by omega, by omega⟩ hv ⟨by omega, by omega⟩⟩
theorem gy_row5 {f g : Nat → Int32} {y v : Int} (hg : g = upd f (iZ (y + 5)).toNatClampNeg (iZ v)) (hy : 4080 ≤ y ∧ y ≤ 4434) (hv : -2147483648 ≤ v ∧ v < 2147483648) : gz g y = gz f y ∧ gz g (y + 1) = gz f (y + 1) ∧ gz g (y + 2) = gz f (y + 2) ∧ gz g (y + 5) = v ∧ gz g 0 = gz f 0 := ⟨gz_missl hg ⟨by omega, by omega⟩ hv ⟨by omega, by omega⟩, gz_missl hg ⟨by omega, by omega⟩ hv ⟨by omega, by omega⟩, gz_missl hg ⟨by omega, by omega⟩ hv ⟨by omega, by omega⟩, gz_hit hg ⟨by omega, by omega⟩ hv, gz_missl hg ⟨by omega, by omega⟩ hv ⟨by omega, by omega⟩⟩
theorem xPm_y0 : ∀ i : Fin 26, ((15 ≤ xPm ((i.val : Int) - 1) ∧ xPm ((i.val : Int) - 1) ≤ 22) ↔ ((i.val : Int) - 1 = 15 ∨ (i.val : Int) - 1 = 16 ∨ (i.val : Int) - 1 = 17 ∨ (i.val : Int) - 1 = 18 ∨ (i.val : Int) - 1 = 19 ∨ (i.val : Int) - 1 = 22 ∨ (i.val : Int) - 1 = 24 ∨ (i.val : Int) - 1 = 23)) ∧ (xPm ((i.val : Int) - 1) = 21 ↔ (i.val : Int) - 1 = 23) ∧ (xPm ((i.val : Int) - 1) = 19 ↔ (i.val : Int) - 1 = 19) ∧ (xPm ((i.val : Int) - 1) = 20 ↔ (i.val : Int) - 1 = 22) := by decide +kernel
theorem xPm_yr {k : Int} (h : -1 ≤ k ∧ k ≤ 24) : ((15 ≤ xPm k ∧ xPm k ≤ 22) ↔ (k = 15 ∨ k = 16 ∨ k = 17 ∨ k = 18 ∨ k = 19 ∨ k = 22 ∨ k = 24 ∨ k = 23)) ∧ (xPm k = 21 ↔ k = 23) ∧ (xPm k = 19 ↔ k = 19) ∧ (xPm k = 20 ↔ k = 22) := by
  have q := xPm_y0 ⟨(k + 1).toNat, by omega⟩
  have e : (((k + 1).toNat : Nat) : Int) - 1 = k := by omega
  rw [show ((⟨(k + 1).toNat, by omega⟩ : Fin 26).val : Int) - 1 = k from e] at q
  exact q
/-- the reference's cells from a place on hold YEARS -/
def yRM (A : Nat → Int32) (b : Int) (P : PR_) : Prop := gz A (b + 5) = P.1 ∧ ∀ j : Int, 0 ≤ j → j < P.1 → yRR A (b + 520 + 6 * j) (P.2.1 j) (P.2.2.1 j) (P.2.2.2.1 j) (P.2.2.2.2.1 j) (P.2.2.2.2.2 j)
theorem yRM.of {f g of0 : Nat → Int32} {n ct dp : Int} {W A B C P O : Int → Int} (h : YRL f of0 dp W A B C P O) (v : YV_ n (gz f 3565, ct, dp, W, A, B, C, P, O)) (h5 : gz g 5 = gz f 3565) (hc : ∀ e : Int, 520 ≤ e → e < 884 → gz g e = gz f (3560 + e)) : yRM g 0 (pOf (gz f 3565, ct, dp, W, A, B, C, P, O)) := by
  obtain ⟨h1, h2⟩ := h
  obtain ⟨⟨v1, v2, v3, v4, v0⟩, v5, v6, v7, v8, v9⟩ := v
  refine ⟨(congrArg (gz g) (show (0 + 5 : Int) = 5 by omega)).trans h5, fun j a b => ?_⟩
  have b : j < gz f 3565 := b
  obtain ⟨⟨r1, r2, r3⟩, -⟩ := h2 j a b
  have k : ∀ d : Int, 0 ≤ d → d < 6 → gz g (0 + 520 + 6 * j + d) = gz f (4080 + 6 * j + d) := fun d d1 d2 => by
    have := hc (0 + 520 + 6 * j + d) (by omega) (by omega)
    rw [show 3560 + (0 + 520 + 6 * j + d) = 4080 + 6 * j + d by omega] at this
    exact this
  have k0 := k 0 (by omega) (by omega)
  rw [show 0 + 520 + 6 * j + 0 = 0 + 520 + 6 * j by omega, show 4080 + 6 * j + 0 = 4080 + 6 * j by omega] at k0
  have k1 := k 1 (by omega) (by omega)
  have k2 := k 2 (by omega) (by omega)
  have k4 := k 4 (by omega) (by omega)
  have k5 := k 5 (by omega) (by omega)
  refine ⟨k0.trans r1, ?_, ?_⟩
  · rw [k4]; exact r2
  · unfold yRS at r3 ⊢
    rw [k1, k2, k5]; exact r3
end

section
set_option maxHeartbeats 4000000 in
set_option maxRecDepth 100000 in
theorem y_rockTo (l : Launch) (D : va_G) (k : Nat → ClassId) (sa sv : Nat) (hm : Nat) (Ma : Nat) (Mn : Nat) (Ms : Nat) (My : Nat) (Mt : Nat) (Mp : Nat) (Mx : Nat) (Mo : Nat) (Mk : Nat) (Ml : Nat) (Mb : Nat) (Mh : Nat) (Mc : Nat) (Mz : Nat) (Mr : Nat) (Mq : Nat) (Mst : Int) (Mtd : Int) (Msz : Int) (Mtk : Int) (Mfr : Int) (Men : Int) (Mva : Int) (Mfk : Int) (Mfp : Int) (Mfs : Int) (Mse : Int) (Mlt : Int) (Mdp : Int) (Mct : Int) (Mdr : Int) (Mrs : Int) (Mit : Int) (Mmk : Int) (Mtp : Int64) (Mbt : Int64) (Xf : Nat → Int32) (Af : Nat → Int32) (Nf : Nat → Int64) (w : Int) (cu : Int) (n : Int) (N : Int → Int) (hTI : (0 ≤ (Mfr : Int) ∧ (Mfr : Int) ≤ Men) ∧ ((Men : Int) ≤ Msz ∧ (Msz : Int) ≤ 900) ∧ (0 ≤ (Mtk : Int) ∧ (Mtk : Int) ≤ 4) ∧ ((Mtk : Int) ≤ 4 * (Men - Mfr)) ∧ (-1 ≤ (Mva : Int) ∧ (Mva : Int) ≤ 100000)) (hf0 : Mfs = 0) (hrf : RFX (tX Xf Msz) cu Mfr Men Mtk Mva) (hn9 : gz Af 0 = n ∧ 0 ≤ n ∧ n ≤ 6) (hns0 : xNr Nf 0 N n) (h9w : 3560 ≤ w ∧ w < 5340) : SD (σ := ((Int × Int × Int × Int × Int × Int × Int) × (Int64) × ((Nat → Int32)) × (Unit))) sa sv l yX12_rockTo cX12_rockTo 2 (some .boolean) 7 D k [.ref hm, .int (iZ w)] [(hm, .inr (12, [.ref Ma, .ref Mn, .int (iZ Mst), .long Mtp, .long Mbt, .ref Ms, .ref My, .ref Mt, .ref Mp, .ref Mx, .int (iZ Mtd), .int (iZ Msz), .int (iZ Mtk), .int (iZ Mfr), .int (iZ Men), .int (iZ Mva), .int (iZ Mfk), .int (iZ Mfp), .int (iZ Mfs), .int (iZ Mse), .int (iZ Mlt), .ref Mo, .int (iZ Mdp), .int (iZ Mct), .ref Mk, .ref Ml, .ref Mb, .ref Mh, .ref Mc, .int (iZ Mdr), .int (iZ Mrs), .ref Mz, .ref Mr, .ref Mq, .int (iZ Mit), .int (iZ Mmk)])), (Mx, .inl (k 0, 900, .inl Xf)), (Ma, .inl (k 1, 5340, .inl Af)), (Mn, .inl (k 2, 36, .inr (.inl Nf)))] (fun u => some (.int (iZ u.1.1))) (fun u => ((0 ≤ (u.1.2.2.1 : Int) ∧ (u.1.2.2.1 : Int) ≤ u.1.2.2.2.1) ∧ ((u.1.2.2.2.1 : Int) ≤ Msz ∧ (Msz : Int) ≤ 900) ∧ (0 ≤ (u.1.2.1 : Int) ∧ (u.1.2.1 : Int) ≤ 4) ∧ ((u.1.2.1 : Int) ≤ 4 * (u.1.2.2.2.1 - u.1.2.2.1)) ∧ (-1 ≤ (u.1.2.2.2.2.1 : Int) ∧ (u.1.2.2.2.2.1 : Int) ≤ 100000)) ∧ (0 ≤ (u.1.2.2.2.2.2.1 : Int) ∧ (u.1.2.2.2.2.2.1 : Int) ≤ 9) ∧ (((u.1.1 : Int) = 1 ∧ ∃ (q9 v9 : Int), xTr (tX Xf Msz) N n (-1) cu = .inr (q9, v9) ∧ cu < q9 ∧ RFX (tX Xf Msz) q9 u.1.2.2.1 u.1.2.2.2.1 u.1.2.1 u.1.2.2.2.2.1 ∧ (0 ≤ v9 ∧ v9 < n) ∧ u.2.2.1 = upd Af (iZ w).toNatClampNeg (iZ v9) ∧ (u.1.2.2.2.2.2.1 : Int) = 0 ∧ u.1.2.2.2.2.2.2 = Mfp) ∨ ((u.1.1 : Int) = 0 ∧ xTr (tX Xf Msz) N n (-1) cu = .inl (u.1.2.2.2.2.2.1, u.1.2.2.2.2.2.2) ∧ 1 ≤ (u.1.2.2.2.2.2.1 : Int))) ∧ ((u.1.1 : Int) = 0 → KP u.2.2.1 Af)) (fun u => [(hm, .inr (12, [.ref Ma, .ref Mn, .int (iZ Mst), .long Mtp, .long Mbt, .ref Ms, .ref My, .ref Mt, .ref Mp, .ref Mx, .int (iZ Mtd), .int (iZ Msz), .int (iZ u.1.2.1), .int (iZ u.1.2.2.1), .int (iZ u.1.2.2.2.1), .int (iZ u.1.2.2.2.2.1), .int (iZ Mfk), .int (iZ u.1.2.2.2.2.2.2), .int (iZ u.1.2.2.2.2.2.1), .int (iZ Mse), .int (iZ Mlt), .ref Mo, .int (iZ Mdp), .int (iZ Mct), .ref Mk, .ref Ml, .ref Mb, .ref Mh, .ref Mc, .int (iZ Mdr), .int (iZ Mrs), .ref Mz, .ref Mr, .ref Mq, .int (iZ Mit), .int (iZ Mmk)])), (Mx, .inl (k 0, 900, .inl Xf)), (Ma, .inl (k 1, 5340, .inl u.2.2.1)), (Mn, .inl (k 2, 36, .inr (.inl Nf)))]) := by
  refine MSS (by decide) (Nat.le_of_ble_eq_true rfl) (fun p e s m below meth c ls A hx hb hml hr hlocks hin hts hown hKK hP hD hS hA hSY hRR hl => ?_)
  have hK := hKK.1
  have hl : lv_has ls 2 [(0, .ref hm), (1, .int (iZ w))] := hl
  obtain ⟨⟨ar_1, br_1⟩, cr_1, dr_1, er_1, gr_1, hr_1⟩ := id hrf
  have kr_1 := tk_1 dr_1 (xKd_rg _ _)
  have wr_1 := xKw_rg (tX Xf Msz) cu
  obtain ⟨hn90, hn91, hn92⟩ := id hn9
  refine lv_aload_n hx hb dX12_rockTo_0 rfl (lv_at hl 0 rfl) ?_
  refine lv_iconst (v := iZ 0) hx hb dX12_rockTo_1 rfl ?_
  refine lv_aload_n hx hb dX12_rockTo_2 rfl (lv_at hl 0 rfl) ?_
  refine va_get (D := D) (ci := 12) (v := .ref Ma) (C := RX12) (T := TX12) (N := 36) hx hb hts iX12 hown hK hP 0 rfl rfl 0 (bl rfl) (hts _ qf_X12_7) (fun _ h => h) rfl dX12_rockTo_3 ?_
  refine lv_iconst (v := iZ 0) hx hb dX12_rockTo_6 rfl ?_
  refine va_iald hx hb hK hP 2 1 rfl rfl (zin (e := 0) (n := 5340) ⟨by omega, by omega⟩ (bl rfl)) dX12_rockTo_7 ?_
  refine lv_topi (fun x_2 ex_2 => ?_)
  obtain rfl : x_2 = iZ (gz Af 0) := ex_2.trans (gz_eq ⟨by omega, by omega⟩)
  have h_3 := gz_rg Af 0
  refine lv_iload_n hx hb dX12_rockTo_8 rfl (lv_at hl 1 rfl) ?_
  refine CSV (As := [.int (iZ 0), .int (iZ (gz Af 0)), .int (iZ w)]) (rest := []) (wc := _) (wr := []) hx hb hml hown hts hKK hP hD hS hA hSY hRR (y_oldOne l D k sa sv hm Ma Mn Ms My Mt Mp Mx Mo Mk Ml Mb Mh Mc Mz Mr Mq Mst Mtd Msz Mtk Mfr Men Mva Mfk Mfp Mfs Mse Mlt Mdp Mct Mdr Mrs Mit Mmk Mtp Mbt Xf Af Nf 0 (gz Af 0) w cu N (by first | with_reducible assumption | exact (by first | with_reducible assumption | exact ⟨⟨by omega, by omega⟩, ⟨by omega, by omega⟩, ⟨by omega, by omega⟩, by omega, by omega, by omega⟩)) (by omega) hrf ⟨by omega, by omega⟩ ⟨by omega, by omega⟩ ⟨by omega, by omega⟩ (by rw [hn90]; exact hns0)) ci_X12_oldOne qm_X12_195 ⟨Nat.le_of_ble_eq_true rfl, Nat.le_of_ble_eq_true rfl⟩ ⟨Nat.le_of_ble_eq_true rfl, Nat.le_of_ble_eq_true rfl⟩ [0, 1, 2, 3] [] rfl rfl rfl rfl rfl (dj rfl) 0 rfl rfl rfl hl.1 rfl (Nat.le_of_ble_eq_true rfl) dX12_rockTo_9 (fun u_4 H locs hφ hP hD hS => ?_)
  obtain ⟨p_5, p_6, p_7, p_8⟩ : ((0 ≤ (u_4.1.2.2.1 : Int) ∧ (u_4.1.2.2.1 : Int) ≤ u_4.1.2.2.2.1) ∧ ((u_4.1.2.2.2.1 : Int) ≤ Msz ∧ (Msz : Int) ≤ 900) ∧ (0 ≤ (u_4.1.2.1 : Int) ∧ (u_4.1.2.1 : Int) ≤ 4) ∧ ((u_4.1.2.1 : Int) ≤ 4 * (u_4.1.2.2.2.1 - u_4.1.2.2.1)) ∧ (-1 ≤ (u_4.1.2.2.2.2.1 : Int) ∧ (u_4.1.2.2.2.2.1 : Int) ≤ 100000)) ∧ (0 ≤ (u_4.1.2.2.2.2.2.1 : Int) ∧ (u_4.1.2.2.2.2.2.1 : Int) ≤ 9) ∧ (((u_4.1.1 : Int) = 1 ∧ ∃ (q9 v9 : Int), xTr (tX Xf Msz) N (gz Af 0) (-1) cu = .inr (q9, v9) ∧ cu < q9 ∧ RFX (tX Xf Msz) q9 u_4.1.2.2.1 u_4.1.2.2.2.1 u_4.1.2.1 u_4.1.2.2.2.2.1 ∧ (0 ≤ v9 ∧ v9 < (gz Af 0)) ∧ u_4.2.2.1 = upd Af (iZ w).toNatClampNeg (iZ v9) ∧ (u_4.1.2.2.2.2.2.1 : Int) = 0 ∧ u_4.1.2.2.2.2.2.2 = Mfp) ∨ ((u_4.1.1 : Int) = 0 ∧ xTr (tX Xf Msz) N (gz Af 0) (-1) cu = .inl (u_4.1.2.2.2.2.2.1, u_4.1.2.2.2.2.2.2) ∧ 1 ≤ (u_4.1.2.2.2.2.2.1 : Int))) ∧ ((u_4.1.1 : Int) = 0 → KP u_4.2.2.1 Af) := hφ
  refine W.eq (g2 := F0 m 12 ls [.int (iZ u_4.1.1)]) rfl ?_
  rcases p_7 with ⟨qt_9, cut_9, yt_9, st_9, lt_9, xt_9, rt_9, ht_9, ut_9, vt_9⟩ | ⟨qt_9, st_9, bt_9⟩
  ·
    rw [qt_9]
    obtain ⟨⟨ar_10, br_10⟩, cr_10, dr_10, er_10, gr_10, hr_10⟩ := id xt_9
    have kr_10 := tk_1 dr_10 (xKd_rg _ _)
    have wr_10 := xKw_rg (tX Xf Msz) cut_9
    exact EWz hx hb hr hlocks hS ((1, u_4.1.2.1, u_4.1.2.2.1, u_4.1.2.2.2.1, u_4.1.2.2.2.2.1, u_4.1.2.2.2.2.2.1, u_4.1.2.2.2.2.2.2), 0, u_4.2.2.1, ()) rfl rfl ⟨(show (0 ≤ (u_4.1.2.2.1 : Int) ∧ (u_4.1.2.2.1 : Int) ≤ u_4.1.2.2.2.1) ∧ ((u_4.1.2.2.2.1 : Int) ≤ Msz ∧ (Msz : Int) ≤ 900) ∧ (0 ≤ (u_4.1.2.1 : Int) ∧ (u_4.1.2.1 : Int) ≤ 4) ∧ ((u_4.1.2.1 : Int) ≤ 4 * (u_4.1.2.2.2.1 - u_4.1.2.2.1)) ∧ (-1 ≤ (u_4.1.2.2.2.2.1 : Int) ∧ (u_4.1.2.2.2.2.1 : Int) ≤ 100000) from (by first | with_reducible assumption | exact (by first | with_reducible assumption | exact ⟨⟨by omega, by omega⟩, ⟨by omega, by omega⟩, ⟨by omega, by omega⟩, by omega, by omega, by omega⟩))), (show 0 ≤ (u_4.1.2.2.2.2.2.1 : Int) ∧ (u_4.1.2.2.2.2.2.1 : Int) ≤ 9 from (by omega)), (show ((1 : Int) = 1 ∧ ∃ (q9 v9 : Int), xTr (tX Xf Msz) N n (-1) cu = .inr (q9, v9) ∧ cu < q9 ∧ RFX (tX Xf Msz) q9 u_4.1.2.2.1 u_4.1.2.2.2.1 u_4.1.2.1 u_4.1.2.2.2.2.1 ∧ (0 ≤ v9 ∧ v9 < n) ∧ u_4.2.2.1 = upd Af (iZ w).toNatClampNeg (iZ v9) ∧ (u_4.1.2.2.2.2.2.1 : Int) = 0 ∧ u_4.1.2.2.2.2.2.2 = Mfp) ∨ ((1 : Int) = 0 ∧ xTr (tX Xf Msz) N n (-1) cu = .inl (u_4.1.2.2.2.2.2.1, u_4.1.2.2.2.2.2.2) ∧ 1 ≤ (u_4.1.2.2.2.2.2.1 : Int)) from (Or.inl ⟨rfl, cut_9, yt_9, (by have h9 := st_9; rw [hn90] at h9; exact h9), lt_9, xt_9, ⟨by omega, by omega⟩, ht_9, by omega, by omega⟩)), (show (1 : Int) = 0 → KP u_4.2.2.1 Af from (fun h => absurd (show (1 : Int) = 0 from h) (by decide)))⟩ (hP.sub [0, 1, 2, 3] rfl) (hD.sub [0, 1, 2, 3] rfl rfl) dX12_rockTo_12
  ·
    rw [qt_9]
    have kzt_9 := p_8 qt_9
    exact EWz hx hb hr hlocks hS ((0, u_4.1.2.1, u_4.1.2.2.1, u_4.1.2.2.2.1, u_4.1.2.2.2.2.1, u_4.1.2.2.2.2.2.1, u_4.1.2.2.2.2.2.2), 0, u_4.2.2.1, ()) rfl rfl ⟨(show (0 ≤ (u_4.1.2.2.1 : Int) ∧ (u_4.1.2.2.1 : Int) ≤ u_4.1.2.2.2.1) ∧ ((u_4.1.2.2.2.1 : Int) ≤ Msz ∧ (Msz : Int) ≤ 900) ∧ (0 ≤ (u_4.1.2.1 : Int) ∧ (u_4.1.2.1 : Int) ≤ 4) ∧ ((u_4.1.2.1 : Int) ≤ 4 * (u_4.1.2.2.2.1 - u_4.1.2.2.1)) ∧ (-1 ≤ (u_4.1.2.2.2.2.1 : Int) ∧ (u_4.1.2.2.2.2.1 : Int) ≤ 100000) from (by first | with_reducible assumption | exact (by first | with_reducible assumption | exact ⟨⟨by omega, by omega⟩, ⟨by omega, by omega⟩, ⟨by omega, by omega⟩, by omega, by omega, by omega⟩))), (show 0 ≤ (u_4.1.2.2.2.2.2.1 : Int) ∧ (u_4.1.2.2.2.2.2.1 : Int) ≤ 9 from (by omega)), (show ((0 : Int) = 1 ∧ ∃ (q9 v9 : Int), xTr (tX Xf Msz) N n (-1) cu = .inr (q9, v9) ∧ cu < q9 ∧ RFX (tX Xf Msz) q9 u_4.1.2.2.1 u_4.1.2.2.2.1 u_4.1.2.1 u_4.1.2.2.2.2.1 ∧ (0 ≤ v9 ∧ v9 < n) ∧ u_4.2.2.1 = upd Af (iZ w).toNatClampNeg (iZ v9) ∧ (u_4.1.2.2.2.2.2.1 : Int) = 0 ∧ u_4.1.2.2.2.2.2.2 = Mfp) ∨ ((0 : Int) = 0 ∧ xTr (tX Xf Msz) N n (-1) cu = .inl (u_4.1.2.2.2.2.2.1, u_4.1.2.2.2.2.2.2) ∧ 1 ≤ (u_4.1.2.2.2.2.2.1 : Int)) from (Or.inr ⟨rfl, (by have h9 := st_9; rw [hn90] at h9; exact h9), by omega⟩)), (show (0 : Int) = 0 → KP u_4.2.2.1 Af from (fun _ => kzt_9))⟩ (hP.sub [0, 1, 2, 3] rfl) (hD.sub [0, 1, 2, 3] rfl rfl) dX12_rockTo_12
set_option maxHeartbeats 4000000 in
set_option maxRecDepth 100000 in
theorem y_test (l : Launch) (D : va_G) (k : Nat → ClassId) (sa sv : Nat) (hm : Nat) (Ma : Nat) (Mn : Nat) (Ms : Nat) (My : Nat) (Mt : Nat) (Mp : Nat) (Mx : Nat) (Mo : Nat) (Mk : Nat) (Ml : Nat) (Mb : Nat) (Mh : Nat) (Mc : Nat) (Mz : Nat) (Mr : Nat) (Mq : Nat) (Mst : Int) (Mtd : Int) (Msz : Int) (Mtk : Int) (Mfr : Int) (Men : Int) (Mva : Int) (Mfk : Int) (Mfp : Int) (Mfs : Int) (Mse : Int) (Mlt : Int) (Mdp : Int) (Mct : Int) (Mdr : Int) (Mrs : Int) (Mit : Int) (Mmk : Int) (Mtp : Int64) (Mbt : Int64) (Xf : Nat → Int32) (Af : Nat → Int32) (Nf : Nat → Int64) (y : Int) (cu : Int) (n : Int) (N : Int → Int) (hTI : (0 ≤ (Mfr : Int) ∧ (Mfr : Int) ≤ Men) ∧ ((Men : Int) ≤ Msz ∧ (Msz : Int) ≤ 900) ∧ (0 ≤ (Mtk : Int) ∧ (Mtk : Int) ≤ 4) ∧ ((Mtk : Int) ≤ 4 * (Men - Mfr)) ∧ (-1 ≤ (Mva : Int) ∧ (Mva : Int) ≤ 100000)) (hf0 : Mfs = 0) (hrf : RFX (tX Xf Msz) cu Mfr Men Mtk Mva) (hn9 : gz Af 0 = n ∧ 0 ≤ n ∧ n ≤ 6) (hns0 : xNr Nf 0 N n) (h9y : 4080 ≤ y ∧ y ≤ 4434) : SD (σ := ((Int × Int × Int × Int × Int × Int × Int) × (Int64) × ((Nat → Int32)) × (Unit))) sa sv l yX12_test cX12_test 3 (some .boolean) 8 D k [.ref hm, .int (iZ y)] [(hm, .inr (12, [.ref Ma, .ref Mn, .int (iZ Mst), .long Mtp, .long Mbt, .ref Ms, .ref My, .ref Mt, .ref Mp, .ref Mx, .int (iZ Mtd), .int (iZ Msz), .int (iZ Mtk), .int (iZ Mfr), .int (iZ Men), .int (iZ Mva), .int (iZ Mfk), .int (iZ Mfp), .int (iZ Mfs), .int (iZ Mse), .int (iZ Mlt), .ref Mo, .int (iZ Mdp), .int (iZ Mct), .ref Mk, .ref Ml, .ref Mb, .ref Mh, .ref Mc, .int (iZ Mdr), .int (iZ Mrs), .ref Mz, .ref Mr, .ref Mq, .int (iZ Mit), .int (iZ Mmk)])), (Mx, .inl (k 0, 900, .inl Xf)), (Ma, .inl (k 1, 5340, .inl Af)), (Mn, .inl (k 2, 36, .inr (.inl Nf)))] (fun u => some (.int (iZ u.1.1))) (fun u => ((0 ≤ (u.1.2.2.1 : Int) ∧ (u.1.2.2.1 : Int) ≤ u.1.2.2.2.1) ∧ ((u.1.2.2.2.1 : Int) ≤ Msz ∧ (Msz : Int) ≤ 900) ∧ (0 ≤ (u.1.2.1 : Int) ∧ (u.1.2.1 : Int) ≤ 4) ∧ ((u.1.2.1 : Int) ≤ 4 * (u.1.2.2.2.1 - u.1.2.2.1)) ∧ (-1 ≤ (u.1.2.2.2.2.1 : Int) ∧ (u.1.2.2.2.2.1 : Int) ≤ 100000)) ∧ (0 ≤ (u.1.2.2.2.2.2.1 : Int) ∧ (u.1.2.2.2.2.2.1 : Int) ≤ 9) ∧ (((u.1.1 : Int) = 1 ∧ ∃ (q9 a9 b9 c9 : Int), xTe (tX Xf Msz) N n cu = .inr (q9, a9, b9, c9) ∧ cu ≤ q9 ∧ RFX (tX Xf Msz) q9 u.1.2.2.1 u.1.2.2.2.1 u.1.2.1 u.1.2.2.2.2.1 ∧ (RWR u.2.2.1 Af y ∧ gz u.2.2.1 y = 1900 + xPm a9 ∧ yRS u.2.2.1 y 19 a9 b9 c9) ∧ (u.1.2.2.2.2.2.1 : Int) = 0 ∧ u.1.2.2.2.2.2.2 = Mfp) ∨ ((u.1.1 : Int) = 0 ∧ xTe (tX Xf Msz) N n cu = .inl (u.1.2.2.2.2.2.1, u.1.2.2.2.2.2.2) ∧ 1 ≤ (u.1.2.2.2.2.2.1 : Int))) ∧ ((u.1.1 : Int) = 0 → KP u.2.2.1 Af)) (fun u => [(hm, .inr (12, [.ref Ma, .ref Mn, .int (iZ Mst), .long Mtp, .long Mbt, .ref Ms, .ref My, .ref Mt, .ref Mp, .ref Mx, .int (iZ Mtd), .int (iZ Msz), .int (iZ u.1.2.1), .int (iZ u.1.2.2.1), .int (iZ u.1.2.2.2.1), .int (iZ u.1.2.2.2.2.1), .int (iZ Mfk), .int (iZ u.1.2.2.2.2.2.2), .int (iZ u.1.2.2.2.2.2.1), .int (iZ Mse), .int (iZ Mlt), .ref Mo, .int (iZ Mdp), .int (iZ Mct), .ref Mk, .ref Ml, .ref Mb, .ref Mh, .ref Mc, .int (iZ Mdr), .int (iZ Mrs), .ref Mz, .ref Mr, .ref Mq, .int (iZ Mit), .int (iZ Mmk)])), (Mx, .inl (k 0, 900, .inl Xf)), (Ma, .inl (k 1, 5340, .inl u.2.2.1)), (Mn, .inl (k 2, 36, .inr (.inl Nf)))]) := by
  refine MSS (by decide) (Nat.le_of_ble_eq_true rfl) (fun p e s m below meth c ls A hx hb hml hr hlocks hin hts hown hKK hP hD hS hA hSY hRR hl => ?_)
  have hK := hKK.1
  have hl : lv_has ls 3 [(0, .ref hm), (1, .int (iZ y))] := hl
  obtain ⟨⟨ar_1, br_1⟩, cr_1, dr_1, er_1, gr_1, hr_1⟩ := id hrf
  have kr_1 := tk_1 dr_1 (xKd_rg _ _)
  have wr_1 := xKw_rg (tX Xf Msz) cu
  obtain ⟨hn90, hn91, hn92⟩ := id hn9
  refine lv_aload_n hx hb dX12_test_0 rfl (lv_at hl 0 rfl) ?_
  refine va_ldcS hx hb hown hRR dX12_test_1 ?_
  refine CSV (As := [.ref sa]) (rest := []) (wc := _) (wr := [(Ma, .inl (k 1, 5340, .inl Af)), (Mn, .inl (k 2, 36, .inr (.inl Nf)))]) hx hb hml hown hts hKK hP hD hS hA hSY hRR (y_inWords l D k sa sv ([.ref Ma, .ref Mn, .int (iZ Mst), .long Mtp, .long Mbt, .ref Ms, .ref My, .ref Mt, .ref Mp, .ref Mx, .int (iZ Mtd), .int (iZ Msz), .int (iZ Mtk), .int (iZ Mfr), .int (iZ Men), .int (iZ Mva), .int (iZ Mfk), .int (iZ Mfp), .int (iZ Mfs), .int (iZ Mse), .int (iZ Mlt), .ref Mo, .int (iZ Mdp), .int (iZ Mct), .ref Mk, .ref Ml, .ref Mb, .ref Mh, .ref Mc, .int (iZ Mdr), .int (iZ Mrs), .ref Mz, .ref Mr, .ref Mq, .int (iZ Mit), .int (iZ Mmk)]) hm Mx Msz Mtk Mfr Men Xf cu rfl rfl rfl rfl rfl ⟨⟨⟨by omega, by omega⟩, by omega, by omega⟩, by omega, by omega⟩ ⟨⟨br_1, cr_1⟩, dr_1, gr_1⟩) ci_X12_inWords qm_X12_167 ⟨Nat.le_of_ble_eq_true rfl, Nat.le_of_ble_eq_true rfl⟩ ⟨Nat.le_of_ble_eq_true rfl, Nat.le_of_ble_eq_true rfl⟩ [0, 1] [2, 3] rfl rfl rfl rfl rfl (dj rfl) 0 rfl rfl rfl hl.1 rfl (Nat.le_of_ble_eq_true rfl) dX12_test_3 (fun u_2 H locs hφ hP hD hS => ?_)
  have p_3 : u_2.1 = xPm (xKw (tX Xf Msz) cu) := hφ
  have pm_4 := xPm_rg (xKw_rg (tX Xf Msz) cu)
  refine W.eq (g2 := F0 m 6 ls [.int (iZ u_2.1)]) rfl ?_
  refine lv_istore_n (lv' := [(2, .int (iZ u_2.1)), (0, .ref hm), (1, .int (iZ y))]) hx hb dX12_test_6 rfl hl (bl rfl) rfl (fun ls hl => ?_)
  have pw15 : u_2.1 = 15 ↔ xKw (tX Xf Msz) cu = 15 := by have h9 := xPm_inj (a := xKw (tX Xf Msz) cu) (b := 15) (by omega) (by omega); rw [p_3, ← h9, show xPm 15 = 15 from (by decide)]
  have pw7 : u_2.1 = 9 ↔ xKw (tX Xf Msz) cu = 7 := by have h9 := xPm_inj (a := xKw (tX Xf Msz) cu) (b := 7) (by omega) (by omega); rw [p_3, ← h9, show xPm 7 = 9 from (by decide)]
  have pw20 : u_2.1 = 23 ↔ xKw (tX Xf Msz) cu = 20 := by have h9 := xPm_inj (a := xKw (tX Xf Msz) cu) (b := 20) (by omega) (by omega); rw [p_3, ← h9, show xPm 20 = 23 from (by decide)]
  have pwh : Unit → _ := fun _ => And.intro pw15 (And.intro pw7 pw20)
  clear pw15 pw7 pw20
  refine lv_iload_n hx hb dX12_test_7 rfl (lv_at hl 0 rfl) ?_
  refine lv_bipush (v := iZ 15) hx hb dX12_test_8 bip_15 ?_
  refine lv_icmp_eq (tgt := 31) hx hb dX12_test_10 rfl (fun c_5 => ?_) (fun c_5 => ?_)
  ·
    have c_5 := (zeq (x := iZ u_2.1) (y := iZ 15) rfl rfl ⟨by omega, by omega⟩ wn_15).mp c_5
    have hk9 : xKw (tX Xf Msz) cu = 15 := (by have p9 := pwh (); omega)
    refine lv_aload_n hx hb dX12_test_31 rfl (lv_at hl 1 rfl) ?_
    refine va_get (D := D) (ci := 12) (v := .ref Ma) (C := RX12) (T := TX12) (N := 36) hx hb hts iX12 hown hK hP 2 rfl rfl 0 (bl rfl) (hts _ qf_X12_7) (fun _ h => h) rfl dX12_test_32 ?_
    refine lv_iload_n hx hb dX12_test_35 rfl (lv_at hl 2 rfl) ?_
    refine lv_sipush (v := iZ 1900) hx hb dX12_test_36 sip_1900 ?_
    refine lv_iload_n hx hb dX12_test_39 rfl (lv_at hl 0 rfl) ?_
    refine lv_iadd hx hb dX12_test_40 ?_
    refine lv_topi (fun x_6 ex_6 => ?_)
    obtain rfl : x_6 = iZ (1900 + u_2.1) := ex_6.trans (iZ_add 1900 u_2.1)
    refine va_iast hx hb hK hP hD hS 0 1 rfl rfl (zin (e := y) (n := 5340) ⟨by omega, by omega⟩ (bl rfl)) dX12_test_41 (fun H locs hP hD hS => ?_)
    obtain ⟨f_7, hf_7⟩ : ∃ gg9, gg9 = upd Af (iZ y).toNatClampNeg (iZ (1900 + u_2.1)) := ⟨_, rfl⟩
    rw [← hf_7] at hP hD
    have w_8 := RWR.up (y := y) hf_7 (by omega) (by omega) ⟨by omega, by omega⟩
    obtain ⟨gau_9, gbu_9, gcu_9, gdu_9, gnu_9⟩ := gy_row0 hf_7 h9y ⟨by omega, by omega⟩
    refine lv_aload_n hx hb dX12_test_42 rfl (lv_at hl 1 rfl) ?_
    refine CWV (As := []) (rest := []) (wc := _) (wr := [(Ma, .inl (k 1, 5340, .inl f_7)), (Mn, .inl (k 2, 36, .inr (.inl Nf)))]) hx hb hml hown hts hKK hP hD hS hA (y_onward l D k hm Ma Mn Ms My Mt Mp Mx Mo Mk Ml Mb Mh Mc Mz Mr Mq Mst Mtd Msz Mtk Mfr Men Mva Mfk Mfp Mfs Mse Mlt Mdp Mct Mdr Mrs Mit Mmk Mtp Mbt Xf ⟨⟨by omega, by omega⟩, by omega⟩) ci_X12_onward qm_X12_158 ⟨Nat.le_of_ble_eq_true rfl, Nat.le_of_ble_eq_true rfl⟩ ⟨Nat.le_of_ble_eq_true rfl, Nat.le_of_ble_eq_true rfl⟩ [2, 3] [0, 1] rfl rfl rfl rfl rfl (dj rfl) 0 rfl rfl rfl hl.1 rfl (Nat.le_of_ble_eq_true rfl) dX12_test_43 (fun u_10 H locs hφ hP hD hS => ?_)
    obtain ⟨p_11, p_12, p_13⟩ : (RFX (tX Xf Msz) Men u_10.1.2.2.1 u_10.1.2.2.2.1 u_10.1.2.1 u_10.1.2.2.2.2) ∧ ((0 ≤ (u_10.1.2.2.1 : Int) ∧ (u_10.1.2.2.1 : Int) ≤ u_10.1.2.2.2.1) ∧ ((u_10.1.2.2.2.1 : Int) ≤ Msz ∧ (Msz : Int) ≤ 900) ∧ (0 ≤ (u_10.1.2.1 : Int) ∧ (u_10.1.2.1 : Int) ≤ 4) ∧ ((u_10.1.2.1 : Int) ≤ 4 * (u_10.1.2.2.2.1 - u_10.1.2.2.1)) ∧ (-1 ≤ (u_10.1.2.2.2.2 : Int) ∧ (u_10.1.2.2.2.2 : Int) ≤ 100000)) ∧ (Men ≤ u_10.1.2.2.1) := hφ
    have rx_14 := RFX.nx hrf p_11
    obtain ⟨⟨ar_15, br_15⟩, cr_15, dr_15, er_15, gr_15, hr_15⟩ := id rx_14
    have kr_15 := tk_1 dr_15 (xKd_rg _ _)
    have wr_15 := xKw_rg (tX Xf Msz) (xEn (tX Xf Msz) cu)
    refine W.eq (g2 := F0 m 46 ls []) rfl ?_
    refine lv_iload_n hx hb dX12_test_46 rfl (lv_at hl 0 rfl) ?_
    refine lv_bipush (v := iZ 9) hx hb dX12_test_47 bip_9 ?_
    refine lv_icmp_ne (tgt := 60) hx hb dX12_test_49 rfl (fun c_16 => ?_) (fun c_16 => ?_)
    ·
      have c_16 := mt (zeq (x := iZ u_2.1) (y := iZ 9) rfl rfl ⟨by omega, by omega⟩ wn_9).mpr c_16
      refine lv_iload_n hx hb dX12_test_60 rfl (lv_at hl 0 rfl) ?_
      refine lv_bipush (v := iZ 23) hx hb dX12_test_61 bip_23 ?_
      refine lv_icmp_ne (tgt := 103) hx hb dX12_test_63 rfl (fun c_17 => ?_) (fun c_17 => ?_)
      ·
        have c_17 := mt (zeq (x := iZ u_2.1) (y := iZ 23) rfl rfl ⟨by omega, by omega⟩ wn_23).mpr c_17
        refine lv_aload_n hx hb dX12_test_103 rfl (lv_at hl 1 rfl) ?_
        refine lv_bipush (v := iZ 60) hx hb dX12_test_104 bip_60 ?_
        refine CPV (As := [.int (iZ 60)]) (rest := []) hx hb hml hown hts hKK (hP.sub (ws' := [(hm, .inr (12, [.ref Ma, .ref Mn, .int (iZ Mst), .long Mtp, .long Mbt, .ref Ms, .ref My, .ref Mt, .ref Mp, .ref Mx, .int (iZ Mtd), .int (iZ Msz), .int (iZ u_10.1.2.1), .int (iZ u_10.1.2.2.1), .int (iZ u_10.1.2.2.2.1), .int (iZ u_10.1.2.2.2.2), .int (iZ Mfk), .int (iZ Mfp), .int (iZ Mfs), .int (iZ Mse), .int (iZ Mlt), .ref Mo, .int (iZ Mdp), .int (iZ Mct), .ref Mk, .ref Ml, .ref Mb, .ref Mh, .ref Mc, .int (iZ Mdr), .int (iZ Mrs), .ref Mz, .ref Mr, .ref Mq, .int (iZ Mit), .int (iZ Mmk)])), (Mx, .inl (k 0, 900, .inl Xf))]) [2, 3] rfl) (y_isSign l D k hm Ma Mn Ms My Mt Mp Mx Mo Mk Ml Mb Mh Mc Mz Mr Mq Mst Mtd Msz u_10.1.2.1 u_10.1.2.2.1 u_10.1.2.2.2.1 u_10.1.2.2.2.2 Mfk Mfp Mfs Mse Mlt Mdp Mct Mdr Mrs Mit Mmk Mtp Mbt Xf 60 (xEn (tX Xf Msz) cu) ⟨by omega, by omega⟩ (by first | with_reducible assumption | exact (by first | with_reducible assumption | exact ⟨⟨by omega, by omega⟩, ⟨by omega, by omega⟩, ⟨by omega, by omega⟩, by omega, by omega, by omega⟩)) rx_14) ci_X12_isSign qm_X12_161 ⟨Nat.le_of_ble_eq_true rfl, Nat.le_of_ble_eq_true rfl⟩ ⟨Nat.le_of_ble_eq_true rfl, Nat.le_of_ble_eq_true rfl⟩ 0 rfl rfl rfl hl.1 rfl (Nat.le_of_ble_eq_true rfl) dX12_test_106 (fun z_18 hz_18 => ?_)
        rcases hz_18 with ⟨qz_18, hz_18⟩ | ⟨qz_18, hz_18⟩
        ·
          subst qz_18
          refine lv_if_ne (tgt := 136) hx hb dX12_test_109 rfl (fun _ => ?_) (fun c => absurd c (by decide))
          refine lv_aload_n hx hb dX12_test_136 rfl (lv_at hl 1 rfl) ?_
          refine va_get (D := D) (ci := 12) (v := .ref Ma) (C := RX12) (T := TX12) (N := 36) hx hb hts iX12 hown hK hP 2 rfl rfl 0 (bl rfl) (hts _ qf_X12_7) (fun _ h => h) rfl dX12_test_137 ?_
          refine lv_iload_n hx hb dX12_test_140 rfl (lv_at hl 2 rfl) ?_
          refine lv_iconst (v := iZ 5) hx hb dX12_test_141 rfl ?_
          refine lv_iadd hx hb dX12_test_142 ?_
          refine lv_topi (fun x_20 ex_20 => ?_)
          obtain rfl : x_20 = iZ (y + 5) := ex_20.trans (iZ_add y 5)
          refine lv_aload_n hx hb dX12_test_143 rfl (lv_at hl 1 rfl) ?_
          refine va_get (D := D) (ci := 12) (v := .int (iZ u_10.1.2.2.2.2)) (C := RX12) (T := TX12) (N := 36) hx hb hts iX12 hown hK hP 2 rfl rfl 15 (bl rfl) (hts _ qf_X12_124) (fun _ h => h) rfl dX12_test_144 ?_
          refine va_iast hx hb hK hP hD hS 0 1 rfl rfl (zin (e := (y + 5)) (n := 5340) ⟨by omega, by omega⟩ (bl rfl)) dX12_test_147 (fun H locs hP hD hS => ?_)
          obtain ⟨f_21, hf_21⟩ : ∃ gg9, gg9 = upd f_7 (iZ (y + 5)).toNatClampNeg (iZ u_10.1.2.2.2.2) := ⟨_, rfl⟩
          rw [← hf_21] at hP hD
          have w_22 := RWR.up (y := y) hf_21 (by omega) (by omega) ⟨by omega, by omega⟩
          obtain ⟨gau_23, gbu_23, gcu_23, gdu_23, gnu_23⟩ := gy_row5 hf_21 h9y ⟨by omega, by omega⟩
          have hsg : xKd (tX Xf Msz) (xEn (tX Xf Msz) cu) = 3 ∧ xVl (tX Xf Msz) (xEn (tX Xf Msz) cu) = u_10.1.2.2.2.2 ∧ ¬ u_10.1.2.2.2.2 = 59 := ⟨by omega, by omega, by omega⟩
          have htc := xTc_g hsg.1 hsg.2.1 hsg.2.2 rfl
          refine lv_aload_n hx hb dX12_test_148 rfl (lv_at hl 1 rfl) ?_
          refine CWV (As := []) (rest := []) (wc := _) (wr := [(Ma, .inl (k 1, 5340, .inl f_21)), (Mn, .inl (k 2, 36, .inr (.inl Nf)))]) hx hb hml hown hts hKK hP hD hS hA (y_onward l D k hm Ma Mn Ms My Mt Mp Mx Mo Mk Ml Mb Mh Mc Mz Mr Mq Mst Mtd Msz u_10.1.2.1 u_10.1.2.2.1 u_10.1.2.2.2.1 u_10.1.2.2.2.2 Mfk Mfp Mfs Mse Mlt Mdp Mct Mdr Mrs Mit Mmk Mtp Mbt Xf ⟨⟨by omega, by omega⟩, by omega⟩) ci_X12_onward qm_X12_158 ⟨Nat.le_of_ble_eq_true rfl, Nat.le_of_ble_eq_true rfl⟩ ⟨Nat.le_of_ble_eq_true rfl, Nat.le_of_ble_eq_true rfl⟩ [2, 3] [0, 1] rfl rfl rfl rfl rfl (dj rfl) 0 rfl rfl rfl hl.1 rfl (Nat.le_of_ble_eq_true rfl) dX12_test_149 (fun u_24 H locs hφ hP hD hS => ?_)
          obtain ⟨p_25, p_26, p_27⟩ : (RFX (tX Xf Msz) u_10.1.2.2.2.1 u_24.1.2.2.1 u_24.1.2.2.2.1 u_24.1.2.1 u_24.1.2.2.2.2) ∧ ((0 ≤ (u_24.1.2.2.1 : Int) ∧ (u_24.1.2.2.1 : Int) ≤ u_24.1.2.2.2.1) ∧ ((u_24.1.2.2.2.1 : Int) ≤ Msz ∧ (Msz : Int) ≤ 900) ∧ (0 ≤ (u_24.1.2.1 : Int) ∧ (u_24.1.2.1 : Int) ≤ 4) ∧ ((u_24.1.2.1 : Int) ≤ 4 * (u_24.1.2.2.2.1 - u_24.1.2.2.1)) ∧ (-1 ≤ (u_24.1.2.2.2.2 : Int) ∧ (u_24.1.2.2.2.2 : Int) ≤ 100000)) ∧ (u_10.1.2.2.2.1 ≤ u_24.1.2.2.1) := hφ
          have rx_28 := RFX.nx rx_14 p_25
          obtain ⟨⟨ar_29, br_29⟩, cr_29, dr_29, er_29, gr_29, hr_29⟩ := id rx_28
          have kr_29 := tk_1 dr_29 (xKd_rg _ _)
          have wr_29 := xKw_rg (tX Xf Msz) (xEn (tX Xf Msz) (xEn (tX Xf Msz) cu))
          refine W.eq (g2 := F0 m 152 ls []) rfl ?_
          refine lv_aload_n hx hb dX12_test_152 rfl (lv_at hl 1 rfl) ?_
          refine lv_iload_n hx hb dX12_test_153 rfl (lv_at hl 2 rfl) ?_
          refine lv_iconst (v := iZ 1) hx hb dX12_test_154 rfl ?_
          refine lv_iadd hx hb dX12_test_155 ?_
          refine lv_topi (fun x_30 ex_30 => ?_)
          obtain rfl : x_30 = iZ (y + 1) := ex_30.trans (iZ_add y 1)
          refine lv_iconst (v := iZ 0) hx hb dX12_test_156 rfl ?_
          refine lv_sipush (v := iZ 400) hx hb dX12_test_157 sip_400 ?_
          refine CWV (As := [.int (iZ (y + 1)), .int (iZ 0), .int (iZ 400)]) (rest := []) (wc := _) (wr := [(Mn, .inl (k 2, 36, .inr (.inl Nf)))]) hx hb hml hown hts hKK hP hD hS hA (y_number l D k hm Ma Mn Ms My Mt Mp Mx Mo Mk Ml Mb Mh Mc Mz Mr Mq Mst Mtd Msz u_24.1.2.1 u_24.1.2.2.1 u_24.1.2.2.2.1 u_24.1.2.2.2.2 Mfk Mfp Mfs Mse Mlt Mdp Mct Mdr Mrs Mit Mmk Mtp Mbt Xf f_21 (y + 1) 0 400 (xEn (tX Xf Msz) (xEn (tX Xf Msz) cu)) (by first | with_reducible assumption | exact (by first | with_reducible assumption | exact ⟨⟨by omega, by omega⟩, ⟨by omega, by omega⟩, ⟨by omega, by omega⟩, by omega, by omega, by omega⟩)) (by omega) rx_28 ⟨by omega, by omega⟩ ⟨by omega, by omega⟩ ⟨by omega, by omega⟩) ci_X12_number qm_X12_188 ⟨Nat.le_of_ble_eq_true rfl, Nat.le_of_ble_eq_true rfl⟩ ⟨Nat.le_of_ble_eq_true rfl, Nat.le_of_ble_eq_true rfl⟩ [2, 3, 0] [1] rfl rfl rfl rfl rfl (dj rfl) 0 rfl rfl rfl hl.1 rfl (Nat.le_of_ble_eq_true rfl) dX12_test_160 (fun u_31 H locs hφ hP hD hS => ?_)
          obtain ⟨p_32, p_33, p_34, p_35⟩ : ((0 ≤ (u_31.1.2.2.1 : Int) ∧ (u_31.1.2.2.1 : Int) ≤ u_31.1.2.2.2.1) ∧ ((u_31.1.2.2.2.1 : Int) ≤ Msz ∧ (Msz : Int) ≤ 900) ∧ (0 ≤ (u_31.1.2.1 : Int) ∧ (u_31.1.2.1 : Int) ≤ 4) ∧ ((u_31.1.2.1 : Int) ≤ 4 * (u_31.1.2.2.2.1 - u_31.1.2.2.1)) ∧ (-1 ≤ (u_31.1.2.2.2.2.1 : Int) ∧ (u_31.1.2.2.2.2.1 : Int) ≤ 100000)) ∧ (0 ≤ (u_31.1.2.2.2.2.2.1 : Int) ∧ (u_31.1.2.2.2.2.2.1 : Int) ≤ 9) ∧ (((u_31.1.1 : Int) = 1 ∧ ∃ (q9 v9 : Int), xTn (tX Xf Msz) 0 400 (xEn (tX Xf Msz) (xEn (tX Xf Msz) cu)) = .inr (q9, v9) ∧ (xEn (tX Xf Msz) (xEn (tX Xf Msz) cu)) < q9 ∧ RFX (tX Xf Msz) q9 u_31.1.2.2.1 u_31.1.2.2.2.1 u_31.1.2.1 u_31.1.2.2.2.2.1 ∧ (0 ≤ v9 ∧ v9 ≤ 400) ∧ u_31.2.2.1 = upd f_21 (iZ (y + 1)).toNatClampNeg (iZ v9) ∧ (u_31.1.2.2.2.2.2.1 : Int) = 0 ∧ u_31.1.2.2.2.2.2.2 = Mfp) ∨ ((u_31.1.1 : Int) = 0 ∧ xTn (tX Xf Msz) 0 400 (xEn (tX Xf Msz) (xEn (tX Xf Msz) cu)) = .inl (u_31.1.2.2.2.2.2.1, u_31.1.2.2.2.2.2.2) ∧ 1 ≤ (u_31.1.2.2.2.2.2.1 : Int))) ∧ ((u_31.1.1 : Int) = 0 → u_31.2.2.1 = f_21) := hφ
          refine W.eq (g2 := F0 m 163 ls [.int (iZ u_31.1.1)]) rfl ?_
          rcases p_34 with ⟨qt_36, cut_36, yt_36, st_36, lt_36, xt_36, rt_36, ht_36, ut_36, vt_36⟩ | ⟨qt_36, st_36, bt_36⟩
          ·
            rw [qt_36]
            obtain ⟨⟨ar_37, br_37⟩, cr_37, dr_37, er_37, gr_37, hr_37⟩ := id xt_36
            have kr_37 := tk_1 dr_37 (xKd_rg _ _)
            have wr_37 := xKw_rg (tX Xf Msz) cut_36
            have w_38 := RWR.up (y := y) ht_36 (by omega) (by omega) ⟨by omega, by omega⟩
            obtain ⟨gau_39, gbu_39, gcu_39, gdu_39, gnu_39⟩ := gy_row1 ht_36 h9y ⟨by omega, by omega⟩
            exact EWz hx hb hr hlocks hS ((1, u_31.1.2.1, u_31.1.2.2.1, u_31.1.2.2.2.1, u_31.1.2.2.2.2.1, u_31.1.2.2.2.2.2.1, u_31.1.2.2.2.2.2.2), 0, u_31.2.2.1, ()) rfl rfl ⟨(show (0 ≤ (u_31.1.2.2.1 : Int) ∧ (u_31.1.2.2.1 : Int) ≤ u_31.1.2.2.2.1) ∧ ((u_31.1.2.2.2.1 : Int) ≤ Msz ∧ (Msz : Int) ≤ 900) ∧ (0 ≤ (u_31.1.2.1 : Int) ∧ (u_31.1.2.1 : Int) ≤ 4) ∧ ((u_31.1.2.1 : Int) ≤ 4 * (u_31.1.2.2.2.1 - u_31.1.2.2.1)) ∧ (-1 ≤ (u_31.1.2.2.2.2.1 : Int) ∧ (u_31.1.2.2.2.2.1 : Int) ≤ 100000) from (by first | with_reducible assumption | exact (by first | with_reducible assumption | exact ⟨⟨by omega, by omega⟩, ⟨by omega, by omega⟩, ⟨by omega, by omega⟩, by omega, by omega, by omega⟩))), (show 0 ≤ (u_31.1.2.2.2.2.2.1 : Int) ∧ (u_31.1.2.2.2.2.2.1 : Int) ≤ 9 from (by omega)), (show ((1 : Int) = 1 ∧ ∃ (q9 a9 b9 c9 : Int), xTe (tX Xf Msz) N n cu = .inr (q9, a9, b9, c9) ∧ cu ≤ q9 ∧ RFX (tX Xf Msz) q9 u_31.1.2.2.1 u_31.1.2.2.2.1 u_31.1.2.1 u_31.1.2.2.2.2.1 ∧ (RWR u_31.2.2.1 Af y ∧ gz u_31.2.2.1 y = 1900 + xPm a9 ∧ yRS u_31.2.2.1 y 19 a9 b9 c9) ∧ (u_31.1.2.2.2.2.2.1 : Int) = 0 ∧ u_31.1.2.2.2.2.2.2 = Mfp) ∨ ((1 : Int) = 0 ∧ xTe (tX Xf Msz) N n cu = .inl (u_31.1.2.2.2.2.2.1, u_31.1.2.2.2.2.2.2) ∧ 1 ≤ (u_31.1.2.2.2.2.2.1 : Int)) from (Or.inl ⟨rfl, cut_36, 15, u_10.1.2.2.2.2, yt_36, xTe_15 (show xKw (tX Xf Msz) cu = 15 from (by omega)) htc st_36, by omega, xt_36, ⟨(RWR.tr w_38 (RWR.tr w_22 w_8)), by rw [show xPm 15 = 15 from (by decide)]; omega, yRS_15 (by omega) (by omega)⟩, by omega, by omega⟩)), (show (1 : Int) = 0 → KP u_31.2.2.1 Af from (fun h => absurd (show (1 : Int) = 0 from h) (by decide)))⟩ (hP.sub [1, 2, 3, 0] rfl) (hD.sub [1, 2, 3, 0] rfl rfl) dX12_test_163
          ·
            rw [qt_36]
            have kzt_36 := p_35 qt_36
            exact EWz hx hb hr hlocks hS ((0, u_31.1.2.1, u_31.1.2.2.1, u_31.1.2.2.2.1, u_31.1.2.2.2.2.1, u_31.1.2.2.2.2.2.1, u_31.1.2.2.2.2.2.2), 0, u_31.2.2.1, ()) rfl rfl ⟨(show (0 ≤ (u_31.1.2.2.1 : Int) ∧ (u_31.1.2.2.1 : Int) ≤ u_31.1.2.2.2.1) ∧ ((u_31.1.2.2.2.1 : Int) ≤ Msz ∧ (Msz : Int) ≤ 900) ∧ (0 ≤ (u_31.1.2.1 : Int) ∧ (u_31.1.2.1 : Int) ≤ 4) ∧ ((u_31.1.2.1 : Int) ≤ 4 * (u_31.1.2.2.2.1 - u_31.1.2.2.1)) ∧ (-1 ≤ (u_31.1.2.2.2.2.1 : Int) ∧ (u_31.1.2.2.2.2.1 : Int) ≤ 100000) from (by first | with_reducible assumption | exact (by first | with_reducible assumption | exact ⟨⟨by omega, by omega⟩, ⟨by omega, by omega⟩, ⟨by omega, by omega⟩, by omega, by omega, by omega⟩))), (show 0 ≤ (u_31.1.2.2.2.2.2.1 : Int) ∧ (u_31.1.2.2.2.2.2.1 : Int) ≤ 9 from (by omega)), (show ((0 : Int) = 1 ∧ ∃ (q9 a9 b9 c9 : Int), xTe (tX Xf Msz) N n cu = .inr (q9, a9, b9, c9) ∧ cu ≤ q9 ∧ RFX (tX Xf Msz) q9 u_31.1.2.2.1 u_31.1.2.2.2.1 u_31.1.2.1 u_31.1.2.2.2.2.1 ∧ (RWR u_31.2.2.1 Af y ∧ gz u_31.2.2.1 y = 1900 + xPm a9 ∧ yRS u_31.2.2.1 y 19 a9 b9 c9) ∧ (u_31.1.2.2.2.2.2.1 : Int) = 0 ∧ u_31.1.2.2.2.2.2.2 = Mfp) ∨ ((0 : Int) = 0 ∧ xTe (tX Xf Msz) N n cu = .inl (u_31.1.2.2.2.2.2.1, u_31.1.2.2.2.2.2.2) ∧ 1 ≤ (u_31.1.2.2.2.2.2.1 : Int)) from (Or.inr ⟨rfl, xTe_15b (show xKw (tX Xf Msz) cu = 15 from (by omega)) htc st_36, by omega⟩)), (show (0 : Int) = 0 → KP u_31.2.2.1 Af from (fun _ => (by rw [kzt_36]; exact (RWR.kp (RWR.tr w_22 w_8) (by omega)))))⟩ (hP.sub [1, 2, 3, 0] rfl) (hD.sub [1, 2, 3, 0] rfl rfl) dX12_test_163
        ·
          subst qz_18
          refine lv_if_ne (tgt := 136) hx hb dX12_test_109 rfl (fun c => absurd (by decide) c) (fun _ => ?_)
          refine lv_aload_n hx hb dX12_test_112 rfl (lv_at hl 1 rfl) ?_
          refine lv_bipush (v := iZ 62) hx hb dX12_test_113 bip_62 ?_
          refine CPV (As := [.int (iZ 62)]) (rest := []) hx hb hml hown hts hKK (hP.sub (ws' := [(hm, .inr (12, [.ref Ma, .ref Mn, .int (iZ Mst), .long Mtp, .long Mbt, .ref Ms, .ref My, .ref Mt, .ref Mp, .ref Mx, .int (iZ Mtd), .int (iZ Msz), .int (iZ u_10.1.2.1), .int (iZ u_10.1.2.2.1), .int (iZ u_10.1.2.2.2.1), .int (iZ u_10.1.2.2.2.2), .int (iZ Mfk), .int (iZ Mfp), .int (iZ Mfs), .int (iZ Mse), .int (iZ Mlt), .ref Mo, .int (iZ Mdp), .int (iZ Mct), .ref Mk, .ref Ml, .ref Mb, .ref Mh, .ref Mc, .int (iZ Mdr), .int (iZ Mrs), .ref Mz, .ref Mr, .ref Mq, .int (iZ Mit), .int (iZ Mmk)])), (Mx, .inl (k 0, 900, .inl Xf))]) [2, 3] rfl) (y_isSign l D k hm Ma Mn Ms My Mt Mp Mx Mo Mk Ml Mb Mh Mc Mz Mr Mq Mst Mtd Msz u_10.1.2.1 u_10.1.2.2.1 u_10.1.2.2.2.1 u_10.1.2.2.2.2 Mfk Mfp Mfs Mse Mlt Mdp Mct Mdr Mrs Mit Mmk Mtp Mbt Xf 62 (xEn (tX Xf Msz) cu) ⟨by omega, by omega⟩ (by first | with_reducible assumption | exact (by first | with_reducible assumption | exact ⟨⟨by omega, by omega⟩, ⟨by omega, by omega⟩, ⟨by omega, by omega⟩, by omega, by omega, by omega⟩)) rx_14) ci_X12_isSign qm_X12_161 ⟨Nat.le_of_ble_eq_true rfl, Nat.le_of_ble_eq_true rfl⟩ ⟨Nat.le_of_ble_eq_true rfl, Nat.le_of_ble_eq_true rfl⟩ 0 rfl rfl rfl hl.1 rfl (Nat.le_of_ble_eq_true rfl) dX12_test_115 (fun z_41 hz_41 => ?_)
          rcases hz_41 with ⟨qz_41, hz_41⟩ | ⟨qz_41, hz_41⟩
          ·
            subst qz_41
            refine lv_if_ne (tgt := 136) hx hb dX12_test_118 rfl (fun _ => ?_) (fun c => absurd c (by decide))
            refine lv_aload_n hx hb dX12_test_136 rfl (lv_at hl 1 rfl) ?_
            refine va_get (D := D) (ci := 12) (v := .ref Ma) (C := RX12) (T := TX12) (N := 36) hx hb hts iX12 hown hK hP 2 rfl rfl 0 (bl rfl) (hts _ qf_X12_7) (fun _ h => h) rfl dX12_test_137 ?_
            refine lv_iload_n hx hb dX12_test_140 rfl (lv_at hl 2 rfl) ?_
            refine lv_iconst (v := iZ 5) hx hb dX12_test_141 rfl ?_
            refine lv_iadd hx hb dX12_test_142 ?_
            refine lv_topi (fun x_43 ex_43 => ?_)
            obtain rfl : x_43 = iZ (y + 5) := ex_43.trans (iZ_add y 5)
            refine lv_aload_n hx hb dX12_test_143 rfl (lv_at hl 1 rfl) ?_
            refine va_get (D := D) (ci := 12) (v := .int (iZ u_10.1.2.2.2.2)) (C := RX12) (T := TX12) (N := 36) hx hb hts iX12 hown hK hP 2 rfl rfl 15 (bl rfl) (hts _ qf_X12_124) (fun _ h => h) rfl dX12_test_144 ?_
            refine va_iast hx hb hK hP hD hS 0 1 rfl rfl (zin (e := (y + 5)) (n := 5340) ⟨by omega, by omega⟩ (bl rfl)) dX12_test_147 (fun H locs hP hD hS => ?_)
            obtain ⟨f_44, hf_44⟩ : ∃ gg9, gg9 = upd f_7 (iZ (y + 5)).toNatClampNeg (iZ u_10.1.2.2.2.2) := ⟨_, rfl⟩
            rw [← hf_44] at hP hD
            have w_45 := RWR.up (y := y) hf_44 (by omega) (by omega) ⟨by omega, by omega⟩
            obtain ⟨gau_46, gbu_46, gcu_46, gdu_46, gnu_46⟩ := gy_row5 hf_44 h9y ⟨by omega, by omega⟩
            have hsg : xKd (tX Xf Msz) (xEn (tX Xf Msz) cu) = 3 ∧ xVl (tX Xf Msz) (xEn (tX Xf Msz) cu) = u_10.1.2.2.2.2 ∧ ¬ u_10.1.2.2.2.2 = 59 := ⟨by omega, by omega, by omega⟩
            have htc := xTc_g hsg.1 hsg.2.1 hsg.2.2 rfl
            refine lv_aload_n hx hb dX12_test_148 rfl (lv_at hl 1 rfl) ?_
            refine CWV (As := []) (rest := []) (wc := _) (wr := [(Ma, .inl (k 1, 5340, .inl f_44)), (Mn, .inl (k 2, 36, .inr (.inl Nf)))]) hx hb hml hown hts hKK hP hD hS hA (y_onward l D k hm Ma Mn Ms My Mt Mp Mx Mo Mk Ml Mb Mh Mc Mz Mr Mq Mst Mtd Msz u_10.1.2.1 u_10.1.2.2.1 u_10.1.2.2.2.1 u_10.1.2.2.2.2 Mfk Mfp Mfs Mse Mlt Mdp Mct Mdr Mrs Mit Mmk Mtp Mbt Xf ⟨⟨by omega, by omega⟩, by omega⟩) ci_X12_onward qm_X12_158 ⟨Nat.le_of_ble_eq_true rfl, Nat.le_of_ble_eq_true rfl⟩ ⟨Nat.le_of_ble_eq_true rfl, Nat.le_of_ble_eq_true rfl⟩ [2, 3] [0, 1] rfl rfl rfl rfl rfl (dj rfl) 0 rfl rfl rfl hl.1 rfl (Nat.le_of_ble_eq_true rfl) dX12_test_149 (fun u_47 H locs hφ hP hD hS => ?_)
            obtain ⟨p_48, p_49, p_50⟩ : (RFX (tX Xf Msz) u_10.1.2.2.2.1 u_47.1.2.2.1 u_47.1.2.2.2.1 u_47.1.2.1 u_47.1.2.2.2.2) ∧ ((0 ≤ (u_47.1.2.2.1 : Int) ∧ (u_47.1.2.2.1 : Int) ≤ u_47.1.2.2.2.1) ∧ ((u_47.1.2.2.2.1 : Int) ≤ Msz ∧ (Msz : Int) ≤ 900) ∧ (0 ≤ (u_47.1.2.1 : Int) ∧ (u_47.1.2.1 : Int) ≤ 4) ∧ ((u_47.1.2.1 : Int) ≤ 4 * (u_47.1.2.2.2.1 - u_47.1.2.2.1)) ∧ (-1 ≤ (u_47.1.2.2.2.2 : Int) ∧ (u_47.1.2.2.2.2 : Int) ≤ 100000)) ∧ (u_10.1.2.2.2.1 ≤ u_47.1.2.2.1) := hφ
            have rx_51 := RFX.nx rx_14 p_48
            obtain ⟨⟨ar_52, br_52⟩, cr_52, dr_52, er_52, gr_52, hr_52⟩ := id rx_51
            have kr_52 := tk_1 dr_52 (xKd_rg _ _)
            have wr_52 := xKw_rg (tX Xf Msz) (xEn (tX Xf Msz) (xEn (tX Xf Msz) cu))
            refine W.eq (g2 := F0 m 152 ls []) rfl ?_
            refine lv_aload_n hx hb dX12_test_152 rfl (lv_at hl 1 rfl) ?_
            refine lv_iload_n hx hb dX12_test_153 rfl (lv_at hl 2 rfl) ?_
            refine lv_iconst (v := iZ 1) hx hb dX12_test_154 rfl ?_
            refine lv_iadd hx hb dX12_test_155 ?_
            refine lv_topi (fun x_53 ex_53 => ?_)
            obtain rfl : x_53 = iZ (y + 1) := ex_53.trans (iZ_add y 1)
            refine lv_iconst (v := iZ 0) hx hb dX12_test_156 rfl ?_
            refine lv_sipush (v := iZ 400) hx hb dX12_test_157 sip_400 ?_
            refine CWV (As := [.int (iZ (y + 1)), .int (iZ 0), .int (iZ 400)]) (rest := []) (wc := _) (wr := [(Mn, .inl (k 2, 36, .inr (.inl Nf)))]) hx hb hml hown hts hKK hP hD hS hA (y_number l D k hm Ma Mn Ms My Mt Mp Mx Mo Mk Ml Mb Mh Mc Mz Mr Mq Mst Mtd Msz u_47.1.2.1 u_47.1.2.2.1 u_47.1.2.2.2.1 u_47.1.2.2.2.2 Mfk Mfp Mfs Mse Mlt Mdp Mct Mdr Mrs Mit Mmk Mtp Mbt Xf f_44 (y + 1) 0 400 (xEn (tX Xf Msz) (xEn (tX Xf Msz) cu)) (by first | with_reducible assumption | exact (by first | with_reducible assumption | exact ⟨⟨by omega, by omega⟩, ⟨by omega, by omega⟩, ⟨by omega, by omega⟩, by omega, by omega, by omega⟩)) (by omega) rx_51 ⟨by omega, by omega⟩ ⟨by omega, by omega⟩ ⟨by omega, by omega⟩) ci_X12_number qm_X12_188 ⟨Nat.le_of_ble_eq_true rfl, Nat.le_of_ble_eq_true rfl⟩ ⟨Nat.le_of_ble_eq_true rfl, Nat.le_of_ble_eq_true rfl⟩ [2, 3, 0] [1] rfl rfl rfl rfl rfl (dj rfl) 0 rfl rfl rfl hl.1 rfl (Nat.le_of_ble_eq_true rfl) dX12_test_160 (fun u_54 H locs hφ hP hD hS => ?_)
            obtain ⟨p_55, p_56, p_57, p_58⟩ : ((0 ≤ (u_54.1.2.2.1 : Int) ∧ (u_54.1.2.2.1 : Int) ≤ u_54.1.2.2.2.1) ∧ ((u_54.1.2.2.2.1 : Int) ≤ Msz ∧ (Msz : Int) ≤ 900) ∧ (0 ≤ (u_54.1.2.1 : Int) ∧ (u_54.1.2.1 : Int) ≤ 4) ∧ ((u_54.1.2.1 : Int) ≤ 4 * (u_54.1.2.2.2.1 - u_54.1.2.2.1)) ∧ (-1 ≤ (u_54.1.2.2.2.2.1 : Int) ∧ (u_54.1.2.2.2.2.1 : Int) ≤ 100000)) ∧ (0 ≤ (u_54.1.2.2.2.2.2.1 : Int) ∧ (u_54.1.2.2.2.2.2.1 : Int) ≤ 9) ∧ (((u_54.1.1 : Int) = 1 ∧ ∃ (q9 v9 : Int), xTn (tX Xf Msz) 0 400 (xEn (tX Xf Msz) (xEn (tX Xf Msz) cu)) = .inr (q9, v9) ∧ (xEn (tX Xf Msz) (xEn (tX Xf Msz) cu)) < q9 ∧ RFX (tX Xf Msz) q9 u_54.1.2.2.1 u_54.1.2.2.2.1 u_54.1.2.1 u_54.1.2.2.2.2.1 ∧ (0 ≤ v9 ∧ v9 ≤ 400) ∧ u_54.2.2.1 = upd f_44 (iZ (y + 1)).toNatClampNeg (iZ v9) ∧ (u_54.1.2.2.2.2.2.1 : Int) = 0 ∧ u_54.1.2.2.2.2.2.2 = Mfp) ∨ ((u_54.1.1 : Int) = 0 ∧ xTn (tX Xf Msz) 0 400 (xEn (tX Xf Msz) (xEn (tX Xf Msz) cu)) = .inl (u_54.1.2.2.2.2.2.1, u_54.1.2.2.2.2.2.2) ∧ 1 ≤ (u_54.1.2.2.2.2.2.1 : Int))) ∧ ((u_54.1.1 : Int) = 0 → u_54.2.2.1 = f_44) := hφ
            refine W.eq (g2 := F0 m 163 ls [.int (iZ u_54.1.1)]) rfl ?_
            rcases p_57 with ⟨qt_59, cut_59, yt_59, st_59, lt_59, xt_59, rt_59, ht_59, ut_59, vt_59⟩ | ⟨qt_59, st_59, bt_59⟩
            ·
              rw [qt_59]
              obtain ⟨⟨ar_60, br_60⟩, cr_60, dr_60, er_60, gr_60, hr_60⟩ := id xt_59
              have kr_60 := tk_1 dr_60 (xKd_rg _ _)
              have wr_60 := xKw_rg (tX Xf Msz) cut_59
              have w_61 := RWR.up (y := y) ht_59 (by omega) (by omega) ⟨by omega, by omega⟩
              obtain ⟨gau_62, gbu_62, gcu_62, gdu_62, gnu_62⟩ := gy_row1 ht_59 h9y ⟨by omega, by omega⟩
              exact EWz hx hb hr hlocks hS ((1, u_54.1.2.1, u_54.1.2.2.1, u_54.1.2.2.2.1, u_54.1.2.2.2.2.1, u_54.1.2.2.2.2.2.1, u_54.1.2.2.2.2.2.2), 0, u_54.2.2.1, ()) rfl rfl ⟨(show (0 ≤ (u_54.1.2.2.1 : Int) ∧ (u_54.1.2.2.1 : Int) ≤ u_54.1.2.2.2.1) ∧ ((u_54.1.2.2.2.1 : Int) ≤ Msz ∧ (Msz : Int) ≤ 900) ∧ (0 ≤ (u_54.1.2.1 : Int) ∧ (u_54.1.2.1 : Int) ≤ 4) ∧ ((u_54.1.2.1 : Int) ≤ 4 * (u_54.1.2.2.2.1 - u_54.1.2.2.1)) ∧ (-1 ≤ (u_54.1.2.2.2.2.1 : Int) ∧ (u_54.1.2.2.2.2.1 : Int) ≤ 100000) from (by first | with_reducible assumption | exact (by first | with_reducible assumption | exact ⟨⟨by omega, by omega⟩, ⟨by omega, by omega⟩, ⟨by omega, by omega⟩, by omega, by omega, by omega⟩))), (show 0 ≤ (u_54.1.2.2.2.2.2.1 : Int) ∧ (u_54.1.2.2.2.2.2.1 : Int) ≤ 9 from (by omega)), (show ((1 : Int) = 1 ∧ ∃ (q9 a9 b9 c9 : Int), xTe (tX Xf Msz) N n cu = .inr (q9, a9, b9, c9) ∧ cu ≤ q9 ∧ RFX (tX Xf Msz) q9 u_54.1.2.2.1 u_54.1.2.2.2.1 u_54.1.2.1 u_54.1.2.2.2.2.1 ∧ (RWR u_54.2.2.1 Af y ∧ gz u_54.2.2.1 y = 1900 + xPm a9 ∧ yRS u_54.2.2.1 y 19 a9 b9 c9) ∧ (u_54.1.2.2.2.2.2.1 : Int) = 0 ∧ u_54.1.2.2.2.2.2.2 = Mfp) ∨ ((1 : Int) = 0 ∧ xTe (tX Xf Msz) N n cu = .inl (u_54.1.2.2.2.2.2.1, u_54.1.2.2.2.2.2.2) ∧ 1 ≤ (u_54.1.2.2.2.2.2.1 : Int)) from (Or.inl ⟨rfl, cut_59, 15, u_10.1.2.2.2.2, yt_59, xTe_15 (show xKw (tX Xf Msz) cu = 15 from (by omega)) htc st_59, by omega, xt_59, ⟨(RWR.tr w_61 (RWR.tr w_45 w_8)), by rw [show xPm 15 = 15 from (by decide)]; omega, yRS_15 (by omega) (by omega)⟩, by omega, by omega⟩)), (show (1 : Int) = 0 → KP u_54.2.2.1 Af from (fun h => absurd (show (1 : Int) = 0 from h) (by decide)))⟩ (hP.sub [1, 2, 3, 0] rfl) (hD.sub [1, 2, 3, 0] rfl rfl) dX12_test_163
            ·
              rw [qt_59]
              have kzt_59 := p_58 qt_59
              exact EWz hx hb hr hlocks hS ((0, u_54.1.2.1, u_54.1.2.2.1, u_54.1.2.2.2.1, u_54.1.2.2.2.2.1, u_54.1.2.2.2.2.2.1, u_54.1.2.2.2.2.2.2), 0, u_54.2.2.1, ()) rfl rfl ⟨(show (0 ≤ (u_54.1.2.2.1 : Int) ∧ (u_54.1.2.2.1 : Int) ≤ u_54.1.2.2.2.1) ∧ ((u_54.1.2.2.2.1 : Int) ≤ Msz ∧ (Msz : Int) ≤ 900) ∧ (0 ≤ (u_54.1.2.1 : Int) ∧ (u_54.1.2.1 : Int) ≤ 4) ∧ ((u_54.1.2.1 : Int) ≤ 4 * (u_54.1.2.2.2.1 - u_54.1.2.2.1)) ∧ (-1 ≤ (u_54.1.2.2.2.2.1 : Int) ∧ (u_54.1.2.2.2.2.1 : Int) ≤ 100000) from (by first | with_reducible assumption | exact (by first | with_reducible assumption | exact ⟨⟨by omega, by omega⟩, ⟨by omega, by omega⟩, ⟨by omega, by omega⟩, by omega, by omega, by omega⟩))), (show 0 ≤ (u_54.1.2.2.2.2.2.1 : Int) ∧ (u_54.1.2.2.2.2.2.1 : Int) ≤ 9 from (by omega)), (show ((0 : Int) = 1 ∧ ∃ (q9 a9 b9 c9 : Int), xTe (tX Xf Msz) N n cu = .inr (q9, a9, b9, c9) ∧ cu ≤ q9 ∧ RFX (tX Xf Msz) q9 u_54.1.2.2.1 u_54.1.2.2.2.1 u_54.1.2.1 u_54.1.2.2.2.2.1 ∧ (RWR u_54.2.2.1 Af y ∧ gz u_54.2.2.1 y = 1900 + xPm a9 ∧ yRS u_54.2.2.1 y 19 a9 b9 c9) ∧ (u_54.1.2.2.2.2.2.1 : Int) = 0 ∧ u_54.1.2.2.2.2.2.2 = Mfp) ∨ ((0 : Int) = 0 ∧ xTe (tX Xf Msz) N n cu = .inl (u_54.1.2.2.2.2.2.1, u_54.1.2.2.2.2.2.2) ∧ 1 ≤ (u_54.1.2.2.2.2.2.1 : Int)) from (Or.inr ⟨rfl, xTe_15b (show xKw (tX Xf Msz) cu = 15 from (by omega)) htc st_59, by omega⟩)), (show (0 : Int) = 0 → KP u_54.2.2.1 Af from (fun _ => (by rw [kzt_59]; exact (RWR.kp (RWR.tr w_45 w_8) (by omega)))))⟩ (hP.sub [1, 2, 3, 0] rfl) (hD.sub [1, 2, 3, 0] rfl rfl) dX12_test_163
          ·
            subst qz_41
            refine lv_if_ne (tgt := 136) hx hb dX12_test_118 rfl (fun c => absurd (by decide) c) (fun _ => ?_)
            refine lv_aload_n hx hb dX12_test_121 rfl (lv_at hl 1 rfl) ?_
            refine lv_bipush (v := iZ 61) hx hb dX12_test_122 bip_61 ?_
            refine CPV (As := [.int (iZ 61)]) (rest := []) hx hb hml hown hts hKK (hP.sub (ws' := [(hm, .inr (12, [.ref Ma, .ref Mn, .int (iZ Mst), .long Mtp, .long Mbt, .ref Ms, .ref My, .ref Mt, .ref Mp, .ref Mx, .int (iZ Mtd), .int (iZ Msz), .int (iZ u_10.1.2.1), .int (iZ u_10.1.2.2.1), .int (iZ u_10.1.2.2.2.1), .int (iZ u_10.1.2.2.2.2), .int (iZ Mfk), .int (iZ Mfp), .int (iZ Mfs), .int (iZ Mse), .int (iZ Mlt), .ref Mo, .int (iZ Mdp), .int (iZ Mct), .ref Mk, .ref Ml, .ref Mb, .ref Mh, .ref Mc, .int (iZ Mdr), .int (iZ Mrs), .ref Mz, .ref Mr, .ref Mq, .int (iZ Mit), .int (iZ Mmk)])), (Mx, .inl (k 0, 900, .inl Xf))]) [2, 3] rfl) (y_isSign l D k hm Ma Mn Ms My Mt Mp Mx Mo Mk Ml Mb Mh Mc Mz Mr Mq Mst Mtd Msz u_10.1.2.1 u_10.1.2.2.1 u_10.1.2.2.2.1 u_10.1.2.2.2.2 Mfk Mfp Mfs Mse Mlt Mdp Mct Mdr Mrs Mit Mmk Mtp Mbt Xf 61 (xEn (tX Xf Msz) cu) ⟨by omega, by omega⟩ (by first | with_reducible assumption | exact (by first | with_reducible assumption | exact ⟨⟨by omega, by omega⟩, ⟨by omega, by omega⟩, ⟨by omega, by omega⟩, by omega, by omega, by omega⟩)) rx_14) ci_X12_isSign qm_X12_161 ⟨Nat.le_of_ble_eq_true rfl, Nat.le_of_ble_eq_true rfl⟩ ⟨Nat.le_of_ble_eq_true rfl, Nat.le_of_ble_eq_true rfl⟩ 0 rfl rfl rfl hl.1 rfl (Nat.le_of_ble_eq_true rfl) dX12_test_124 (fun z_64 hz_64 => ?_)
            rcases hz_64 with ⟨qz_64, hz_64⟩ | ⟨qz_64, hz_64⟩
            ·
              subst qz_64
              refine lv_if_ne (tgt := 136) hx hb dX12_test_127 rfl (fun _ => ?_) (fun c => absurd c (by decide))
              refine lv_aload_n hx hb dX12_test_136 rfl (lv_at hl 1 rfl) ?_
              refine va_get (D := D) (ci := 12) (v := .ref Ma) (C := RX12) (T := TX12) (N := 36) hx hb hts iX12 hown hK hP 2 rfl rfl 0 (bl rfl) (hts _ qf_X12_7) (fun _ h => h) rfl dX12_test_137 ?_
              refine lv_iload_n hx hb dX12_test_140 rfl (lv_at hl 2 rfl) ?_
              refine lv_iconst (v := iZ 5) hx hb dX12_test_141 rfl ?_
              refine lv_iadd hx hb dX12_test_142 ?_
              refine lv_topi (fun x_66 ex_66 => ?_)
              obtain rfl : x_66 = iZ (y + 5) := ex_66.trans (iZ_add y 5)
              refine lv_aload_n hx hb dX12_test_143 rfl (lv_at hl 1 rfl) ?_
              refine va_get (D := D) (ci := 12) (v := .int (iZ u_10.1.2.2.2.2)) (C := RX12) (T := TX12) (N := 36) hx hb hts iX12 hown hK hP 2 rfl rfl 15 (bl rfl) (hts _ qf_X12_124) (fun _ h => h) rfl dX12_test_144 ?_
              refine va_iast hx hb hK hP hD hS 0 1 rfl rfl (zin (e := (y + 5)) (n := 5340) ⟨by omega, by omega⟩ (bl rfl)) dX12_test_147 (fun H locs hP hD hS => ?_)
              obtain ⟨f_67, hf_67⟩ : ∃ gg9, gg9 = upd f_7 (iZ (y + 5)).toNatClampNeg (iZ u_10.1.2.2.2.2) := ⟨_, rfl⟩
              rw [← hf_67] at hP hD
              have w_68 := RWR.up (y := y) hf_67 (by omega) (by omega) ⟨by omega, by omega⟩
              obtain ⟨gau_69, gbu_69, gcu_69, gdu_69, gnu_69⟩ := gy_row5 hf_67 h9y ⟨by omega, by omega⟩
              have hsg : xKd (tX Xf Msz) (xEn (tX Xf Msz) cu) = 3 ∧ xVl (tX Xf Msz) (xEn (tX Xf Msz) cu) = u_10.1.2.2.2.2 ∧ ¬ u_10.1.2.2.2.2 = 59 := ⟨by omega, by omega, by omega⟩
              have htc := xTc_g hsg.1 hsg.2.1 hsg.2.2 rfl
              refine lv_aload_n hx hb dX12_test_148 rfl (lv_at hl 1 rfl) ?_
              refine CWV (As := []) (rest := []) (wc := _) (wr := [(Ma, .inl (k 1, 5340, .inl f_67)), (Mn, .inl (k 2, 36, .inr (.inl Nf)))]) hx hb hml hown hts hKK hP hD hS hA (y_onward l D k hm Ma Mn Ms My Mt Mp Mx Mo Mk Ml Mb Mh Mc Mz Mr Mq Mst Mtd Msz u_10.1.2.1 u_10.1.2.2.1 u_10.1.2.2.2.1 u_10.1.2.2.2.2 Mfk Mfp Mfs Mse Mlt Mdp Mct Mdr Mrs Mit Mmk Mtp Mbt Xf ⟨⟨by omega, by omega⟩, by omega⟩) ci_X12_onward qm_X12_158 ⟨Nat.le_of_ble_eq_true rfl, Nat.le_of_ble_eq_true rfl⟩ ⟨Nat.le_of_ble_eq_true rfl, Nat.le_of_ble_eq_true rfl⟩ [2, 3] [0, 1] rfl rfl rfl rfl rfl (dj rfl) 0 rfl rfl rfl hl.1 rfl (Nat.le_of_ble_eq_true rfl) dX12_test_149 (fun u_70 H locs hφ hP hD hS => ?_)
              obtain ⟨p_71, p_72, p_73⟩ : (RFX (tX Xf Msz) u_10.1.2.2.2.1 u_70.1.2.2.1 u_70.1.2.2.2.1 u_70.1.2.1 u_70.1.2.2.2.2) ∧ ((0 ≤ (u_70.1.2.2.1 : Int) ∧ (u_70.1.2.2.1 : Int) ≤ u_70.1.2.2.2.1) ∧ ((u_70.1.2.2.2.1 : Int) ≤ Msz ∧ (Msz : Int) ≤ 900) ∧ (0 ≤ (u_70.1.2.1 : Int) ∧ (u_70.1.2.1 : Int) ≤ 4) ∧ ((u_70.1.2.1 : Int) ≤ 4 * (u_70.1.2.2.2.1 - u_70.1.2.2.1)) ∧ (-1 ≤ (u_70.1.2.2.2.2 : Int) ∧ (u_70.1.2.2.2.2 : Int) ≤ 100000)) ∧ (u_10.1.2.2.2.1 ≤ u_70.1.2.2.1) := hφ
              have rx_74 := RFX.nx rx_14 p_71
              obtain ⟨⟨ar_75, br_75⟩, cr_75, dr_75, er_75, gr_75, hr_75⟩ := id rx_74
              have kr_75 := tk_1 dr_75 (xKd_rg _ _)
              have wr_75 := xKw_rg (tX Xf Msz) (xEn (tX Xf Msz) (xEn (tX Xf Msz) cu))
              refine W.eq (g2 := F0 m 152 ls []) rfl ?_
              refine lv_aload_n hx hb dX12_test_152 rfl (lv_at hl 1 rfl) ?_
              refine lv_iload_n hx hb dX12_test_153 rfl (lv_at hl 2 rfl) ?_
              refine lv_iconst (v := iZ 1) hx hb dX12_test_154 rfl ?_
              refine lv_iadd hx hb dX12_test_155 ?_
              refine lv_topi (fun x_76 ex_76 => ?_)
              obtain rfl : x_76 = iZ (y + 1) := ex_76.trans (iZ_add y 1)
              refine lv_iconst (v := iZ 0) hx hb dX12_test_156 rfl ?_
              refine lv_sipush (v := iZ 400) hx hb dX12_test_157 sip_400 ?_
              refine CWV (As := [.int (iZ (y + 1)), .int (iZ 0), .int (iZ 400)]) (rest := []) (wc := _) (wr := [(Mn, .inl (k 2, 36, .inr (.inl Nf)))]) hx hb hml hown hts hKK hP hD hS hA (y_number l D k hm Ma Mn Ms My Mt Mp Mx Mo Mk Ml Mb Mh Mc Mz Mr Mq Mst Mtd Msz u_70.1.2.1 u_70.1.2.2.1 u_70.1.2.2.2.1 u_70.1.2.2.2.2 Mfk Mfp Mfs Mse Mlt Mdp Mct Mdr Mrs Mit Mmk Mtp Mbt Xf f_67 (y + 1) 0 400 (xEn (tX Xf Msz) (xEn (tX Xf Msz) cu)) (by first | with_reducible assumption | exact (by first | with_reducible assumption | exact ⟨⟨by omega, by omega⟩, ⟨by omega, by omega⟩, ⟨by omega, by omega⟩, by omega, by omega, by omega⟩)) (by omega) rx_74 ⟨by omega, by omega⟩ ⟨by omega, by omega⟩ ⟨by omega, by omega⟩) ci_X12_number qm_X12_188 ⟨Nat.le_of_ble_eq_true rfl, Nat.le_of_ble_eq_true rfl⟩ ⟨Nat.le_of_ble_eq_true rfl, Nat.le_of_ble_eq_true rfl⟩ [2, 3, 0] [1] rfl rfl rfl rfl rfl (dj rfl) 0 rfl rfl rfl hl.1 rfl (Nat.le_of_ble_eq_true rfl) dX12_test_160 (fun u_77 H locs hφ hP hD hS => ?_)
              obtain ⟨p_78, p_79, p_80, p_81⟩ : ((0 ≤ (u_77.1.2.2.1 : Int) ∧ (u_77.1.2.2.1 : Int) ≤ u_77.1.2.2.2.1) ∧ ((u_77.1.2.2.2.1 : Int) ≤ Msz ∧ (Msz : Int) ≤ 900) ∧ (0 ≤ (u_77.1.2.1 : Int) ∧ (u_77.1.2.1 : Int) ≤ 4) ∧ ((u_77.1.2.1 : Int) ≤ 4 * (u_77.1.2.2.2.1 - u_77.1.2.2.1)) ∧ (-1 ≤ (u_77.1.2.2.2.2.1 : Int) ∧ (u_77.1.2.2.2.2.1 : Int) ≤ 100000)) ∧ (0 ≤ (u_77.1.2.2.2.2.2.1 : Int) ∧ (u_77.1.2.2.2.2.2.1 : Int) ≤ 9) ∧ (((u_77.1.1 : Int) = 1 ∧ ∃ (q9 v9 : Int), xTn (tX Xf Msz) 0 400 (xEn (tX Xf Msz) (xEn (tX Xf Msz) cu)) = .inr (q9, v9) ∧ (xEn (tX Xf Msz) (xEn (tX Xf Msz) cu)) < q9 ∧ RFX (tX Xf Msz) q9 u_77.1.2.2.1 u_77.1.2.2.2.1 u_77.1.2.1 u_77.1.2.2.2.2.1 ∧ (0 ≤ v9 ∧ v9 ≤ 400) ∧ u_77.2.2.1 = upd f_67 (iZ (y + 1)).toNatClampNeg (iZ v9) ∧ (u_77.1.2.2.2.2.2.1 : Int) = 0 ∧ u_77.1.2.2.2.2.2.2 = Mfp) ∨ ((u_77.1.1 : Int) = 0 ∧ xTn (tX Xf Msz) 0 400 (xEn (tX Xf Msz) (xEn (tX Xf Msz) cu)) = .inl (u_77.1.2.2.2.2.2.1, u_77.1.2.2.2.2.2.2) ∧ 1 ≤ (u_77.1.2.2.2.2.2.1 : Int))) ∧ ((u_77.1.1 : Int) = 0 → u_77.2.2.1 = f_67) := hφ
              refine W.eq (g2 := F0 m 163 ls [.int (iZ u_77.1.1)]) rfl ?_
              rcases p_80 with ⟨qt_82, cut_82, yt_82, st_82, lt_82, xt_82, rt_82, ht_82, ut_82, vt_82⟩ | ⟨qt_82, st_82, bt_82⟩
              ·
                rw [qt_82]
                obtain ⟨⟨ar_83, br_83⟩, cr_83, dr_83, er_83, gr_83, hr_83⟩ := id xt_82
                have kr_83 := tk_1 dr_83 (xKd_rg _ _)
                have wr_83 := xKw_rg (tX Xf Msz) cut_82
                have w_84 := RWR.up (y := y) ht_82 (by omega) (by omega) ⟨by omega, by omega⟩
                obtain ⟨gau_85, gbu_85, gcu_85, gdu_85, gnu_85⟩ := gy_row1 ht_82 h9y ⟨by omega, by omega⟩
                exact EWz hx hb hr hlocks hS ((1, u_77.1.2.1, u_77.1.2.2.1, u_77.1.2.2.2.1, u_77.1.2.2.2.2.1, u_77.1.2.2.2.2.2.1, u_77.1.2.2.2.2.2.2), 0, u_77.2.2.1, ()) rfl rfl ⟨(show (0 ≤ (u_77.1.2.2.1 : Int) ∧ (u_77.1.2.2.1 : Int) ≤ u_77.1.2.2.2.1) ∧ ((u_77.1.2.2.2.1 : Int) ≤ Msz ∧ (Msz : Int) ≤ 900) ∧ (0 ≤ (u_77.1.2.1 : Int) ∧ (u_77.1.2.1 : Int) ≤ 4) ∧ ((u_77.1.2.1 : Int) ≤ 4 * (u_77.1.2.2.2.1 - u_77.1.2.2.1)) ∧ (-1 ≤ (u_77.1.2.2.2.2.1 : Int) ∧ (u_77.1.2.2.2.2.1 : Int) ≤ 100000) from (by first | with_reducible assumption | exact (by first | with_reducible assumption | exact ⟨⟨by omega, by omega⟩, ⟨by omega, by omega⟩, ⟨by omega, by omega⟩, by omega, by omega, by omega⟩))), (show 0 ≤ (u_77.1.2.2.2.2.2.1 : Int) ∧ (u_77.1.2.2.2.2.2.1 : Int) ≤ 9 from (by omega)), (show ((1 : Int) = 1 ∧ ∃ (q9 a9 b9 c9 : Int), xTe (tX Xf Msz) N n cu = .inr (q9, a9, b9, c9) ∧ cu ≤ q9 ∧ RFX (tX Xf Msz) q9 u_77.1.2.2.1 u_77.1.2.2.2.1 u_77.1.2.1 u_77.1.2.2.2.2.1 ∧ (RWR u_77.2.2.1 Af y ∧ gz u_77.2.2.1 y = 1900 + xPm a9 ∧ yRS u_77.2.2.1 y 19 a9 b9 c9) ∧ (u_77.1.2.2.2.2.2.1 : Int) = 0 ∧ u_77.1.2.2.2.2.2.2 = Mfp) ∨ ((1 : Int) = 0 ∧ xTe (tX Xf Msz) N n cu = .inl (u_77.1.2.2.2.2.2.1, u_77.1.2.2.2.2.2.2) ∧ 1 ≤ (u_77.1.2.2.2.2.2.1 : Int)) from (Or.inl ⟨rfl, cut_82, 15, u_10.1.2.2.2.2, yt_82, xTe_15 (show xKw (tX Xf Msz) cu = 15 from (by omega)) htc st_82, by omega, xt_82, ⟨(RWR.tr w_84 (RWR.tr w_68 w_8)), by rw [show xPm 15 = 15 from (by decide)]; omega, yRS_15 (by omega) (by omega)⟩, by omega, by omega⟩)), (show (1 : Int) = 0 → KP u_77.2.2.1 Af from (fun h => absurd (show (1 : Int) = 0 from h) (by decide)))⟩ (hP.sub [1, 2, 3, 0] rfl) (hD.sub [1, 2, 3, 0] rfl rfl) dX12_test_163
              ·
                rw [qt_82]
                have kzt_82 := p_81 qt_82
                exact EWz hx hb hr hlocks hS ((0, u_77.1.2.1, u_77.1.2.2.1, u_77.1.2.2.2.1, u_77.1.2.2.2.2.1, u_77.1.2.2.2.2.2.1, u_77.1.2.2.2.2.2.2), 0, u_77.2.2.1, ()) rfl rfl ⟨(show (0 ≤ (u_77.1.2.2.1 : Int) ∧ (u_77.1.2.2.1 : Int) ≤ u_77.1.2.2.2.1) ∧ ((u_77.1.2.2.2.1 : Int) ≤ Msz ∧ (Msz : Int) ≤ 900) ∧ (0 ≤ (u_77.1.2.1 : Int) ∧ (u_77.1.2.1 : Int) ≤ 4) ∧ ((u_77.1.2.1 : Int) ≤ 4 * (u_77.1.2.2.2.1 - u_77.1.2.2.1)) ∧ (-1 ≤ (u_77.1.2.2.2.2.1 : Int) ∧ (u_77.1.2.2.2.2.1 : Int) ≤ 100000) from (by first | with_reducible assumption | exact (by first | with_reducible assumption | exact ⟨⟨by omega, by omega⟩, ⟨by omega, by omega⟩, ⟨by omega, by omega⟩, by omega, by omega, by omega⟩))), (show 0 ≤ (u_77.1.2.2.2.2.2.1 : Int) ∧ (u_77.1.2.2.2.2.2.1 : Int) ≤ 9 from (by omega)), (show ((0 : Int) = 1 ∧ ∃ (q9 a9 b9 c9 : Int), xTe (tX Xf Msz) N n cu = .inr (q9, a9, b9, c9) ∧ cu ≤ q9 ∧ RFX (tX Xf Msz) q9 u_77.1.2.2.1 u_77.1.2.2.2.1 u_77.1.2.1 u_77.1.2.2.2.2.1 ∧ (RWR u_77.2.2.1 Af y ∧ gz u_77.2.2.1 y = 1900 + xPm a9 ∧ yRS u_77.2.2.1 y 19 a9 b9 c9) ∧ (u_77.1.2.2.2.2.2.1 : Int) = 0 ∧ u_77.1.2.2.2.2.2.2 = Mfp) ∨ ((0 : Int) = 0 ∧ xTe (tX Xf Msz) N n cu = .inl (u_77.1.2.2.2.2.2.1, u_77.1.2.2.2.2.2.2) ∧ 1 ≤ (u_77.1.2.2.2.2.2.1 : Int)) from (Or.inr ⟨rfl, xTe_15b (show xKw (tX Xf Msz) cu = 15 from (by omega)) htc st_82, by omega⟩)), (show (0 : Int) = 0 → KP u_77.2.2.1 Af from (fun _ => (by rw [kzt_82]; exact (RWR.kp (RWR.tr w_68 w_8) (by omega)))))⟩ (hP.sub [1, 2, 3, 0] rfl) (hD.sub [1, 2, 3, 0] rfl rfl) dX12_test_163
            ·
              subst qz_64
              refine lv_if_ne (tgt := 136) hx hb dX12_test_127 rfl (fun c => absurd (by decide) c) (fun _ => ?_)
              refine lv_aload_n hx hb dX12_test_130 rfl (lv_at hl 1 rfl) ?_
              refine lv_iconst (v := iZ 2) hx hb dX12_test_131 rfl ?_
              refine CWV (As := [.int (iZ 2)]) (rest := []) (wc := _) (wr := [(Ma, .inl (k 1, 5340, .inl f_7)), (Mn, .inl (k 2, 36, .inr (.inl Nf)))]) hx hb hml hown hts hKK hP hD hS hA (y_fails l D k hm Ma Mn Ms My Mt Mp Mx Mo Mk Ml Mb Mh Mc Mz Mr Mq Mst Mtd Msz u_10.1.2.1 u_10.1.2.2.1 u_10.1.2.2.2.1 u_10.1.2.2.2.2 Mfk Mfp Mfs Mse Mlt Mdp Mct Mdr Mrs Mit Mmk Mtp Mbt Xf 2 (xEn (tX Xf Msz) cu) ⟨by omega, by omega⟩ (by omega) rx_14) ci_X12_fails qm_X12_164 ⟨Nat.le_of_ble_eq_true rfl, Nat.le_of_ble_eq_true rfl⟩ ⟨Nat.le_of_ble_eq_true rfl, Nat.le_of_ble_eq_true rfl⟩ [2, 3] [0, 1] rfl rfl rfl rfl rfl (dj rfl) 0 rfl rfl rfl hl.1 rfl (Nat.le_of_ble_eq_true rfl) dX12_test_132 (fun u_87 H locs hφ hP hD hS => ?_)
              obtain ⟨p_88, p_89⟩ : (u_87.1.2.1 = xFl (tX Xf Msz) (xEn (tX Xf Msz) cu) 2 ∧ u_87.1.2.2 = xPl (tX Xf Msz) (xEn (tX Xf Msz) cu)) ∧ (1 ≤ (u_87.1.2.1 : Int) ∧ (u_87.1.2.1 : Int) ≤ 9) := hφ
              refine W.eq (g2 := F0 m 135 ls [.int (iZ 0)]) rfl ?_
              exact EWz hx hb hr hlocks hS ((0, u_10.1.2.1, u_10.1.2.2.1, u_10.1.2.2.2.1, u_10.1.2.2.2.2, u_87.1.2.1, u_87.1.2.2), 0, f_7, ()) rfl rfl ⟨(show (0 ≤ (u_10.1.2.2.1 : Int) ∧ (u_10.1.2.2.1 : Int) ≤ u_10.1.2.2.2.1) ∧ ((u_10.1.2.2.2.1 : Int) ≤ Msz ∧ (Msz : Int) ≤ 900) ∧ (0 ≤ (u_10.1.2.1 : Int) ∧ (u_10.1.2.1 : Int) ≤ 4) ∧ ((u_10.1.2.1 : Int) ≤ 4 * (u_10.1.2.2.2.1 - u_10.1.2.2.1)) ∧ (-1 ≤ (u_10.1.2.2.2.2 : Int) ∧ (u_10.1.2.2.2.2 : Int) ≤ 100000) from (by first | with_reducible assumption | exact (by first | with_reducible assumption | exact ⟨⟨by omega, by omega⟩, ⟨by omega, by omega⟩, ⟨by omega, by omega⟩, by omega, by omega, by omega⟩))), (show 0 ≤ (u_87.1.2.1 : Int) ∧ (u_87.1.2.1 : Int) ≤ 9 from (by omega)), (show ((0 : Int) = 1 ∧ ∃ (q9 a9 b9 c9 : Int), xTe (tX Xf Msz) N n cu = .inr (q9, a9, b9, c9) ∧ cu ≤ q9 ∧ RFX (tX Xf Msz) q9 u_10.1.2.2.1 u_10.1.2.2.2.1 u_10.1.2.1 u_10.1.2.2.2.2 ∧ (RWR f_7 Af y ∧ gz f_7 y = 1900 + xPm a9 ∧ yRS f_7 y 19 a9 b9 c9) ∧ (u_87.1.2.1 : Int) = 0 ∧ u_87.1.2.2 = Mfp) ∨ ((0 : Int) = 0 ∧ xTe (tX Xf Msz) N n cu = .inl (u_87.1.2.1, u_87.1.2.2) ∧ 1 ≤ (u_87.1.2.1 : Int)) from (Or.inr ⟨rfl, xTe_15a (show xKw (tX Xf Msz) cu = 15 from (by omega)) (xTc_b ⟨by omega, by omega, by omega⟩ p_88), by omega⟩)), (show (0 : Int) = 0 → KP f_7 Af from (fun _ => (RWR.kp w_8 (by omega))))⟩ (hP.sub [2, 3, 0, 1] rfl) (hD.sub [2, 3, 0, 1] rfl rfl) dX12_test_135
      ·
        have c_17 := (zeq (x := iZ u_2.1) (y := iZ 23) rfl rfl ⟨by omega, by omega⟩ wn_23).mp c_17
        exact absurd c_17 (by omega)
    ·
      have c_16 := (zeq (x := iZ u_2.1) (y := iZ 9) rfl rfl ⟨by omega, by omega⟩ wn_9).mp c_16
      exact absurd c_16 (by omega)
  ·
    have c_5 := mt (zeq (x := iZ u_2.1) (y := iZ 15) rfl rfl ⟨by omega, by omega⟩ wn_15).mpr c_5
    refine lv_iload_n hx hb dX12_test_13 rfl (lv_at hl 0 rfl) ?_
    refine lv_bipush (v := iZ 9) hx hb dX12_test_14 bip_9 ?_
    refine lv_icmp_eq (tgt := 31) hx hb dX12_test_16 rfl (fun c_90 => ?_) (fun c_90 => ?_)
    ·
      have c_90 := (zeq (x := iZ u_2.1) (y := iZ 9) rfl rfl ⟨by omega, by omega⟩ wn_9).mp c_90
      have hk9 : xKw (tX Xf Msz) cu = 7 := (by have p9 := pwh (); omega)
      refine lv_aload_n hx hb dX12_test_31 rfl (lv_at hl 1 rfl) ?_
      refine va_get (D := D) (ci := 12) (v := .ref Ma) (C := RX12) (T := TX12) (N := 36) hx hb hts iX12 hown hK hP 2 rfl rfl 0 (bl rfl) (hts _ qf_X12_7) (fun _ h => h) rfl dX12_test_32 ?_
      refine lv_iload_n hx hb dX12_test_35 rfl (lv_at hl 2 rfl) ?_
      refine lv_sipush (v := iZ 1900) hx hb dX12_test_36 sip_1900 ?_
      refine lv_iload_n hx hb dX12_test_39 rfl (lv_at hl 0 rfl) ?_
      refine lv_iadd hx hb dX12_test_40 ?_
      refine lv_topi (fun x_91 ex_91 => ?_)
      obtain rfl : x_91 = iZ (1900 + u_2.1) := ex_91.trans (iZ_add 1900 u_2.1)
      refine va_iast hx hb hK hP hD hS 0 1 rfl rfl (zin (e := y) (n := 5340) ⟨by omega, by omega⟩ (bl rfl)) dX12_test_41 (fun H locs hP hD hS => ?_)
      obtain ⟨f_92, hf_92⟩ : ∃ gg9, gg9 = upd Af (iZ y).toNatClampNeg (iZ (1900 + u_2.1)) := ⟨_, rfl⟩
      rw [← hf_92] at hP hD
      have w_93 := RWR.up (y := y) hf_92 (by omega) (by omega) ⟨by omega, by omega⟩
      obtain ⟨gau_94, gbu_94, gcu_94, gdu_94, gnu_94⟩ := gy_row0 hf_92 h9y ⟨by omega, by omega⟩
      refine lv_aload_n hx hb dX12_test_42 rfl (lv_at hl 1 rfl) ?_
      refine CWV (As := []) (rest := []) (wc := _) (wr := [(Ma, .inl (k 1, 5340, .inl f_92)), (Mn, .inl (k 2, 36, .inr (.inl Nf)))]) hx hb hml hown hts hKK hP hD hS hA (y_onward l D k hm Ma Mn Ms My Mt Mp Mx Mo Mk Ml Mb Mh Mc Mz Mr Mq Mst Mtd Msz Mtk Mfr Men Mva Mfk Mfp Mfs Mse Mlt Mdp Mct Mdr Mrs Mit Mmk Mtp Mbt Xf ⟨⟨by omega, by omega⟩, by omega⟩) ci_X12_onward qm_X12_158 ⟨Nat.le_of_ble_eq_true rfl, Nat.le_of_ble_eq_true rfl⟩ ⟨Nat.le_of_ble_eq_true rfl, Nat.le_of_ble_eq_true rfl⟩ [2, 3] [0, 1] rfl rfl rfl rfl rfl (dj rfl) 0 rfl rfl rfl hl.1 rfl (Nat.le_of_ble_eq_true rfl) dX12_test_43 (fun u_95 H locs hφ hP hD hS => ?_)
      obtain ⟨p_96, p_97, p_98⟩ : (RFX (tX Xf Msz) Men u_95.1.2.2.1 u_95.1.2.2.2.1 u_95.1.2.1 u_95.1.2.2.2.2) ∧ ((0 ≤ (u_95.1.2.2.1 : Int) ∧ (u_95.1.2.2.1 : Int) ≤ u_95.1.2.2.2.1) ∧ ((u_95.1.2.2.2.1 : Int) ≤ Msz ∧ (Msz : Int) ≤ 900) ∧ (0 ≤ (u_95.1.2.1 : Int) ∧ (u_95.1.2.1 : Int) ≤ 4) ∧ ((u_95.1.2.1 : Int) ≤ 4 * (u_95.1.2.2.2.1 - u_95.1.2.2.1)) ∧ (-1 ≤ (u_95.1.2.2.2.2 : Int) ∧ (u_95.1.2.2.2.2 : Int) ≤ 100000)) ∧ (Men ≤ u_95.1.2.2.1) := hφ
      have rx_99 := RFX.nx hrf p_96
      obtain ⟨⟨ar_100, br_100⟩, cr_100, dr_100, er_100, gr_100, hr_100⟩ := id rx_99
      have kr_100 := tk_1 dr_100 (xKd_rg _ _)
      have wr_100 := xKw_rg (tX Xf Msz) (xEn (tX Xf Msz) cu)
      refine W.eq (g2 := F0 m 46 ls []) rfl ?_
      refine lv_iload_n hx hb dX12_test_46 rfl (lv_at hl 0 rfl) ?_
      refine lv_bipush (v := iZ 9) hx hb dX12_test_47 bip_9 ?_
      refine lv_icmp_ne (tgt := 60) hx hb dX12_test_49 rfl (fun c_101 => ?_) (fun c_101 => ?_)
      ·
        have c_101 := mt (zeq (x := iZ u_2.1) (y := iZ 9) rfl rfl ⟨by omega, by omega⟩ wn_9).mpr c_101
        exact absurd c_101 (by omega)
      ·
        have c_101 := (zeq (x := iZ u_2.1) (y := iZ 9) rfl rfl ⟨by omega, by omega⟩ wn_9).mp c_101
        refine lv_aload_n hx hb dX12_test_52 rfl (lv_at hl 1 rfl) ?_
        refine lv_iload_n hx hb dX12_test_53 rfl (lv_at hl 2 rfl) ?_
        refine lv_iconst (v := iZ 1) hx hb dX12_test_54 rfl ?_
        refine lv_iadd hx hb dX12_test_55 ?_
        refine lv_topi (fun x_102 ex_102 => ?_)
        obtain rfl : x_102 = iZ (y + 1) := ex_102.trans (iZ_add y 1)
        refine CSV (As := [.int (iZ (y + 1))]) (rest := []) (wc := _) (wr := []) hx hb hml hown hts hKK hP hD hS hA hSY hRR (y_rockTo l D k sa sv hm Ma Mn Ms My Mt Mp Mx Mo Mk Ml Mb Mh Mc Mz Mr Mq Mst Mtd Msz u_95.1.2.1 u_95.1.2.2.1 u_95.1.2.2.2.1 u_95.1.2.2.2.2 Mfk Mfp Mfs Mse Mlt Mdp Mct Mdr Mrs Mit Mmk Mtp Mbt Xf f_92 Nf (y + 1) (xEn (tX Xf Msz) cu) n N (by first | with_reducible assumption | exact ⟨⟨by omega, by omega⟩, ⟨by omega, by omega⟩, ⟨by omega, by omega⟩, by omega, by omega, by omega⟩) (by omega) rx_99 ⟨by omega, by omega, by omega⟩ hns0 ⟨by omega, by omega⟩) ci_X12_rockTo qm_X12_225 ⟨Nat.le_of_ble_eq_true rfl, Nat.le_of_ble_eq_true rfl⟩ ⟨Nat.le_of_ble_eq_true rfl, Nat.le_of_ble_eq_true rfl⟩ [2, 3, 0, 1] [] rfl rfl rfl rfl rfl (dj rfl) 0 rfl rfl rfl hl.1 rfl (Nat.le_of_ble_eq_true rfl) dX12_test_56 (fun u_103 H locs hφ hP hD hS => ?_)
        obtain ⟨p_104, p_105, p_106, p_107⟩ : ((0 ≤ (u_103.1.2.2.1 : Int) ∧ (u_103.1.2.2.1 : Int) ≤ u_103.1.2.2.2.1) ∧ ((u_103.1.2.2.2.1 : Int) ≤ Msz ∧ (Msz : Int) ≤ 900) ∧ (0 ≤ (u_103.1.2.1 : Int) ∧ (u_103.1.2.1 : Int) ≤ 4) ∧ ((u_103.1.2.1 : Int) ≤ 4 * (u_103.1.2.2.2.1 - u_103.1.2.2.1)) ∧ (-1 ≤ (u_103.1.2.2.2.2.1 : Int) ∧ (u_103.1.2.2.2.2.1 : Int) ≤ 100000)) ∧ (0 ≤ (u_103.1.2.2.2.2.2.1 : Int) ∧ (u_103.1.2.2.2.2.2.1 : Int) ≤ 9) ∧ (((u_103.1.1 : Int) = 1 ∧ ∃ (q9 v9 : Int), xTr (tX Xf Msz) N n (-1) (xEn (tX Xf Msz) cu) = .inr (q9, v9) ∧ (xEn (tX Xf Msz) cu) < q9 ∧ RFX (tX Xf Msz) q9 u_103.1.2.2.1 u_103.1.2.2.2.1 u_103.1.2.1 u_103.1.2.2.2.2.1 ∧ (0 ≤ v9 ∧ v9 < n) ∧ u_103.2.2.1 = upd f_92 (iZ (y + 1)).toNatClampNeg (iZ v9) ∧ (u_103.1.2.2.2.2.2.1 : Int) = 0 ∧ u_103.1.2.2.2.2.2.2 = Mfp) ∨ ((u_103.1.1 : Int) = 0 ∧ xTr (tX Xf Msz) N n (-1) (xEn (tX Xf Msz) cu) = .inl (u_103.1.2.2.2.2.2.1, u_103.1.2.2.2.2.2.2) ∧ 1 ≤ (u_103.1.2.2.2.2.2.1 : Int))) ∧ ((u_103.1.1 : Int) = 0 → KP u_103.2.2.1 f_92) := hφ
        refine W.eq (g2 := F0 m 59 ls [.int (iZ u_103.1.1)]) rfl ?_
        rcases p_106 with ⟨qt_108, cut_108, yt_108, st_108, lt_108, xt_108, rt_108, ht_108, ut_108, vt_108⟩ | ⟨qt_108, st_108, bt_108⟩
        ·
          rw [qt_108]
          obtain ⟨⟨ar_109, br_109⟩, cr_109, dr_109, er_109, gr_109, hr_109⟩ := id xt_108
          have kr_109 := tk_1 dr_109 (xKd_rg _ _)
          have wr_109 := xKw_rg (tX Xf Msz) cut_108
          have w_110 := RWR.up (y := y) ht_108 (by omega) (by omega) ⟨by omega, by omega⟩
          obtain ⟨gau_111, gbu_111, gcu_111, gdu_111, gnu_111⟩ := gy_row1 ht_108 h9y ⟨by omega, by omega⟩
          exact EWz hx hb hr hlocks hS ((1, u_103.1.2.1, u_103.1.2.2.1, u_103.1.2.2.2.1, u_103.1.2.2.2.2.1, u_103.1.2.2.2.2.2.1, u_103.1.2.2.2.2.2.2), 0, u_103.2.2.1, ()) rfl rfl ⟨(show (0 ≤ (u_103.1.2.2.1 : Int) ∧ (u_103.1.2.2.1 : Int) ≤ u_103.1.2.2.2.1) ∧ ((u_103.1.2.2.2.1 : Int) ≤ Msz ∧ (Msz : Int) ≤ 900) ∧ (0 ≤ (u_103.1.2.1 : Int) ∧ (u_103.1.2.1 : Int) ≤ 4) ∧ ((u_103.1.2.1 : Int) ≤ 4 * (u_103.1.2.2.2.1 - u_103.1.2.2.1)) ∧ (-1 ≤ (u_103.1.2.2.2.2.1 : Int) ∧ (u_103.1.2.2.2.2.1 : Int) ≤ 100000) from (by first | with_reducible assumption | exact (by first | with_reducible assumption | exact ⟨⟨by omega, by omega⟩, ⟨by omega, by omega⟩, ⟨by omega, by omega⟩, by omega, by omega, by omega⟩))), (show 0 ≤ (u_103.1.2.2.2.2.2.1 : Int) ∧ (u_103.1.2.2.2.2.2.1 : Int) ≤ 9 from (by omega)), (show ((1 : Int) = 1 ∧ ∃ (q9 a9 b9 c9 : Int), xTe (tX Xf Msz) N n cu = .inr (q9, a9, b9, c9) ∧ cu ≤ q9 ∧ RFX (tX Xf Msz) q9 u_103.1.2.2.1 u_103.1.2.2.2.1 u_103.1.2.1 u_103.1.2.2.2.2.1 ∧ (RWR u_103.2.2.1 Af y ∧ gz u_103.2.2.1 y = 1900 + xPm a9 ∧ yRS u_103.2.2.1 y 19 a9 b9 c9) ∧ (u_103.1.2.2.2.2.2.1 : Int) = 0 ∧ u_103.1.2.2.2.2.2.2 = Mfp) ∨ ((1 : Int) = 0 ∧ xTe (tX Xf Msz) N n cu = .inl (u_103.1.2.2.2.2.2.1, u_103.1.2.2.2.2.2.2) ∧ 1 ≤ (u_103.1.2.2.2.2.2.1 : Int)) from (Or.inl ⟨rfl, cut_108, 7, yt_108, -1, xTe_7 (show xKw (tX Xf Msz) cu = 7 from (by omega)) st_108, by omega, xt_108, ⟨(RWR.tr w_110 w_93), by rw [show xPm 7 = 9 from (by decide)]; omega, yRS_7 (by omega)⟩, by omega, by omega⟩)), (show (1 : Int) = 0 → KP u_103.2.2.1 Af from (fun h => absurd (show (1 : Int) = 0 from h) (by decide)))⟩ (hP.sub [0, 1, 2, 3] rfl) (hD.sub [0, 1, 2, 3] rfl rfl) dX12_test_59
        ·
          rw [qt_108]
          have kzt_108 := p_107 qt_108
          exact EWz hx hb hr hlocks hS ((0, u_103.1.2.1, u_103.1.2.2.1, u_103.1.2.2.2.1, u_103.1.2.2.2.2.1, u_103.1.2.2.2.2.2.1, u_103.1.2.2.2.2.2.2), 0, u_103.2.2.1, ()) rfl rfl ⟨(show (0 ≤ (u_103.1.2.2.1 : Int) ∧ (u_103.1.2.2.1 : Int) ≤ u_103.1.2.2.2.1) ∧ ((u_103.1.2.2.2.1 : Int) ≤ Msz ∧ (Msz : Int) ≤ 900) ∧ (0 ≤ (u_103.1.2.1 : Int) ∧ (u_103.1.2.1 : Int) ≤ 4) ∧ ((u_103.1.2.1 : Int) ≤ 4 * (u_103.1.2.2.2.1 - u_103.1.2.2.1)) ∧ (-1 ≤ (u_103.1.2.2.2.2.1 : Int) ∧ (u_103.1.2.2.2.2.1 : Int) ≤ 100000) from (by first | with_reducible assumption | exact (by first | with_reducible assumption | exact ⟨⟨by omega, by omega⟩, ⟨by omega, by omega⟩, ⟨by omega, by omega⟩, by omega, by omega, by omega⟩))), (show 0 ≤ (u_103.1.2.2.2.2.2.1 : Int) ∧ (u_103.1.2.2.2.2.2.1 : Int) ≤ 9 from (by omega)), (show ((0 : Int) = 1 ∧ ∃ (q9 a9 b9 c9 : Int), xTe (tX Xf Msz) N n cu = .inr (q9, a9, b9, c9) ∧ cu ≤ q9 ∧ RFX (tX Xf Msz) q9 u_103.1.2.2.1 u_103.1.2.2.2.1 u_103.1.2.1 u_103.1.2.2.2.2.1 ∧ (RWR u_103.2.2.1 Af y ∧ gz u_103.2.2.1 y = 1900 + xPm a9 ∧ yRS u_103.2.2.1 y 19 a9 b9 c9) ∧ (u_103.1.2.2.2.2.2.1 : Int) = 0 ∧ u_103.1.2.2.2.2.2.2 = Mfp) ∨ ((0 : Int) = 0 ∧ xTe (tX Xf Msz) N n cu = .inl (u_103.1.2.2.2.2.2.1, u_103.1.2.2.2.2.2.2) ∧ 1 ≤ (u_103.1.2.2.2.2.2.1 : Int)) from (Or.inr ⟨rfl, xTe_7a (show xKw (tX Xf Msz) cu = 7 from (by omega)) st_108, by omega⟩)), (show (0 : Int) = 0 → KP u_103.2.2.1 Af from (fun _ => (KP.tr kzt_108 (RWR.kp w_93 (by omega)))))⟩ (hP.sub [0, 1, 2, 3] rfl) (hD.sub [0, 1, 2, 3] rfl rfl) dX12_test_59
    ·
      have c_90 := mt (zeq (x := iZ u_2.1) (y := iZ 9) rfl rfl ⟨by omega, by omega⟩ wn_9).mpr c_90
      refine lv_iload_n hx hb dX12_test_19 rfl (lv_at hl 0 rfl) ?_
      refine lv_bipush (v := iZ 23) hx hb dX12_test_20 bip_23 ?_
      refine lv_icmp_eq (tgt := 31) hx hb dX12_test_22 rfl (fun c_112 => ?_) (fun c_112 => ?_)
      ·
        have c_112 := (zeq (x := iZ u_2.1) (y := iZ 23) rfl rfl ⟨by omega, by omega⟩ wn_23).mp c_112
        have hk9 : xKw (tX Xf Msz) cu = 20 := (by have p9 := pwh (); omega)
        refine lv_aload_n hx hb dX12_test_31 rfl (lv_at hl 1 rfl) ?_
        refine va_get (D := D) (ci := 12) (v := .ref Ma) (C := RX12) (T := TX12) (N := 36) hx hb hts iX12 hown hK hP 2 rfl rfl 0 (bl rfl) (hts _ qf_X12_7) (fun _ h => h) rfl dX12_test_32 ?_
        refine lv_iload_n hx hb dX12_test_35 rfl (lv_at hl 2 rfl) ?_
        refine lv_sipush (v := iZ 1900) hx hb dX12_test_36 sip_1900 ?_
        refine lv_iload_n hx hb dX12_test_39 rfl (lv_at hl 0 rfl) ?_
        refine lv_iadd hx hb dX12_test_40 ?_
        refine lv_topi (fun x_113 ex_113 => ?_)
        obtain rfl : x_113 = iZ (1900 + u_2.1) := ex_113.trans (iZ_add 1900 u_2.1)
        refine va_iast hx hb hK hP hD hS 0 1 rfl rfl (zin (e := y) (n := 5340) ⟨by omega, by omega⟩ (bl rfl)) dX12_test_41 (fun H locs hP hD hS => ?_)
        obtain ⟨f_114, hf_114⟩ : ∃ gg9, gg9 = upd Af (iZ y).toNatClampNeg (iZ (1900 + u_2.1)) := ⟨_, rfl⟩
        rw [← hf_114] at hP hD
        have w_115 := RWR.up (y := y) hf_114 (by omega) (by omega) ⟨by omega, by omega⟩
        obtain ⟨gau_116, gbu_116, gcu_116, gdu_116, gnu_116⟩ := gy_row0 hf_114 h9y ⟨by omega, by omega⟩
        refine lv_aload_n hx hb dX12_test_42 rfl (lv_at hl 1 rfl) ?_
        refine CWV (As := []) (rest := []) (wc := _) (wr := [(Ma, .inl (k 1, 5340, .inl f_114)), (Mn, .inl (k 2, 36, .inr (.inl Nf)))]) hx hb hml hown hts hKK hP hD hS hA (y_onward l D k hm Ma Mn Ms My Mt Mp Mx Mo Mk Ml Mb Mh Mc Mz Mr Mq Mst Mtd Msz Mtk Mfr Men Mva Mfk Mfp Mfs Mse Mlt Mdp Mct Mdr Mrs Mit Mmk Mtp Mbt Xf ⟨⟨by omega, by omega⟩, by omega⟩) ci_X12_onward qm_X12_158 ⟨Nat.le_of_ble_eq_true rfl, Nat.le_of_ble_eq_true rfl⟩ ⟨Nat.le_of_ble_eq_true rfl, Nat.le_of_ble_eq_true rfl⟩ [2, 3] [0, 1] rfl rfl rfl rfl rfl (dj rfl) 0 rfl rfl rfl hl.1 rfl (Nat.le_of_ble_eq_true rfl) dX12_test_43 (fun u_117 H locs hφ hP hD hS => ?_)
        obtain ⟨p_118, p_119, p_120⟩ : (RFX (tX Xf Msz) Men u_117.1.2.2.1 u_117.1.2.2.2.1 u_117.1.2.1 u_117.1.2.2.2.2) ∧ ((0 ≤ (u_117.1.2.2.1 : Int) ∧ (u_117.1.2.2.1 : Int) ≤ u_117.1.2.2.2.1) ∧ ((u_117.1.2.2.2.1 : Int) ≤ Msz ∧ (Msz : Int) ≤ 900) ∧ (0 ≤ (u_117.1.2.1 : Int) ∧ (u_117.1.2.1 : Int) ≤ 4) ∧ ((u_117.1.2.1 : Int) ≤ 4 * (u_117.1.2.2.2.1 - u_117.1.2.2.1)) ∧ (-1 ≤ (u_117.1.2.2.2.2 : Int) ∧ (u_117.1.2.2.2.2 : Int) ≤ 100000)) ∧ (Men ≤ u_117.1.2.2.1) := hφ
        have rx_121 := RFX.nx hrf p_118
        obtain ⟨⟨ar_122, br_122⟩, cr_122, dr_122, er_122, gr_122, hr_122⟩ := id rx_121
        have kr_122 := tk_1 dr_122 (xKd_rg _ _)
        have wr_122 := xKw_rg (tX Xf Msz) (xEn (tX Xf Msz) cu)
        refine W.eq (g2 := F0 m 46 ls []) rfl ?_
        refine lv_iload_n hx hb dX12_test_46 rfl (lv_at hl 0 rfl) ?_
        refine lv_bipush (v := iZ 9) hx hb dX12_test_47 bip_9 ?_
        refine lv_icmp_ne (tgt := 60) hx hb dX12_test_49 rfl (fun c_123 => ?_) (fun c_123 => ?_)
        ·
          have c_123 := mt (zeq (x := iZ u_2.1) (y := iZ 9) rfl rfl ⟨by omega, by omega⟩ wn_9).mpr c_123
          refine lv_iload_n hx hb dX12_test_60 rfl (lv_at hl 0 rfl) ?_
          refine lv_bipush (v := iZ 23) hx hb dX12_test_61 bip_23 ?_
          refine lv_icmp_ne (tgt := 103) hx hb dX12_test_63 rfl (fun c_124 => ?_) (fun c_124 => ?_)
          ·
            have c_124 := mt (zeq (x := iZ u_2.1) (y := iZ 23) rfl rfl ⟨by omega, by omega⟩ wn_23).mpr c_124
            exact absurd c_124 (by omega)
          ·
            have c_124 := (zeq (x := iZ u_2.1) (y := iZ 23) rfl rfl ⟨by omega, by omega⟩ wn_23).mp c_124
            refine lv_aload_n hx hb dX12_test_66 rfl (lv_at hl 1 rfl) ?_
            refine lv_iload_n hx hb dX12_test_67 rfl (lv_at hl 2 rfl) ?_
            refine lv_iconst (v := iZ 1) hx hb dX12_test_68 rfl ?_
            refine lv_iadd hx hb dX12_test_69 ?_
            refine lv_topi (fun x_125 ex_125 => ?_)
            obtain rfl : x_125 = iZ (y + 1) := ex_125.trans (iZ_add y 1)
            refine CSV (As := [.int (iZ (y + 1))]) (rest := []) (wc := _) (wr := []) hx hb hml hown hts hKK hP hD hS hA hSY hRR (y_rockTo l D k sa sv hm Ma Mn Ms My Mt Mp Mx Mo Mk Ml Mb Mh Mc Mz Mr Mq Mst Mtd Msz u_117.1.2.1 u_117.1.2.2.1 u_117.1.2.2.2.1 u_117.1.2.2.2.2 Mfk Mfp Mfs Mse Mlt Mdp Mct Mdr Mrs Mit Mmk Mtp Mbt Xf f_114 Nf (y + 1) (xEn (tX Xf Msz) cu) n N (by first | with_reducible assumption | exact ⟨⟨by omega, by omega⟩, ⟨by omega, by omega⟩, ⟨by omega, by omega⟩, by omega, by omega, by omega⟩) (by omega) rx_121 ⟨by omega, by omega, by omega⟩ hns0 ⟨by omega, by omega⟩) ci_X12_rockTo qm_X12_225 ⟨Nat.le_of_ble_eq_true rfl, Nat.le_of_ble_eq_true rfl⟩ ⟨Nat.le_of_ble_eq_true rfl, Nat.le_of_ble_eq_true rfl⟩ [2, 3, 0, 1] [] rfl rfl rfl rfl rfl (dj rfl) 0 rfl rfl rfl hl.1 rfl (Nat.le_of_ble_eq_true rfl) dX12_test_70 (fun u_126 H locs hφ hP hD hS => ?_)
            obtain ⟨p_127, p_128, p_129, p_130⟩ : ((0 ≤ (u_126.1.2.2.1 : Int) ∧ (u_126.1.2.2.1 : Int) ≤ u_126.1.2.2.2.1) ∧ ((u_126.1.2.2.2.1 : Int) ≤ Msz ∧ (Msz : Int) ≤ 900) ∧ (0 ≤ (u_126.1.2.1 : Int) ∧ (u_126.1.2.1 : Int) ≤ 4) ∧ ((u_126.1.2.1 : Int) ≤ 4 * (u_126.1.2.2.2.1 - u_126.1.2.2.1)) ∧ (-1 ≤ (u_126.1.2.2.2.2.1 : Int) ∧ (u_126.1.2.2.2.2.1 : Int) ≤ 100000)) ∧ (0 ≤ (u_126.1.2.2.2.2.2.1 : Int) ∧ (u_126.1.2.2.2.2.2.1 : Int) ≤ 9) ∧ (((u_126.1.1 : Int) = 1 ∧ ∃ (q9 v9 : Int), xTr (tX Xf Msz) N n (-1) (xEn (tX Xf Msz) cu) = .inr (q9, v9) ∧ (xEn (tX Xf Msz) cu) < q9 ∧ RFX (tX Xf Msz) q9 u_126.1.2.2.1 u_126.1.2.2.2.1 u_126.1.2.1 u_126.1.2.2.2.2.1 ∧ (0 ≤ v9 ∧ v9 < n) ∧ u_126.2.2.1 = upd f_114 (iZ (y + 1)).toNatClampNeg (iZ v9) ∧ (u_126.1.2.2.2.2.2.1 : Int) = 0 ∧ u_126.1.2.2.2.2.2.2 = Mfp) ∨ ((u_126.1.1 : Int) = 0 ∧ xTr (tX Xf Msz) N n (-1) (xEn (tX Xf Msz) cu) = .inl (u_126.1.2.2.2.2.2.1, u_126.1.2.2.2.2.2.2) ∧ 1 ≤ (u_126.1.2.2.2.2.2.1 : Int))) ∧ ((u_126.1.1 : Int) = 0 → KP u_126.2.2.1 f_114) := hφ
            refine W.eq (g2 := F0 m 73 ls [.int (iZ u_126.1.1)]) rfl ?_
            rcases p_129 with ⟨qt_131, cut_131, yt_131, st_131, lt_131, xt_131, rt_131, ht_131, ut_131, vt_131⟩ | ⟨qt_131, st_131, bt_131⟩
            ·
              rw [qt_131]
              obtain ⟨⟨ar_132, br_132⟩, cr_132, dr_132, er_132, gr_132, hr_132⟩ := id xt_131
              have kr_132 := tk_1 dr_132 (xKd_rg _ _)
              have wr_132 := xKw_rg (tX Xf Msz) cut_131
              have w_133 := RWR.up (y := y) ht_131 (by omega) (by omega) ⟨by omega, by omega⟩
              obtain ⟨gau_134, gbu_134, gcu_134, gdu_134, gnu_134⟩ := gy_row1 ht_131 h9y ⟨by omega, by omega⟩
              refine lv_if_eq (tgt := 101) hx hb dX12_test_73 rfl (fun c => absurd c (by decide)) (fun _ => ?_)
              refine lv_aload_n hx hb dX12_test_76 rfl (lv_at hl 1 rfl) ?_
              refine va_ldcS hx hb hown hRR dX12_test_77 ?_
              refine lv_bipush (v := iZ 24) hx hb dX12_test_79 bip_24 ?_
              refine CSV (As := [.ref sa, .int (iZ 24)]) (rest := []) (wc := _) (wr := [(Ma, .inl (k 1, 5340, .inl u_126.2.2.1)), (Mn, .inl (k 2, 36, .inr (.inl Nf)))]) hx hb hml hown hts hKK hP hD hS hA hSY hRR (y_wantWord l D k sa sv hm Ma Mn Ms My Mt Mp Mx Mo Mk Ml Mb Mh Mc Mz Mr Mq Mst Mtd Msz u_126.1.2.1 u_126.1.2.2.1 u_126.1.2.2.2.1 u_126.1.2.2.2.2.1 Mfk u_126.1.2.2.2.2.2.2 u_126.1.2.2.2.2.2.1 Mse Mlt Mdp Mct Mdr Mrs Mit Mmk Mtp Mbt Xf 24 cut_131 21 (by first | with_reducible assumption | exact (by first | with_reducible assumption | exact ⟨⟨by omega, by omega⟩, ⟨by omega, by omega⟩, ⟨by omega, by omega⟩, by omega, by omega, by omega⟩)) (by omega) xt_131 ⟨by omega, by omega⟩ ⟨by decide, by decide⟩) ci_X12_wantWord qm_X12_184 ⟨Nat.le_of_ble_eq_true rfl, Nat.le_of_ble_eq_true rfl⟩ ⟨Nat.le_of_ble_eq_true rfl, Nat.le_of_ble_eq_true rfl⟩ [0, 1] [2, 3] rfl rfl rfl rfl rfl (dj rfl) 0 rfl rfl rfl hl.1 rfl (Nat.le_of_ble_eq_true rfl) dX12_test_81 (fun u_136 H locs hφ hP hD hS => ?_)
              obtain ⟨p_137, p_138, p_139⟩ : ((0 ≤ (u_136.1.2.2.1 : Int) ∧ (u_136.1.2.2.1 : Int) ≤ u_136.1.2.2.2.1) ∧ ((u_136.1.2.2.2.1 : Int) ≤ Msz ∧ (Msz : Int) ≤ 900) ∧ (0 ≤ (u_136.1.2.1 : Int) ∧ (u_136.1.2.1 : Int) ≤ 4) ∧ ((u_136.1.2.1 : Int) ≤ 4 * (u_136.1.2.2.2.1 - u_136.1.2.2.1)) ∧ (-1 ≤ (u_136.1.2.2.2.2.1 : Int) ∧ (u_136.1.2.2.2.2.1 : Int) ≤ 100000)) ∧ (0 ≤ (u_136.1.2.2.2.2.2.1 : Int) ∧ (u_136.1.2.2.2.2.2.1 : Int) ≤ 9) ∧ (((u_136.1.1 : Int) = 1 ∧ ∃ q9 : Int, xTw (tX Xf Msz) 21 cut_131 = .inr q9 ∧ cut_131 < q9 ∧ RFX (tX Xf Msz) q9 u_136.1.2.2.1 u_136.1.2.2.2.1 u_136.1.2.1 u_136.1.2.2.2.2.1 ∧ (u_136.1.2.2.2.2.2.1 : Int) = 0 ∧ u_136.1.2.2.2.2.2.2 = u_126.1.2.2.2.2.2.2) ∨ ((u_136.1.1 : Int) = 0 ∧ xTw (tX Xf Msz) 21 cut_131 = .inl (u_136.1.2.2.2.2.2.1, u_136.1.2.2.2.2.2.2) ∧ 1 ≤ (u_136.1.2.2.2.2.2.1 : Int))) := hφ
              refine W.eq (g2 := F0 m 84 ls [.int (iZ u_136.1.1)]) rfl ?_
              rcases p_139 with ⟨qt_140, cut_140, st_140, lt_140, xt_140, ut_140, vt_140⟩ | ⟨qt_140, st_140, bt_140⟩
              ·
                rw [qt_140]
                obtain ⟨⟨ar_141, br_141⟩, cr_141, dr_141, er_141, gr_141, hr_141⟩ := id xt_140
                have kr_141 := tk_1 dr_141 (xKd_rg _ _)
                have wr_141 := xKw_rg (tX Xf Msz) cut_140
                refine lv_if_eq (tgt := 101) hx hb dX12_test_84 rfl (fun c => absurd c (by decide)) (fun _ => ?_)
                refine lv_aload_n hx hb dX12_test_87 rfl (lv_at hl 1 rfl) ?_
                refine lv_iload_n hx hb dX12_test_88 rfl (lv_at hl 2 rfl) ?_
                refine lv_iconst (v := iZ 2) hx hb dX12_test_89 rfl ?_
                refine lv_iadd hx hb dX12_test_90 ?_
                refine lv_topi (fun x_143 ex_143 => ?_)
                obtain rfl : x_143 = iZ (y + 2) := ex_143.trans (iZ_add y 2)
                refine CSV (As := [.int (iZ (y + 2))]) (rest := []) (wc := _) (wr := []) hx hb hml hown hts hKK hP hD hS hA hSY hRR (y_rockTo l D k sa sv hm Ma Mn Ms My Mt Mp Mx Mo Mk Ml Mb Mh Mc Mz Mr Mq Mst Mtd Msz u_136.1.2.1 u_136.1.2.2.1 u_136.1.2.2.2.1 u_136.1.2.2.2.2.1 Mfk u_136.1.2.2.2.2.2.2 u_136.1.2.2.2.2.2.1 Mse Mlt Mdp Mct Mdr Mrs Mit Mmk Mtp Mbt Xf u_126.2.2.1 Nf (y + 2) cut_140 n N (by first | with_reducible assumption | exact ⟨⟨by omega, by omega⟩, ⟨by omega, by omega⟩, ⟨by omega, by omega⟩, by omega, by omega, by omega⟩) (by omega) xt_140 ⟨by omega, by omega, by omega⟩ hns0 ⟨by omega, by omega⟩) ci_X12_rockTo qm_X12_225 ⟨Nat.le_of_ble_eq_true rfl, Nat.le_of_ble_eq_true rfl⟩ ⟨Nat.le_of_ble_eq_true rfl, Nat.le_of_ble_eq_true rfl⟩ [2, 3, 0, 1] [] rfl rfl rfl rfl rfl (dj rfl) 0 rfl rfl rfl hl.1 rfl (Nat.le_of_ble_eq_true rfl) dX12_test_91 (fun u_144 H locs hφ hP hD hS => ?_)
                obtain ⟨p_145, p_146, p_147, p_148⟩ : ((0 ≤ (u_144.1.2.2.1 : Int) ∧ (u_144.1.2.2.1 : Int) ≤ u_144.1.2.2.2.1) ∧ ((u_144.1.2.2.2.1 : Int) ≤ Msz ∧ (Msz : Int) ≤ 900) ∧ (0 ≤ (u_144.1.2.1 : Int) ∧ (u_144.1.2.1 : Int) ≤ 4) ∧ ((u_144.1.2.1 : Int) ≤ 4 * (u_144.1.2.2.2.1 - u_144.1.2.2.1)) ∧ (-1 ≤ (u_144.1.2.2.2.2.1 : Int) ∧ (u_144.1.2.2.2.2.1 : Int) ≤ 100000)) ∧ (0 ≤ (u_144.1.2.2.2.2.2.1 : Int) ∧ (u_144.1.2.2.2.2.2.1 : Int) ≤ 9) ∧ (((u_144.1.1 : Int) = 1 ∧ ∃ (q9 v9 : Int), xTr (tX Xf Msz) N n (-1) cut_140 = .inr (q9, v9) ∧ cut_140 < q9 ∧ RFX (tX Xf Msz) q9 u_144.1.2.2.1 u_144.1.2.2.2.1 u_144.1.2.1 u_144.1.2.2.2.2.1 ∧ (0 ≤ v9 ∧ v9 < n) ∧ u_144.2.2.1 = upd u_126.2.2.1 (iZ (y + 2)).toNatClampNeg (iZ v9) ∧ (u_144.1.2.2.2.2.2.1 : Int) = 0 ∧ u_144.1.2.2.2.2.2.2 = u_136.1.2.2.2.2.2.2) ∨ ((u_144.1.1 : Int) = 0 ∧ xTr (tX Xf Msz) N n (-1) cut_140 = .inl (u_144.1.2.2.2.2.2.1, u_144.1.2.2.2.2.2.2) ∧ 1 ≤ (u_144.1.2.2.2.2.2.1 : Int))) ∧ ((u_144.1.1 : Int) = 0 → KP u_144.2.2.1 u_126.2.2.1) := hφ
                refine W.eq (g2 := F0 m 94 ls [.int (iZ u_144.1.1)]) rfl ?_
                rcases p_147 with ⟨qt_149, cut_149, yt_149, st_149, lt_149, xt_149, rt_149, ht_149, ut_149, vt_149⟩ | ⟨qt_149, st_149, bt_149⟩
                ·
                  rw [qt_149]
                  obtain ⟨⟨ar_150, br_150⟩, cr_150, dr_150, er_150, gr_150, hr_150⟩ := id xt_149
                  have kr_150 := tk_1 dr_150 (xKd_rg _ _)
                  have wr_150 := xKw_rg (tX Xf Msz) cut_149
                  have w_151 := RWR.up (y := y) ht_149 (by omega) (by omega) ⟨by omega, by omega⟩
                  obtain ⟨gau_152, gbu_152, gcu_152, gdu_152, gnu_152⟩ := gy_row2 ht_149 h9y ⟨by omega, by omega⟩
                  refine lv_if_eq (tgt := 101) hx hb dX12_test_94 rfl (fun c => absurd c (by decide)) (fun _ => ?_)
                  refine lv_iconst (v := iZ 1) hx hb dX12_test_97 rfl ?_
                  refine lv_goto (tgt := 102) hx hb dX12_test_98 rfl ?_
                  exact EWz hx hb hr hlocks hS ((1, u_144.1.2.1, u_144.1.2.2.1, u_144.1.2.2.2.1, u_144.1.2.2.2.2.1, u_144.1.2.2.2.2.2.1, u_144.1.2.2.2.2.2.2), 0, u_144.2.2.1, ()) rfl rfl ⟨(show (0 ≤ (u_144.1.2.2.1 : Int) ∧ (u_144.1.2.2.1 : Int) ≤ u_144.1.2.2.2.1) ∧ ((u_144.1.2.2.2.1 : Int) ≤ Msz ∧ (Msz : Int) ≤ 900) ∧ (0 ≤ (u_144.1.2.1 : Int) ∧ (u_144.1.2.1 : Int) ≤ 4) ∧ ((u_144.1.2.1 : Int) ≤ 4 * (u_144.1.2.2.2.1 - u_144.1.2.2.1)) ∧ (-1 ≤ (u_144.1.2.2.2.2.1 : Int) ∧ (u_144.1.2.2.2.2.1 : Int) ≤ 100000) from (by first | with_reducible assumption | exact (by first | with_reducible assumption | exact ⟨⟨by omega, by omega⟩, ⟨by omega, by omega⟩, ⟨by omega, by omega⟩, by omega, by omega, by omega⟩))), (show 0 ≤ (u_144.1.2.2.2.2.2.1 : Int) ∧ (u_144.1.2.2.2.2.2.1 : Int) ≤ 9 from (by omega)), (show ((1 : Int) = 1 ∧ ∃ (q9 a9 b9 c9 : Int), xTe (tX Xf Msz) N n cu = .inr (q9, a9, b9, c9) ∧ cu ≤ q9 ∧ RFX (tX Xf Msz) q9 u_144.1.2.2.1 u_144.1.2.2.2.1 u_144.1.2.1 u_144.1.2.2.2.2.1 ∧ (RWR u_144.2.2.1 Af y ∧ gz u_144.2.2.1 y = 1900 + xPm a9 ∧ yRS u_144.2.2.1 y 19 a9 b9 c9) ∧ (u_144.1.2.2.2.2.2.1 : Int) = 0 ∧ u_144.1.2.2.2.2.2.2 = Mfp) ∨ ((1 : Int) = 0 ∧ xTe (tX Xf Msz) N n cu = .inl (u_144.1.2.2.2.2.2.1, u_144.1.2.2.2.2.2.2) ∧ 1 ≤ (u_144.1.2.2.2.2.2.1 : Int)) from (Or.inl ⟨rfl, cut_149, 20, yt_131, yt_149, xTe_20 (show xKw (tX Xf Msz) cu = 20 from (by omega)) st_131 st_140 st_149, by omega, xt_149, ⟨(RWR.tr w_151 (RWR.tr w_133 w_115)), by rw [show xPm 20 = 23 from (by decide)]; omega, yRS_20 (by omega) (by omega)⟩, by omega, by omega⟩)), (show (1 : Int) = 0 → KP u_144.2.2.1 Af from (fun h => absurd (show (1 : Int) = 0 from h) (by decide)))⟩ (hP.sub [0, 1, 2, 3] rfl) (hD.sub [0, 1, 2, 3] rfl rfl) dX12_test_102
                ·
                  rw [qt_149]
                  have kzt_149 := p_148 qt_149
                  refine lv_if_eq (tgt := 101) hx hb dX12_test_94 rfl (fun _ => ?_) (fun c => absurd (by decide) c)
                  refine lv_iconst (v := iZ 0) hx hb dX12_test_101 rfl ?_
                  exact EWz hx hb hr hlocks hS ((0, u_144.1.2.1, u_144.1.2.2.1, u_144.1.2.2.2.1, u_144.1.2.2.2.2.1, u_144.1.2.2.2.2.2.1, u_144.1.2.2.2.2.2.2), 0, u_144.2.2.1, ()) rfl rfl ⟨(show (0 ≤ (u_144.1.2.2.1 : Int) ∧ (u_144.1.2.2.1 : Int) ≤ u_144.1.2.2.2.1) ∧ ((u_144.1.2.2.2.1 : Int) ≤ Msz ∧ (Msz : Int) ≤ 900) ∧ (0 ≤ (u_144.1.2.1 : Int) ∧ (u_144.1.2.1 : Int) ≤ 4) ∧ ((u_144.1.2.1 : Int) ≤ 4 * (u_144.1.2.2.2.1 - u_144.1.2.2.1)) ∧ (-1 ≤ (u_144.1.2.2.2.2.1 : Int) ∧ (u_144.1.2.2.2.2.1 : Int) ≤ 100000) from (by first | with_reducible assumption | exact (by first | with_reducible assumption | exact ⟨⟨by omega, by omega⟩, ⟨by omega, by omega⟩, ⟨by omega, by omega⟩, by omega, by omega, by omega⟩))), (show 0 ≤ (u_144.1.2.2.2.2.2.1 : Int) ∧ (u_144.1.2.2.2.2.2.1 : Int) ≤ 9 from (by omega)), (show ((0 : Int) = 1 ∧ ∃ (q9 a9 b9 c9 : Int), xTe (tX Xf Msz) N n cu = .inr (q9, a9, b9, c9) ∧ cu ≤ q9 ∧ RFX (tX Xf Msz) q9 u_144.1.2.2.1 u_144.1.2.2.2.1 u_144.1.2.1 u_144.1.2.2.2.2.1 ∧ (RWR u_144.2.2.1 Af y ∧ gz u_144.2.2.1 y = 1900 + xPm a9 ∧ yRS u_144.2.2.1 y 19 a9 b9 c9) ∧ (u_144.1.2.2.2.2.2.1 : Int) = 0 ∧ u_144.1.2.2.2.2.2.2 = Mfp) ∨ ((0 : Int) = 0 ∧ xTe (tX Xf Msz) N n cu = .inl (u_144.1.2.2.2.2.2.1, u_144.1.2.2.2.2.2.2) ∧ 1 ≤ (u_144.1.2.2.2.2.2.1 : Int)) from (Or.inr ⟨rfl, xTe_20c (show xKw (tX Xf Msz) cu = 20 from (by omega)) st_131 st_140 st_149, by omega⟩)), (show (0 : Int) = 0 → KP u_144.2.2.1 Af from (fun _ => (KP.tr kzt_149 (RWR.kp (RWR.tr w_133 w_115) (by omega)))))⟩ (hP.sub [0, 1, 2, 3] rfl) (hD.sub [0, 1, 2, 3] rfl rfl) dX12_test_102
              ·
                rw [qt_140]
                refine lv_if_eq (tgt := 101) hx hb dX12_test_84 rfl (fun _ => ?_) (fun c => absurd (by decide) c)
                refine lv_iconst (v := iZ 0) hx hb dX12_test_101 rfl ?_
                exact EWz hx hb hr hlocks hS ((0, u_136.1.2.1, u_136.1.2.2.1, u_136.1.2.2.2.1, u_136.1.2.2.2.2.1, u_136.1.2.2.2.2.2.1, u_136.1.2.2.2.2.2.2), 0, u_126.2.2.1, ()) rfl rfl ⟨(show (0 ≤ (u_136.1.2.2.1 : Int) ∧ (u_136.1.2.2.1 : Int) ≤ u_136.1.2.2.2.1) ∧ ((u_136.1.2.2.2.1 : Int) ≤ Msz ∧ (Msz : Int) ≤ 900) ∧ (0 ≤ (u_136.1.2.1 : Int) ∧ (u_136.1.2.1 : Int) ≤ 4) ∧ ((u_136.1.2.1 : Int) ≤ 4 * (u_136.1.2.2.2.1 - u_136.1.2.2.1)) ∧ (-1 ≤ (u_136.1.2.2.2.2.1 : Int) ∧ (u_136.1.2.2.2.2.1 : Int) ≤ 100000) from (by first | with_reducible assumption | exact (by first | with_reducible assumption | exact ⟨⟨by omega, by omega⟩, ⟨by omega, by omega⟩, ⟨by omega, by omega⟩, by omega, by omega, by omega⟩))), (show 0 ≤ (u_136.1.2.2.2.2.2.1 : Int) ∧ (u_136.1.2.2.2.2.2.1 : Int) ≤ 9 from (by omega)), (show ((0 : Int) = 1 ∧ ∃ (q9 a9 b9 c9 : Int), xTe (tX Xf Msz) N n cu = .inr (q9, a9, b9, c9) ∧ cu ≤ q9 ∧ RFX (tX Xf Msz) q9 u_136.1.2.2.1 u_136.1.2.2.2.1 u_136.1.2.1 u_136.1.2.2.2.2.1 ∧ (RWR u_126.2.2.1 Af y ∧ gz u_126.2.2.1 y = 1900 + xPm a9 ∧ yRS u_126.2.2.1 y 19 a9 b9 c9) ∧ (u_136.1.2.2.2.2.2.1 : Int) = 0 ∧ u_136.1.2.2.2.2.2.2 = Mfp) ∨ ((0 : Int) = 0 ∧ xTe (tX Xf Msz) N n cu = .inl (u_136.1.2.2.2.2.2.1, u_136.1.2.2.2.2.2.2) ∧ 1 ≤ (u_136.1.2.2.2.2.2.1 : Int)) from (Or.inr ⟨rfl, xTe_20b (show xKw (tX Xf Msz) cu = 20 from (by omega)) st_131 st_140, by omega⟩)), (show (0 : Int) = 0 → KP u_126.2.2.1 Af from (fun _ => (RWR.kp (RWR.tr w_133 w_115) (by omega))))⟩ (hP.sub [2, 3, 0, 1] rfl) (hD.sub [2, 3, 0, 1] rfl rfl) dX12_test_102
            ·
              rw [qt_131]
              have kzt_131 := p_130 qt_131
              refine lv_if_eq (tgt := 101) hx hb dX12_test_73 rfl (fun _ => ?_) (fun c => absurd (by decide) c)
              refine lv_iconst (v := iZ 0) hx hb dX12_test_101 rfl ?_
              exact EWz hx hb hr hlocks hS ((0, u_126.1.2.1, u_126.1.2.2.1, u_126.1.2.2.2.1, u_126.1.2.2.2.2.1, u_126.1.2.2.2.2.2.1, u_126.1.2.2.2.2.2.2), 0, u_126.2.2.1, ()) rfl rfl ⟨(show (0 ≤ (u_126.1.2.2.1 : Int) ∧ (u_126.1.2.2.1 : Int) ≤ u_126.1.2.2.2.1) ∧ ((u_126.1.2.2.2.1 : Int) ≤ Msz ∧ (Msz : Int) ≤ 900) ∧ (0 ≤ (u_126.1.2.1 : Int) ∧ (u_126.1.2.1 : Int) ≤ 4) ∧ ((u_126.1.2.1 : Int) ≤ 4 * (u_126.1.2.2.2.1 - u_126.1.2.2.1)) ∧ (-1 ≤ (u_126.1.2.2.2.2.1 : Int) ∧ (u_126.1.2.2.2.2.1 : Int) ≤ 100000) from (by first | with_reducible assumption | exact (by first | with_reducible assumption | exact ⟨⟨by omega, by omega⟩, ⟨by omega, by omega⟩, ⟨by omega, by omega⟩, by omega, by omega, by omega⟩))), (show 0 ≤ (u_126.1.2.2.2.2.2.1 : Int) ∧ (u_126.1.2.2.2.2.2.1 : Int) ≤ 9 from (by omega)), (show ((0 : Int) = 1 ∧ ∃ (q9 a9 b9 c9 : Int), xTe (tX Xf Msz) N n cu = .inr (q9, a9, b9, c9) ∧ cu ≤ q9 ∧ RFX (tX Xf Msz) q9 u_126.1.2.2.1 u_126.1.2.2.2.1 u_126.1.2.1 u_126.1.2.2.2.2.1 ∧ (RWR u_126.2.2.1 Af y ∧ gz u_126.2.2.1 y = 1900 + xPm a9 ∧ yRS u_126.2.2.1 y 19 a9 b9 c9) ∧ (u_126.1.2.2.2.2.2.1 : Int) = 0 ∧ u_126.1.2.2.2.2.2.2 = Mfp) ∨ ((0 : Int) = 0 ∧ xTe (tX Xf Msz) N n cu = .inl (u_126.1.2.2.2.2.2.1, u_126.1.2.2.2.2.2.2) ∧ 1 ≤ (u_126.1.2.2.2.2.2.1 : Int)) from (Or.inr ⟨rfl, xTe_20a (show xKw (tX Xf Msz) cu = 20 from (by omega)) st_131, by omega⟩)), (show (0 : Int) = 0 → KP u_126.2.2.1 Af from (fun _ => (KP.tr kzt_131 (RWR.kp w_115 (by omega)))))⟩ (hP.sub [0, 1, 2, 3] rfl) (hD.sub [0, 1, 2, 3] rfl rfl) dX12_test_102
        ·
          have c_123 := (zeq (x := iZ u_2.1) (y := iZ 9) rfl rfl ⟨by omega, by omega⟩ wn_9).mp c_123
          exact absurd c_123 (by omega)
      ·
        have c_112 := mt (zeq (x := iZ u_2.1) (y := iZ 23) rfl rfl ⟨by omega, by omega⟩ wn_23).mpr c_112
        refine lv_aload_n hx hb dX12_test_25 rfl (lv_at hl 1 rfl) ?_
        refine lv_iconst (v := iZ 2) hx hb dX12_test_26 rfl ?_
        refine CWV (As := [.int (iZ 2)]) (rest := []) (wc := _) (wr := [(Ma, .inl (k 1, 5340, .inl Af)), (Mn, .inl (k 2, 36, .inr (.inl Nf)))]) hx hb hml hown hts hKK hP hD hS hA (y_fails l D k hm Ma Mn Ms My Mt Mp Mx Mo Mk Ml Mb Mh Mc Mz Mr Mq Mst Mtd Msz Mtk Mfr Men Mva Mfk Mfp Mfs Mse Mlt Mdp Mct Mdr Mrs Mit Mmk Mtp Mbt Xf 2 cu ⟨by omega, by omega⟩ (by omega) hrf) ci_X12_fails qm_X12_164 ⟨Nat.le_of_ble_eq_true rfl, Nat.le_of_ble_eq_true rfl⟩ ⟨Nat.le_of_ble_eq_true rfl, Nat.le_of_ble_eq_true rfl⟩ [2, 3] [0, 1] rfl rfl rfl rfl rfl (dj rfl) 0 rfl rfl rfl hl.1 rfl (Nat.le_of_ble_eq_true rfl) dX12_test_27 (fun u_157 H locs hφ hP hD hS => ?_)
        obtain ⟨p_158, p_159⟩ : (u_157.1.2.1 = xFl (tX Xf Msz) cu 2 ∧ u_157.1.2.2 = xPl (tX Xf Msz) cu) ∧ (1 ≤ (u_157.1.2.1 : Int) ∧ (u_157.1.2.1 : Int) ≤ 9) := hφ
        refine W.eq (g2 := F0 m 30 ls [.int (iZ 0)]) rfl ?_
        exact EWz hx hb hr hlocks hS ((0, Mtk, Mfr, Men, Mva, u_157.1.2.1, u_157.1.2.2), 0, Af, ()) rfl rfl ⟨(show (0 ≤ (Mfr : Int) ∧ (Mfr : Int) ≤ Men) ∧ ((Men : Int) ≤ Msz ∧ (Msz : Int) ≤ 900) ∧ (0 ≤ (Mtk : Int) ∧ (Mtk : Int) ≤ 4) ∧ ((Mtk : Int) ≤ 4 * (Men - Mfr)) ∧ (-1 ≤ (Mva : Int) ∧ (Mva : Int) ≤ 100000) from (by first | with_reducible assumption | exact (by first | with_reducible assumption | exact ⟨⟨by omega, by omega⟩, ⟨by omega, by omega⟩, ⟨by omega, by omega⟩, by omega, by omega, by omega⟩))), (show 0 ≤ (u_157.1.2.1 : Int) ∧ (u_157.1.2.1 : Int) ≤ 9 from (by omega)), (show ((0 : Int) = 1 ∧ ∃ (q9 a9 b9 c9 : Int), xTe (tX Xf Msz) N n cu = .inr (q9, a9, b9, c9) ∧ cu ≤ q9 ∧ RFX (tX Xf Msz) q9 Mfr Men Mtk Mva ∧ (RWR Af Af y ∧ gz Af y = 1900 + xPm a9 ∧ yRS Af y 19 a9 b9 c9) ∧ (u_157.1.2.1 : Int) = 0 ∧ u_157.1.2.2 = Mfp) ∨ ((0 : Int) = 0 ∧ xTe (tX Xf Msz) N n cu = .inl (u_157.1.2.1, u_157.1.2.2) ∧ 1 ≤ (u_157.1.2.1 : Int)) from (Or.inr ⟨rfl, xTe_x (by have p9 := pwh (); omega) p_158, by omega⟩)), (show (0 : Int) = 0 → KP Af Af from (fun _ => KP.rf _))⟩ (hP.sub [2, 3, 0, 1] rfl) (hD.sub [2, 3, 0, 1] rfl rfl) dX12_test_30
set_option maxHeartbeats 4000000 in
set_option maxRecDepth 100000 in
theorem y_yearOrder (l : Launch) (D : va_G) (k : Nat → ClassId) (sa sv : Nat) (hm : Nat) (Ma : Nat) (Mn : Nat) (Ms : Nat) (My : Nat) (Mt : Nat) (Mp : Nat) (Mx : Nat) (Mo : Nat) (Mk : Nat) (Ml : Nat) (Mb : Nat) (Mh : Nat) (Mc : Nat) (Mz : Nat) (Mr : Nat) (Mq : Nat) (Mst : Int) (Mtd : Int) (Msz : Int) (Mtk : Int) (Mfr : Int) (Men : Int) (Mva : Int) (Mfk : Int) (Mfp : Int) (Mfs : Int) (Mse : Int) (Mlt : Int) (Mdp : Int) (Mct : Int) (Mdr : Int) (Mrs : Int) (Mit : Int) (Mmk : Int) (Mtp : Int64) (Mbt : Int64) (Xf : Nat → Int32) (Af : Nat → Int32) (Nf : Nat → Int64) (x : Int) (y : Int) (cu : Int) (n : Int) (w : Int) (N : Int → Int) (hTI : (0 ≤ (Mfr : Int) ∧ (Mfr : Int) ≤ Men) ∧ ((Men : Int) ≤ Msz ∧ (Msz : Int) ≤ 900) ∧ (0 ≤ (Mtk : Int) ∧ (Mtk : Int) ≤ 4) ∧ ((Mtk : Int) ≤ 4 * (Men - Mfr)) ∧ (-1 ≤ (Mva : Int) ∧ (Mva : Int) ≤ 100000)) (hf0 : Mfs = 0) (hrf : RFX (tX Xf Msz) cu Mfr Men Mtk Mva) (hn9 : gz Af 0 = n ∧ 0 ≤ n ∧ n ≤ 6) (hns0 : xNr Nf 0 N n) (h9x : 15 ≤ x ∧ x ≤ 22) (h9y : 4080 ≤ y ∧ y ≤ 4434) (hwx : (w = 15 ∨ w = 16 ∨ w = 17 ∨ w = 18 ∨ w = 19 ∨ w = 22 ∨ w = 24 ∨ w = 23) ∧ xPm w = x) (hky : gz Af y = x) : SD (σ := ((Int × Int × Int × Int × Int × Int × Int) × (Int64) × ((Nat → Int32)) × (Unit))) sa sv l yX12_yearOrder cX12_yearOrder 3 (some .boolean) 9 D k [.ref hm, .int (iZ x), .int (iZ y)] [(hm, .inr (12, [.ref Ma, .ref Mn, .int (iZ Mst), .long Mtp, .long Mbt, .ref Ms, .ref My, .ref Mt, .ref Mp, .ref Mx, .int (iZ Mtd), .int (iZ Msz), .int (iZ Mtk), .int (iZ Mfr), .int (iZ Men), .int (iZ Mva), .int (iZ Mfk), .int (iZ Mfp), .int (iZ Mfs), .int (iZ Mse), .int (iZ Mlt), .ref Mo, .int (iZ Mdp), .int (iZ Mct), .ref Mk, .ref Ml, .ref Mb, .ref Mh, .ref Mc, .int (iZ Mdr), .int (iZ Mrs), .ref Mz, .ref Mr, .ref Mq, .int (iZ Mit), .int (iZ Mmk)])), (Mx, .inl (k 0, 900, .inl Xf)), (Ma, .inl (k 1, 5340, .inl Af)), (Mn, .inl (k 2, 36, .inr (.inl Nf)))] (fun u => some (.int (iZ u.1.1))) (fun u => ((0 ≤ (u.1.2.2.1 : Int) ∧ (u.1.2.2.1 : Int) ≤ u.1.2.2.2.1) ∧ ((u.1.2.2.2.1 : Int) ≤ Msz ∧ (Msz : Int) ≤ 900) ∧ (0 ≤ (u.1.2.1 : Int) ∧ (u.1.2.1 : Int) ≤ 4) ∧ ((u.1.2.1 : Int) ≤ 4 * (u.1.2.2.2.1 - u.1.2.2.1)) ∧ (-1 ≤ (u.1.2.2.2.2.1 : Int) ∧ (u.1.2.2.2.2.1 : Int) ≤ 100000)) ∧ (0 ≤ (u.1.2.2.2.2.2.1 : Int) ∧ (u.1.2.2.2.2.2.1 : Int) ≤ 9) ∧ (((u.1.1 : Int) = 1 ∧ ∃ (q9 a9 b9 c9 : Int), xRe (tX Xf Msz) N n w cu = .inr (q9, a9, b9, c9) ∧ cu ≤ q9 ∧ RFX (tX Xf Msz) q9 u.1.2.2.1 u.1.2.2.2.1 u.1.2.1 u.1.2.2.2.2.1 ∧ (RWR u.2.2.1 Af y ∧ gz u.2.2.1 y = yCd w a9 ∧ yRS u.2.2.1 y w a9 b9 c9) ∧ (u.1.2.2.2.2.2.1 : Int) = 0 ∧ u.1.2.2.2.2.2.2 = Mfp) ∨ ((u.1.1 : Int) = 0 ∧ xRe (tX Xf Msz) N n w cu = .inl (u.1.2.2.2.2.2.1, u.1.2.2.2.2.2.2) ∧ 1 ≤ (u.1.2.2.2.2.2.1 : Int))) ∧ ((u.1.1 : Int) = 0 → KP u.2.2.1 Af)) (fun u => [(hm, .inr (12, [.ref Ma, .ref Mn, .int (iZ Mst), .long Mtp, .long Mbt, .ref Ms, .ref My, .ref Mt, .ref Mp, .ref Mx, .int (iZ Mtd), .int (iZ Msz), .int (iZ u.1.2.1), .int (iZ u.1.2.2.1), .int (iZ u.1.2.2.2.1), .int (iZ u.1.2.2.2.2.1), .int (iZ Mfk), .int (iZ u.1.2.2.2.2.2.2), .int (iZ u.1.2.2.2.2.2.1), .int (iZ Mse), .int (iZ Mlt), .ref Mo, .int (iZ Mdp), .int (iZ Mct), .ref Mk, .ref Ml, .ref Mb, .ref Mh, .ref Mc, .int (iZ Mdr), .int (iZ Mrs), .ref Mz, .ref Mr, .ref Mq, .int (iZ Mit), .int (iZ Mmk)])), (Mx, .inl (k 0, 900, .inl Xf)), (Ma, .inl (k 1, 5340, .inl u.2.2.1)), (Mn, .inl (k 2, 36, .inr (.inl Nf)))]) := by
  refine MSS (by decide) (Nat.le_of_ble_eq_true rfl) (fun p e s m below meth c ls A hx hb hml hr hlocks hin hts hown hKK hP hD hS hA hSY hRR hl => ?_)
  have hK := hKK.1
  have hl : lv_has ls 3 [(0, .ref hm), (1, .int (iZ x)), (2, .int (iZ y))] := hl
  obtain ⟨⟨ar_1, br_1⟩, cr_1, dr_1, er_1, gr_1, hr_1⟩ := id hrf
  have kr_1 := tk_1 dr_1 (xKd_rg _ _)
  have wr_1 := xKw_rg (tX Xf Msz) cu
  obtain ⟨hn90, hn91, hn92⟩ := id hn9
  have hw2 := hwx.2
  have hwr : 15 ≤ w ∧ w ≤ 24 := (by have h9 := hwx.1; omega)
  replace hwx : Unit → _ := fun _ => hwx
  have hpw : ∀ c r : Int, -1 ≤ c ∧ c ≤ 24 → xPm c = r → (x = r ↔ w = c) := fun c r h8 h7 => by have h9 := xPm_inj (a := w) (b := c) (by omega) h8; rw [← hw2, ← h9, h7]
  refine lv_iload_n hx hb dX12_yearOrder_0 rfl (lv_at hl 1 rfl) ?_
  rcases Classical.em (x = 15) with c_2 | c_2
  ·
    refine lv_tableIn (tgt := 40) (off := 39) hx hb dX12_yearOrder_1 (by rw [iZ_ti ⟨by omega, by omega⟩]; omega) (by rw [iZ_ti ⟨by omega, by omega⟩]; omega) (by rw [iZ_ti ⟨by omega, by omega⟩, c_2]; rfl) (by decide) ?_
    have hk9 : w = 15 ∨ w = 22 := (by have p15 := hpw 15 15 (by omega) (by decide); have p22 := hpw 22 20 (by omega) (by decide); omega)
    refine lv_aload_n hx hb dX12_yearOrder_40 rfl (lv_at hl 0 rfl) ?_
    refine lv_iload_n hx hb dX12_yearOrder_41 rfl (lv_at hl 2 rfl) ?_
    refine lv_iconst (v := iZ 1) hx hb dX12_yearOrder_42 rfl ?_
    refine lv_iadd hx hb dX12_yearOrder_43 ?_
    refine lv_topi (fun x_3 ex_3 => ?_)
    obtain rfl : x_3 = iZ (y + 1) := ex_3.trans (iZ_add y 1)
    refine lv_iconst (v := iZ 1) hx hb dX12_yearOrder_44 rfl ?_
    refine lv_bipush (v := iZ 99) hx hb dX12_yearOrder_45 bip_99 ?_
    refine CWV (As := [.int (iZ (y + 1)), .int (iZ 1), .int (iZ 99)]) (rest := []) (wc := _) (wr := [(Mn, .inl (k 2, 36, .inr (.inl Nf)))]) hx hb hml hown hts hKK hP hD hS hA (y_number l D k hm Ma Mn Ms My Mt Mp Mx Mo Mk Ml Mb Mh Mc Mz Mr Mq Mst Mtd Msz Mtk Mfr Men Mva Mfk Mfp Mfs Mse Mlt Mdp Mct Mdr Mrs Mit Mmk Mtp Mbt Xf Af (y + 1) 1 99 cu (by first | with_reducible assumption | exact (by first | with_reducible assumption | exact ⟨⟨by omega, by omega⟩, ⟨by omega, by omega⟩, ⟨by omega, by omega⟩, by omega, by omega, by omega⟩)) (by omega) hrf ⟨by omega, by omega⟩ ⟨by omega, by omega⟩ ⟨by omega, by omega⟩) ci_X12_number qm_X12_188 ⟨Nat.le_of_ble_eq_true rfl, Nat.le_of_ble_eq_true rfl⟩ ⟨Nat.le_of_ble_eq_true rfl, Nat.le_of_ble_eq_true rfl⟩ [0, 1, 2] [3] rfl rfl rfl rfl rfl (dj rfl) 0 rfl rfl rfl hl.1 rfl (Nat.le_of_ble_eq_true rfl) dX12_yearOrder_47 (fun u_4 H locs hφ hP hD hS => ?_)
    obtain ⟨p_5, p_6, p_7, p_8⟩ : ((0 ≤ (u_4.1.2.2.1 : Int) ∧ (u_4.1.2.2.1 : Int) ≤ u_4.1.2.2.2.1) ∧ ((u_4.1.2.2.2.1 : Int) ≤ Msz ∧ (Msz : Int) ≤ 900) ∧ (0 ≤ (u_4.1.2.1 : Int) ∧ (u_4.1.2.1 : Int) ≤ 4) ∧ ((u_4.1.2.1 : Int) ≤ 4 * (u_4.1.2.2.2.1 - u_4.1.2.2.1)) ∧ (-1 ≤ (u_4.1.2.2.2.2.1 : Int) ∧ (u_4.1.2.2.2.2.1 : Int) ≤ 100000)) ∧ (0 ≤ (u_4.1.2.2.2.2.2.1 : Int) ∧ (u_4.1.2.2.2.2.2.1 : Int) ≤ 9) ∧ (((u_4.1.1 : Int) = 1 ∧ ∃ (q9 v9 : Int), xTn (tX Xf Msz) 1 99 cu = .inr (q9, v9) ∧ cu < q9 ∧ RFX (tX Xf Msz) q9 u_4.1.2.2.1 u_4.1.2.2.2.1 u_4.1.2.1 u_4.1.2.2.2.2.1 ∧ (1 ≤ v9 ∧ v9 ≤ 99) ∧ u_4.2.2.1 = upd Af (iZ (y + 1)).toNatClampNeg (iZ v9) ∧ (u_4.1.2.2.2.2.2.1 : Int) = 0 ∧ u_4.1.2.2.2.2.2.2 = Mfp) ∨ ((u_4.1.1 : Int) = 0 ∧ xTn (tX Xf Msz) 1 99 cu = .inl (u_4.1.2.2.2.2.2.1, u_4.1.2.2.2.2.2.2) ∧ 1 ≤ (u_4.1.2.2.2.2.2.1 : Int))) ∧ ((u_4.1.1 : Int) = 0 → u_4.2.2.1 = Af) := hφ
    refine W.eq (g2 := F0 m 50 ls [.int (iZ u_4.1.1)]) rfl ?_
    rcases p_7 with ⟨qt_9, cut_9, yt_9, st_9, lt_9, xt_9, rt_9, ht_9, ut_9, vt_9⟩ | ⟨qt_9, st_9, bt_9⟩
    ·
      rw [qt_9]
      obtain ⟨⟨ar_10, br_10⟩, cr_10, dr_10, er_10, gr_10, hr_10⟩ := id xt_9
      have kr_10 := tk_1 dr_10 (xKd_rg _ _)
      have wr_10 := xKw_rg (tX Xf Msz) cut_9
      have w_11 := RWR.up (y := y) ht_9 (by omega) (by omega) ⟨by omega, by omega⟩
      obtain ⟨gau_12, gbu_12, gcu_12, gdu_12, gnu_12⟩ := gy_row1 ht_9 h9y ⟨by omega, by omega⟩
      exact EWz hx hb hr hlocks hS ((1, u_4.1.2.1, u_4.1.2.2.1, u_4.1.2.2.2.1, u_4.1.2.2.2.2.1, u_4.1.2.2.2.2.2.1, u_4.1.2.2.2.2.2.2), 0, u_4.2.2.1, ()) rfl rfl ⟨(show (0 ≤ (u_4.1.2.2.1 : Int) ∧ (u_4.1.2.2.1 : Int) ≤ u_4.1.2.2.2.1) ∧ ((u_4.1.2.2.2.1 : Int) ≤ Msz ∧ (Msz : Int) ≤ 900) ∧ (0 ≤ (u_4.1.2.1 : Int) ∧ (u_4.1.2.1 : Int) ≤ 4) ∧ ((u_4.1.2.1 : Int) ≤ 4 * (u_4.1.2.2.2.1 - u_4.1.2.2.1)) ∧ (-1 ≤ (u_4.1.2.2.2.2.1 : Int) ∧ (u_4.1.2.2.2.2.1 : Int) ≤ 100000) from (by first | with_reducible assumption | exact (by first | with_reducible assumption | exact ⟨⟨by omega, by omega⟩, ⟨by omega, by omega⟩, ⟨by omega, by omega⟩, by omega, by omega, by omega⟩))), (show 0 ≤ (u_4.1.2.2.2.2.2.1 : Int) ∧ (u_4.1.2.2.2.2.2.1 : Int) ≤ 9 from (by omega)), (show ((1 : Int) = 1 ∧ ∃ (q9 a9 b9 c9 : Int), xRe (tX Xf Msz) N n w cu = .inr (q9, a9, b9, c9) ∧ cu ≤ q9 ∧ RFX (tX Xf Msz) q9 u_4.1.2.2.1 u_4.1.2.2.2.1 u_4.1.2.1 u_4.1.2.2.2.2.1 ∧ (RWR u_4.2.2.1 Af y ∧ gz u_4.2.2.1 y = yCd w a9 ∧ yRS u_4.2.2.1 y w a9 b9 c9) ∧ (u_4.1.2.2.2.2.2.1 : Int) = 0 ∧ u_4.1.2.2.2.2.2.2 = Mfp) ∨ ((1 : Int) = 0 ∧ xRe (tX Xf Msz) N n w cu = .inl (u_4.1.2.2.2.2.2.1, u_4.1.2.2.2.2.2.2) ∧ 1 ≤ (u_4.1.2.2.2.2.2.1 : Int)) from (Or.inl ⟨rfl, cut_9, yt_9, -1, -1, xRe_n (by omega) st_9, by omega, xt_9, ⟨w_11, (by rw [yCd_n (show ¬ w = 19 from (by omega))]; omega), yRS_1 (by omega) ⟨by omega, by omega⟩⟩, by omega, by omega⟩)), (show (1 : Int) = 0 → KP u_4.2.2.1 Af from (fun h => absurd (show (1 : Int) = 0 from h) (by decide)))⟩ (hP.sub [1, 2, 3, 0] rfl) (hD.sub [1, 2, 3, 0] rfl rfl) dX12_yearOrder_50
    ·
      rw [qt_9]
      have kzt_9 := p_8 qt_9
      exact EWz hx hb hr hlocks hS ((0, u_4.1.2.1, u_4.1.2.2.1, u_4.1.2.2.2.1, u_4.1.2.2.2.2.1, u_4.1.2.2.2.2.2.1, u_4.1.2.2.2.2.2.2), 0, u_4.2.2.1, ()) rfl rfl ⟨(show (0 ≤ (u_4.1.2.2.1 : Int) ∧ (u_4.1.2.2.1 : Int) ≤ u_4.1.2.2.2.1) ∧ ((u_4.1.2.2.2.1 : Int) ≤ Msz ∧ (Msz : Int) ≤ 900) ∧ (0 ≤ (u_4.1.2.1 : Int) ∧ (u_4.1.2.1 : Int) ≤ 4) ∧ ((u_4.1.2.1 : Int) ≤ 4 * (u_4.1.2.2.2.1 - u_4.1.2.2.1)) ∧ (-1 ≤ (u_4.1.2.2.2.2.1 : Int) ∧ (u_4.1.2.2.2.2.1 : Int) ≤ 100000) from (by first | with_reducible assumption | exact (by first | with_reducible assumption | exact ⟨⟨by omega, by omega⟩, ⟨by omega, by omega⟩, ⟨by omega, by omega⟩, by omega, by omega, by omega⟩))), (show 0 ≤ (u_4.1.2.2.2.2.2.1 : Int) ∧ (u_4.1.2.2.2.2.2.1 : Int) ≤ 9 from (by omega)), (show ((0 : Int) = 1 ∧ ∃ (q9 a9 b9 c9 : Int), xRe (tX Xf Msz) N n w cu = .inr (q9, a9, b9, c9) ∧ cu ≤ q9 ∧ RFX (tX Xf Msz) q9 u_4.1.2.2.1 u_4.1.2.2.2.1 u_4.1.2.1 u_4.1.2.2.2.2.1 ∧ (RWR u_4.2.2.1 Af y ∧ gz u_4.2.2.1 y = yCd w a9 ∧ yRS u_4.2.2.1 y w a9 b9 c9) ∧ (u_4.1.2.2.2.2.2.1 : Int) = 0 ∧ u_4.1.2.2.2.2.2.2 = Mfp) ∨ ((0 : Int) = 0 ∧ xRe (tX Xf Msz) N n w cu = .inl (u_4.1.2.2.2.2.2.1, u_4.1.2.2.2.2.2.2) ∧ 1 ≤ (u_4.1.2.2.2.2.2.1 : Int)) from (Or.inr ⟨rfl, xRe_nl (by omega) st_9, by omega⟩)), (show (0 : Int) = 0 → KP u_4.2.2.1 Af from (fun _ => (by rw [kzt_9]; exact (KP.rf _))))⟩ (hP.sub [1, 2, 3, 0] rfl) (hD.sub [1, 2, 3, 0] rfl rfl) dX12_yearOrder_50
  ·
    rcases Classical.em (x = 16) with c_13 | c_13
    ·
      refine lv_tableIn (tgt := 51) (off := 50) hx hb dX12_yearOrder_1 (by rw [iZ_ti ⟨by omega, by omega⟩]; omega) (by rw [iZ_ti ⟨by omega, by omega⟩]; omega) (by rw [iZ_ti ⟨by omega, by omega⟩, c_13]; rfl) (by decide) ?_
      have hk9 : w = 16 := (by have p16 := hpw 16 16 (by omega) (by decide); omega)
      refine lv_aload_n hx hb dX12_yearOrder_51 rfl (lv_at hl 0 rfl) ?_
      refine lv_iload_n hx hb dX12_yearOrder_52 rfl (lv_at hl 2 rfl) ?_
      refine lv_iconst (v := iZ 1) hx hb dX12_yearOrder_53 rfl ?_
      refine lv_iadd hx hb dX12_yearOrder_54 ?_
      refine lv_topi (fun x_14 ex_14 => ?_)
      obtain rfl : x_14 = iZ (y + 1) := ex_14.trans (iZ_add y 1)
      refine CSV (As := [.int (iZ (y + 1))]) (rest := []) (wc := _) (wr := []) hx hb hml hown hts hKK hP hD hS hA hSY hRR (y_rockTo l D k sa sv hm Ma Mn Ms My Mt Mp Mx Mo Mk Ml Mb Mh Mc Mz Mr Mq Mst Mtd Msz Mtk Mfr Men Mva Mfk Mfp Mfs Mse Mlt Mdp Mct Mdr Mrs Mit Mmk Mtp Mbt Xf Af Nf (y + 1) cu n N (by first | with_reducible assumption | exact ⟨⟨by omega, by omega⟩, ⟨by omega, by omega⟩, ⟨by omega, by omega⟩, by omega, by omega, by omega⟩) (by omega) hrf ⟨by omega, by omega, by omega⟩ hns0 ⟨by omega, by omega⟩) ci_X12_rockTo qm_X12_225 ⟨Nat.le_of_ble_eq_true rfl, Nat.le_of_ble_eq_true rfl⟩ ⟨Nat.le_of_ble_eq_true rfl, Nat.le_of_ble_eq_true rfl⟩ [0, 1, 2, 3] [] rfl rfl rfl rfl rfl (dj rfl) 0 rfl rfl rfl hl.1 rfl (Nat.le_of_ble_eq_true rfl) dX12_yearOrder_55 (fun u_15 H locs hφ hP hD hS => ?_)
      obtain ⟨p_16, p_17, p_18, p_19⟩ : ((0 ≤ (u_15.1.2.2.1 : Int) ∧ (u_15.1.2.2.1 : Int) ≤ u_15.1.2.2.2.1) ∧ ((u_15.1.2.2.2.1 : Int) ≤ Msz ∧ (Msz : Int) ≤ 900) ∧ (0 ≤ (u_15.1.2.1 : Int) ∧ (u_15.1.2.1 : Int) ≤ 4) ∧ ((u_15.1.2.1 : Int) ≤ 4 * (u_15.1.2.2.2.1 - u_15.1.2.2.1)) ∧ (-1 ≤ (u_15.1.2.2.2.2.1 : Int) ∧ (u_15.1.2.2.2.2.1 : Int) ≤ 100000)) ∧ (0 ≤ (u_15.1.2.2.2.2.2.1 : Int) ∧ (u_15.1.2.2.2.2.2.1 : Int) ≤ 9) ∧ (((u_15.1.1 : Int) = 1 ∧ ∃ (q9 v9 : Int), xTr (tX Xf Msz) N n (-1) cu = .inr (q9, v9) ∧ cu < q9 ∧ RFX (tX Xf Msz) q9 u_15.1.2.2.1 u_15.1.2.2.2.1 u_15.1.2.1 u_15.1.2.2.2.2.1 ∧ (0 ≤ v9 ∧ v9 < n) ∧ u_15.2.2.1 = upd Af (iZ (y + 1)).toNatClampNeg (iZ v9) ∧ (u_15.1.2.2.2.2.2.1 : Int) = 0 ∧ u_15.1.2.2.2.2.2.2 = Mfp) ∨ ((u_15.1.1 : Int) = 0 ∧ xTr (tX Xf Msz) N n (-1) cu = .inl (u_15.1.2.2.2.2.2.1, u_15.1.2.2.2.2.2.2) ∧ 1 ≤ (u_15.1.2.2.2.2.2.1 : Int))) ∧ ((u_15.1.1 : Int) = 0 → KP u_15.2.2.1 Af) := hφ
      refine W.eq (g2 := F0 m 58 ls [.int (iZ u_15.1.1)]) rfl ?_
      rcases p_18 with ⟨qt_20, cut_20, yt_20, st_20, lt_20, xt_20, rt_20, ht_20, ut_20, vt_20⟩ | ⟨qt_20, st_20, bt_20⟩
      ·
        rw [qt_20]
        obtain ⟨⟨ar_21, br_21⟩, cr_21, dr_21, er_21, gr_21, hr_21⟩ := id xt_20
        have kr_21 := tk_1 dr_21 (xKd_rg _ _)
        have wr_21 := xKw_rg (tX Xf Msz) cut_20
        have w_22 := RWR.up (y := y) ht_20 (by omega) (by omega) ⟨by omega, by omega⟩
        obtain ⟨gau_23, gbu_23, gcu_23, gdu_23, gnu_23⟩ := gy_row1 ht_20 h9y ⟨by omega, by omega⟩
        refine lv_if_eq (tgt := 77) hx hb dX12_yearOrder_58 rfl (fun c => absurd c (by decide)) (fun _ => ?_)
        refine lv_aload_n hx hb dX12_yearOrder_61 rfl (lv_at hl 0 rfl) ?_
        refine lv_iload_n hx hb dX12_yearOrder_62 rfl (lv_at hl 2 rfl) ?_
        refine lv_iconst (v := iZ 2) hx hb dX12_yearOrder_63 rfl ?_
        refine lv_iadd hx hb dX12_yearOrder_64 ?_
        refine lv_topi (fun x_25 ex_25 => ?_)
        obtain rfl : x_25 = iZ (y + 2) := ex_25.trans (iZ_add y 2)
        refine lv_iconst (v := iZ 0) hx hb dX12_yearOrder_65 rfl ?_
        refine lv_iconst (v := iZ 1) hx hb dX12_yearOrder_66 rfl ?_
        refine CWV (As := [.int (iZ (y + 2)), .int (iZ 0), .int (iZ 1)]) (rest := []) (wc := _) (wr := [(Mn, .inl (k 2, 36, .inr (.inl Nf)))]) hx hb hml hown hts hKK hP hD hS hA (y_number l D k hm Ma Mn Ms My Mt Mp Mx Mo Mk Ml Mb Mh Mc Mz Mr Mq Mst Mtd Msz u_15.1.2.1 u_15.1.2.2.1 u_15.1.2.2.2.1 u_15.1.2.2.2.2.1 Mfk u_15.1.2.2.2.2.2.2 u_15.1.2.2.2.2.2.1 Mse Mlt Mdp Mct Mdr Mrs Mit Mmk Mtp Mbt Xf u_15.2.2.1 (y + 2) 0 1 cut_20 (by first | with_reducible assumption | exact (by first | with_reducible assumption | exact ⟨⟨by omega, by omega⟩, ⟨by omega, by omega⟩, ⟨by omega, by omega⟩, by omega, by omega, by omega⟩)) (by omega) xt_20 ⟨by omega, by omega⟩ ⟨by omega, by omega⟩ ⟨by omega, by omega⟩) ci_X12_number qm_X12_188 ⟨Nat.le_of_ble_eq_true rfl, Nat.le_of_ble_eq_true rfl⟩ ⟨Nat.le_of_ble_eq_true rfl, Nat.le_of_ble_eq_true rfl⟩ [0, 1, 2] [3] rfl rfl rfl rfl rfl (dj rfl) 0 rfl rfl rfl hl.1 rfl (Nat.le_of_ble_eq_true rfl) dX12_yearOrder_67 (fun u_26 H locs hφ hP hD hS => ?_)
        obtain ⟨p_27, p_28, p_29, p_30⟩ : ((0 ≤ (u_26.1.2.2.1 : Int) ∧ (u_26.1.2.2.1 : Int) ≤ u_26.1.2.2.2.1) ∧ ((u_26.1.2.2.2.1 : Int) ≤ Msz ∧ (Msz : Int) ≤ 900) ∧ (0 ≤ (u_26.1.2.1 : Int) ∧ (u_26.1.2.1 : Int) ≤ 4) ∧ ((u_26.1.2.1 : Int) ≤ 4 * (u_26.1.2.2.2.1 - u_26.1.2.2.1)) ∧ (-1 ≤ (u_26.1.2.2.2.2.1 : Int) ∧ (u_26.1.2.2.2.2.1 : Int) ≤ 100000)) ∧ (0 ≤ (u_26.1.2.2.2.2.2.1 : Int) ∧ (u_26.1.2.2.2.2.2.1 : Int) ≤ 9) ∧ (((u_26.1.1 : Int) = 1 ∧ ∃ (q9 v9 : Int), xTn (tX Xf Msz) 0 1 cut_20 = .inr (q9, v9) ∧ cut_20 < q9 ∧ RFX (tX Xf Msz) q9 u_26.1.2.2.1 u_26.1.2.2.2.1 u_26.1.2.1 u_26.1.2.2.2.2.1 ∧ (0 ≤ v9 ∧ v9 ≤ 1) ∧ u_26.2.2.1 = upd u_15.2.2.1 (iZ (y + 2)).toNatClampNeg (iZ v9) ∧ (u_26.1.2.2.2.2.2.1 : Int) = 0 ∧ u_26.1.2.2.2.2.2.2 = u_15.1.2.2.2.2.2.2) ∨ ((u_26.1.1 : Int) = 0 ∧ xTn (tX Xf Msz) 0 1 cut_20 = .inl (u_26.1.2.2.2.2.2.1, u_26.1.2.2.2.2.2.2) ∧ 1 ≤ (u_26.1.2.2.2.2.2.1 : Int))) ∧ ((u_26.1.1 : Int) = 0 → u_26.2.2.1 = u_15.2.2.1) := hφ
        refine W.eq (g2 := F0 m 70 ls [.int (iZ u_26.1.1)]) rfl ?_
        rcases p_29 with ⟨qt_31, cut_31, yt_31, st_31, lt_31, xt_31, rt_31, ht_31, ut_31, vt_31⟩ | ⟨qt_31, st_31, bt_31⟩
        ·
          rw [qt_31]
          obtain ⟨⟨ar_32, br_32⟩, cr_32, dr_32, er_32, gr_32, hr_32⟩ := id xt_31
          have kr_32 := tk_1 dr_32 (xKd_rg _ _)
          have wr_32 := xKw_rg (tX Xf Msz) cut_31
          have w_33 := RWR.up (y := y) ht_31 (by omega) (by omega) ⟨by omega, by omega⟩
          obtain ⟨gau_34, gbu_34, gcu_34, gdu_34, gnu_34⟩ := gy_row2 ht_31 h9y ⟨by omega, by omega⟩
          refine lv_if_eq (tgt := 77) hx hb dX12_yearOrder_70 rfl (fun c => absurd c (by decide)) (fun _ => ?_)
          refine lv_iconst (v := iZ 1) hx hb dX12_yearOrder_73 rfl ?_
          refine lv_goto (tgt := 78) hx hb dX12_yearOrder_74 rfl ?_
          exact EWz hx hb hr hlocks hS ((1, u_26.1.2.1, u_26.1.2.2.1, u_26.1.2.2.2.1, u_26.1.2.2.2.2.1, u_26.1.2.2.2.2.2.1, u_26.1.2.2.2.2.2.2), 0, u_26.2.2.1, ()) rfl rfl ⟨(show (0 ≤ (u_26.1.2.2.1 : Int) ∧ (u_26.1.2.2.1 : Int) ≤ u_26.1.2.2.2.1) ∧ ((u_26.1.2.2.2.1 : Int) ≤ Msz ∧ (Msz : Int) ≤ 900) ∧ (0 ≤ (u_26.1.2.1 : Int) ∧ (u_26.1.2.1 : Int) ≤ 4) ∧ ((u_26.1.2.1 : Int) ≤ 4 * (u_26.1.2.2.2.1 - u_26.1.2.2.1)) ∧ (-1 ≤ (u_26.1.2.2.2.2.1 : Int) ∧ (u_26.1.2.2.2.2.1 : Int) ≤ 100000) from (by first | with_reducible assumption | exact (by first | with_reducible assumption | exact ⟨⟨by omega, by omega⟩, ⟨by omega, by omega⟩, ⟨by omega, by omega⟩, by omega, by omega, by omega⟩))), (show 0 ≤ (u_26.1.2.2.2.2.2.1 : Int) ∧ (u_26.1.2.2.2.2.2.1 : Int) ≤ 9 from (by omega)), (show ((1 : Int) = 1 ∧ ∃ (q9 a9 b9 c9 : Int), xRe (tX Xf Msz) N n w cu = .inr (q9, a9, b9, c9) ∧ cu ≤ q9 ∧ RFX (tX Xf Msz) q9 u_26.1.2.2.1 u_26.1.2.2.2.1 u_26.1.2.1 u_26.1.2.2.2.2.1 ∧ (RWR u_26.2.2.1 Af y ∧ gz u_26.2.2.1 y = yCd w a9 ∧ yRS u_26.2.2.1 y w a9 b9 c9) ∧ (u_26.1.2.2.2.2.2.1 : Int) = 0 ∧ u_26.1.2.2.2.2.2.2 = Mfp) ∨ ((1 : Int) = 0 ∧ xRe (tX Xf Msz) N n w cu = .inl (u_26.1.2.2.2.2.2.1, u_26.1.2.2.2.2.2.2) ∧ 1 ≤ (u_26.1.2.2.2.2.2.1 : Int)) from (Or.inl ⟨rfl, cut_31, yt_20, yt_31, -1, xRe_w (by omega) st_20 st_31, by omega, xt_31, ⟨(RWR.tr w_33 w_22), (by rw [yCd_n (show ¬ w = 19 from (by omega))]; omega), yRS_2 (by omega) (by omega) (by omega)⟩, by omega, by omega⟩)), (show (1 : Int) = 0 → KP u_26.2.2.1 Af from (fun h => absurd (show (1 : Int) = 0 from h) (by decide)))⟩ (hP.sub [1, 2, 3, 0] rfl) (hD.sub [1, 2, 3, 0] rfl rfl) dX12_yearOrder_78
        ·
          rw [qt_31]
          have kzt_31 := p_30 qt_31
          refine lv_if_eq (tgt := 77) hx hb dX12_yearOrder_70 rfl (fun _ => ?_) (fun c => absurd (by decide) c)
          refine lv_iconst (v := iZ 0) hx hb dX12_yearOrder_77 rfl ?_
          exact EWz hx hb hr hlocks hS ((0, u_26.1.2.1, u_26.1.2.2.1, u_26.1.2.2.2.1, u_26.1.2.2.2.2.1, u_26.1.2.2.2.2.2.1, u_26.1.2.2.2.2.2.2), 0, u_26.2.2.1, ()) rfl rfl ⟨(show (0 ≤ (u_26.1.2.2.1 : Int) ∧ (u_26.1.2.2.1 : Int) ≤ u_26.1.2.2.2.1) ∧ ((u_26.1.2.2.2.1 : Int) ≤ Msz ∧ (Msz : Int) ≤ 900) ∧ (0 ≤ (u_26.1.2.1 : Int) ∧ (u_26.1.2.1 : Int) ≤ 4) ∧ ((u_26.1.2.1 : Int) ≤ 4 * (u_26.1.2.2.2.1 - u_26.1.2.2.1)) ∧ (-1 ≤ (u_26.1.2.2.2.2.1 : Int) ∧ (u_26.1.2.2.2.2.1 : Int) ≤ 100000) from (by first | with_reducible assumption | exact (by first | with_reducible assumption | exact ⟨⟨by omega, by omega⟩, ⟨by omega, by omega⟩, ⟨by omega, by omega⟩, by omega, by omega, by omega⟩))), (show 0 ≤ (u_26.1.2.2.2.2.2.1 : Int) ∧ (u_26.1.2.2.2.2.2.1 : Int) ≤ 9 from (by omega)), (show ((0 : Int) = 1 ∧ ∃ (q9 a9 b9 c9 : Int), xRe (tX Xf Msz) N n w cu = .inr (q9, a9, b9, c9) ∧ cu ≤ q9 ∧ RFX (tX Xf Msz) q9 u_26.1.2.2.1 u_26.1.2.2.2.1 u_26.1.2.1 u_26.1.2.2.2.2.1 ∧ (RWR u_26.2.2.1 Af y ∧ gz u_26.2.2.1 y = yCd w a9 ∧ yRS u_26.2.2.1 y w a9 b9 c9) ∧ (u_26.1.2.2.2.2.2.1 : Int) = 0 ∧ u_26.1.2.2.2.2.2.2 = Mfp) ∨ ((0 : Int) = 0 ∧ xRe (tX Xf Msz) N n w cu = .inl (u_26.1.2.2.2.2.2.1, u_26.1.2.2.2.2.2.2) ∧ 1 ≤ (u_26.1.2.2.2.2.2.1 : Int)) from (Or.inr ⟨rfl, xRe_wb (by omega) st_20 st_31, by omega⟩)), (show (0 : Int) = 0 → KP u_26.2.2.1 Af from (fun _ => (by rw [kzt_31]; exact (RWR.kp w_22 (by omega)))))⟩ (hP.sub [1, 2, 3, 0] rfl) (hD.sub [1, 2, 3, 0] rfl rfl) dX12_yearOrder_78
      ·
        rw [qt_20]
        have kzt_20 := p_19 qt_20
        refine lv_if_eq (tgt := 77) hx hb dX12_yearOrder_58 rfl (fun _ => ?_) (fun c => absurd (by decide) c)
        refine lv_iconst (v := iZ 0) hx hb dX12_yearOrder_77 rfl ?_
        exact EWz hx hb hr hlocks hS ((0, u_15.1.2.1, u_15.1.2.2.1, u_15.1.2.2.2.1, u_15.1.2.2.2.2.1, u_15.1.2.2.2.2.2.1, u_15.1.2.2.2.2.2.2), 0, u_15.2.2.1, ()) rfl rfl ⟨(show (0 ≤ (u_15.1.2.2.1 : Int) ∧ (u_15.1.2.2.1 : Int) ≤ u_15.1.2.2.2.1) ∧ ((u_15.1.2.2.2.1 : Int) ≤ Msz ∧ (Msz : Int) ≤ 900) ∧ (0 ≤ (u_15.1.2.1 : Int) ∧ (u_15.1.2.1 : Int) ≤ 4) ∧ ((u_15.1.2.1 : Int) ≤ 4 * (u_15.1.2.2.2.1 - u_15.1.2.2.1)) ∧ (-1 ≤ (u_15.1.2.2.2.2.1 : Int) ∧ (u_15.1.2.2.2.2.1 : Int) ≤ 100000) from (by first | with_reducible assumption | exact (by first | with_reducible assumption | exact ⟨⟨by omega, by omega⟩, ⟨by omega, by omega⟩, ⟨by omega, by omega⟩, by omega, by omega, by omega⟩))), (show 0 ≤ (u_15.1.2.2.2.2.2.1 : Int) ∧ (u_15.1.2.2.2.2.2.1 : Int) ≤ 9 from (by omega)), (show ((0 : Int) = 1 ∧ ∃ (q9 a9 b9 c9 : Int), xRe (tX Xf Msz) N n w cu = .inr (q9, a9, b9, c9) ∧ cu ≤ q9 ∧ RFX (tX Xf Msz) q9 u_15.1.2.2.1 u_15.1.2.2.2.1 u_15.1.2.1 u_15.1.2.2.2.2.1 ∧ (RWR u_15.2.2.1 Af y ∧ gz u_15.2.2.1 y = yCd w a9 ∧ yRS u_15.2.2.1 y w a9 b9 c9) ∧ (u_15.1.2.2.2.2.2.1 : Int) = 0 ∧ u_15.1.2.2.2.2.2.2 = Mfp) ∨ ((0 : Int) = 0 ∧ xRe (tX Xf Msz) N n w cu = .inl (u_15.1.2.2.2.2.2.1, u_15.1.2.2.2.2.2.2) ∧ 1 ≤ (u_15.1.2.2.2.2.2.1 : Int)) from (Or.inr ⟨rfl, xRe_wa (by omega) st_20, by omega⟩)), (show (0 : Int) = 0 → KP u_15.2.2.1 Af from (fun _ => (KP.tr kzt_20 (KP.rf _))))⟩ (hP.sub [0, 1, 2, 3] rfl) (hD.sub [0, 1, 2, 3] rfl rfl) dX12_yearOrder_78
    ·
      rcases Classical.em (x = 17) with c_38 | c_38
      ·
        refine lv_tableIn (tgt := 79) (off := 78) hx hb dX12_yearOrder_1 (by rw [iZ_ti ⟨by omega, by omega⟩]; omega) (by rw [iZ_ti ⟨by omega, by omega⟩]; omega) (by rw [iZ_ti ⟨by omega, by omega⟩, c_38]; rfl) (by decide) ?_
        have hk9 : w = 17 := (by have p17 := hpw 17 17 (by omega) (by decide); omega)
        refine lv_aload_n hx hb dX12_yearOrder_79 rfl (lv_at hl 0 rfl) ?_
        refine lv_iload_n hx hb dX12_yearOrder_80 rfl (lv_at hl 2 rfl) ?_
        refine lv_iconst (v := iZ 1) hx hb dX12_yearOrder_81 rfl ?_
        refine lv_iadd hx hb dX12_yearOrder_82 ?_
        refine lv_topi (fun x_39 ex_39 => ?_)
        obtain rfl : x_39 = iZ (y + 1) := ex_39.trans (iZ_add y 1)
        refine CSV (As := [.int (iZ (y + 1))]) (rest := []) (wc := _) (wr := []) hx hb hml hown hts hKK hP hD hS hA hSY hRR (y_rockTo l D k sa sv hm Ma Mn Ms My Mt Mp Mx Mo Mk Ml Mb Mh Mc Mz Mr Mq Mst Mtd Msz Mtk Mfr Men Mva Mfk Mfp Mfs Mse Mlt Mdp Mct Mdr Mrs Mit Mmk Mtp Mbt Xf Af Nf (y + 1) cu n N (by first | with_reducible assumption | exact ⟨⟨by omega, by omega⟩, ⟨by omega, by omega⟩, ⟨by omega, by omega⟩, by omega, by omega, by omega⟩) (by omega) hrf ⟨by omega, by omega, by omega⟩ hns0 ⟨by omega, by omega⟩) ci_X12_rockTo qm_X12_225 ⟨Nat.le_of_ble_eq_true rfl, Nat.le_of_ble_eq_true rfl⟩ ⟨Nat.le_of_ble_eq_true rfl, Nat.le_of_ble_eq_true rfl⟩ [0, 1, 2, 3] [] rfl rfl rfl rfl rfl (dj rfl) 0 rfl rfl rfl hl.1 rfl (Nat.le_of_ble_eq_true rfl) dX12_yearOrder_83 (fun u_40 H locs hφ hP hD hS => ?_)
        obtain ⟨p_41, p_42, p_43, p_44⟩ : ((0 ≤ (u_40.1.2.2.1 : Int) ∧ (u_40.1.2.2.1 : Int) ≤ u_40.1.2.2.2.1) ∧ ((u_40.1.2.2.2.1 : Int) ≤ Msz ∧ (Msz : Int) ≤ 900) ∧ (0 ≤ (u_40.1.2.1 : Int) ∧ (u_40.1.2.1 : Int) ≤ 4) ∧ ((u_40.1.2.1 : Int) ≤ 4 * (u_40.1.2.2.2.1 - u_40.1.2.2.1)) ∧ (-1 ≤ (u_40.1.2.2.2.2.1 : Int) ∧ (u_40.1.2.2.2.2.1 : Int) ≤ 100000)) ∧ (0 ≤ (u_40.1.2.2.2.2.2.1 : Int) ∧ (u_40.1.2.2.2.2.2.1 : Int) ≤ 9) ∧ (((u_40.1.1 : Int) = 1 ∧ ∃ (q9 v9 : Int), xTr (tX Xf Msz) N n (-1) cu = .inr (q9, v9) ∧ cu < q9 ∧ RFX (tX Xf Msz) q9 u_40.1.2.2.1 u_40.1.2.2.2.1 u_40.1.2.1 u_40.1.2.2.2.2.1 ∧ (0 ≤ v9 ∧ v9 < n) ∧ u_40.2.2.1 = upd Af (iZ (y + 1)).toNatClampNeg (iZ v9) ∧ (u_40.1.2.2.2.2.2.1 : Int) = 0 ∧ u_40.1.2.2.2.2.2.2 = Mfp) ∨ ((u_40.1.1 : Int) = 0 ∧ xTr (tX Xf Msz) N n (-1) cu = .inl (u_40.1.2.2.2.2.2.1, u_40.1.2.2.2.2.2.2) ∧ 1 ≤ (u_40.1.2.2.2.2.2.1 : Int))) ∧ ((u_40.1.1 : Int) = 0 → KP u_40.2.2.1 Af) := hφ
        refine W.eq (g2 := F0 m 86 ls [.int (iZ u_40.1.1)]) rfl ?_
        rcases p_43 with ⟨qt_45, cut_45, yt_45, st_45, lt_45, xt_45, rt_45, ht_45, ut_45, vt_45⟩ | ⟨qt_45, st_45, bt_45⟩
        ·
          rw [qt_45]
          obtain ⟨⟨ar_46, br_46⟩, cr_46, dr_46, er_46, gr_46, hr_46⟩ := id xt_45
          have kr_46 := tk_1 dr_46 (xKd_rg _ _)
          have wr_46 := xKw_rg (tX Xf Msz) cut_45
          have w_47 := RWR.up (y := y) ht_45 (by omega) (by omega) ⟨by omega, by omega⟩
          obtain ⟨gau_48, gbu_48, gcu_48, gdu_48, gnu_48⟩ := gy_row1 ht_45 h9y ⟨by omega, by omega⟩
          exact EWz hx hb hr hlocks hS ((1, u_40.1.2.1, u_40.1.2.2.1, u_40.1.2.2.2.1, u_40.1.2.2.2.2.1, u_40.1.2.2.2.2.2.1, u_40.1.2.2.2.2.2.2), 0, u_40.2.2.1, ()) rfl rfl ⟨(show (0 ≤ (u_40.1.2.2.1 : Int) ∧ (u_40.1.2.2.1 : Int) ≤ u_40.1.2.2.2.1) ∧ ((u_40.1.2.2.2.1 : Int) ≤ Msz ∧ (Msz : Int) ≤ 900) ∧ (0 ≤ (u_40.1.2.1 : Int) ∧ (u_40.1.2.1 : Int) ≤ 4) ∧ ((u_40.1.2.1 : Int) ≤ 4 * (u_40.1.2.2.2.1 - u_40.1.2.2.1)) ∧ (-1 ≤ (u_40.1.2.2.2.2.1 : Int) ∧ (u_40.1.2.2.2.2.1 : Int) ≤ 100000) from (by first | with_reducible assumption | exact (by first | with_reducible assumption | exact ⟨⟨by omega, by omega⟩, ⟨by omega, by omega⟩, ⟨by omega, by omega⟩, by omega, by omega, by omega⟩))), (show 0 ≤ (u_40.1.2.2.2.2.2.1 : Int) ∧ (u_40.1.2.2.2.2.2.1 : Int) ≤ 9 from (by omega)), (show ((1 : Int) = 1 ∧ ∃ (q9 a9 b9 c9 : Int), xRe (tX Xf Msz) N n w cu = .inr (q9, a9, b9, c9) ∧ cu ≤ q9 ∧ RFX (tX Xf Msz) q9 u_40.1.2.2.1 u_40.1.2.2.2.1 u_40.1.2.1 u_40.1.2.2.2.2.1 ∧ (RWR u_40.2.2.1 Af y ∧ gz u_40.2.2.1 y = yCd w a9 ∧ yRS u_40.2.2.1 y w a9 b9 c9) ∧ (u_40.1.2.2.2.2.2.1 : Int) = 0 ∧ u_40.1.2.2.2.2.2.2 = Mfp) ∨ ((1 : Int) = 0 ∧ xRe (tX Xf Msz) N n w cu = .inl (u_40.1.2.2.2.2.2.1, u_40.1.2.2.2.2.2.2) ∧ 1 ≤ (u_40.1.2.2.2.2.2.1 : Int)) from (Or.inl ⟨rfl, cut_45, yt_45, -1, -1, xRe_o (by omega) st_45, by omega, xt_45, ⟨w_47, (by rw [yCd_n (show ¬ w = 19 from (by omega))]; omega), yRS_1 (by omega) ⟨by omega, by omega⟩⟩, by omega, by omega⟩)), (show (1 : Int) = 0 → KP u_40.2.2.1 Af from (fun h => absurd (show (1 : Int) = 0 from h) (by decide)))⟩ (hP.sub [0, 1, 2, 3] rfl) (hD.sub [0, 1, 2, 3] rfl rfl) dX12_yearOrder_86
        ·
          rw [qt_45]
          have kzt_45 := p_44 qt_45
          exact EWz hx hb hr hlocks hS ((0, u_40.1.2.1, u_40.1.2.2.1, u_40.1.2.2.2.1, u_40.1.2.2.2.2.1, u_40.1.2.2.2.2.2.1, u_40.1.2.2.2.2.2.2), 0, u_40.2.2.1, ()) rfl rfl ⟨(show (0 ≤ (u_40.1.2.2.1 : Int) ∧ (u_40.1.2.2.1 : Int) ≤ u_40.1.2.2.2.1) ∧ ((u_40.1.2.2.2.1 : Int) ≤ Msz ∧ (Msz : Int) ≤ 900) ∧ (0 ≤ (u_40.1.2.1 : Int) ∧ (u_40.1.2.1 : Int) ≤ 4) ∧ ((u_40.1.2.1 : Int) ≤ 4 * (u_40.1.2.2.2.1 - u_40.1.2.2.1)) ∧ (-1 ≤ (u_40.1.2.2.2.2.1 : Int) ∧ (u_40.1.2.2.2.2.1 : Int) ≤ 100000) from (by first | with_reducible assumption | exact (by first | with_reducible assumption | exact ⟨⟨by omega, by omega⟩, ⟨by omega, by omega⟩, ⟨by omega, by omega⟩, by omega, by omega, by omega⟩))), (show 0 ≤ (u_40.1.2.2.2.2.2.1 : Int) ∧ (u_40.1.2.2.2.2.2.1 : Int) ≤ 9 from (by omega)), (show ((0 : Int) = 1 ∧ ∃ (q9 a9 b9 c9 : Int), xRe (tX Xf Msz) N n w cu = .inr (q9, a9, b9, c9) ∧ cu ≤ q9 ∧ RFX (tX Xf Msz) q9 u_40.1.2.2.1 u_40.1.2.2.2.1 u_40.1.2.1 u_40.1.2.2.2.2.1 ∧ (RWR u_40.2.2.1 Af y ∧ gz u_40.2.2.1 y = yCd w a9 ∧ yRS u_40.2.2.1 y w a9 b9 c9) ∧ (u_40.1.2.2.2.2.2.1 : Int) = 0 ∧ u_40.1.2.2.2.2.2.2 = Mfp) ∨ ((0 : Int) = 0 ∧ xRe (tX Xf Msz) N n w cu = .inl (u_40.1.2.2.2.2.2.1, u_40.1.2.2.2.2.2.2) ∧ 1 ≤ (u_40.1.2.2.2.2.2.1 : Int)) from (Or.inr ⟨rfl, xRe_ol (by omega) st_45, by omega⟩)), (show (0 : Int) = 0 → KP u_40.2.2.1 Af from (fun _ => (KP.tr kzt_45 (KP.rf _))))⟩ (hP.sub [0, 1, 2, 3] rfl) (hD.sub [0, 1, 2, 3] rfl rfl) dX12_yearOrder_86
      ·
        rcases Classical.em (x = 18) with c_49 | c_49
        ·
          refine lv_tableIn (tgt := 87) (off := 86) hx hb dX12_yearOrder_1 (by rw [iZ_ti ⟨by omega, by omega⟩]; omega) (by rw [iZ_ti ⟨by omega, by omega⟩]; omega) (by rw [iZ_ti ⟨by omega, by omega⟩, c_49]; rfl) (by decide) ?_
          have hk9 : w = 18 := (by have p18 := hpw 18 18 (by omega) (by decide); omega)
          refine lv_aload_n hx hb dX12_yearOrder_87 rfl (lv_at hl 0 rfl) ?_
          refine lv_iload_n hx hb dX12_yearOrder_88 rfl (lv_at hl 2 rfl) ?_
          refine lv_iconst (v := iZ 1) hx hb dX12_yearOrder_89 rfl ?_
          refine lv_iadd hx hb dX12_yearOrder_90 ?_
          refine lv_topi (fun x_50 ex_50 => ?_)
          obtain rfl : x_50 = iZ (y + 1) := ex_50.trans (iZ_add y 1)
          refine lv_iconst (v := iZ 0) hx hb dX12_yearOrder_91 rfl ?_
          refine lv_bipush (v := iZ 16) hx hb dX12_yearOrder_92 bip_16 ?_
          refine CWV (As := [.int (iZ (y + 1)), .int (iZ 0), .int (iZ 16)]) (rest := []) (wc := _) (wr := [(Mn, .inl (k 2, 36, .inr (.inl Nf)))]) hx hb hml hown hts hKK hP hD hS hA (y_number l D k hm Ma Mn Ms My Mt Mp Mx Mo Mk Ml Mb Mh Mc Mz Mr Mq Mst Mtd Msz Mtk Mfr Men Mva Mfk Mfp Mfs Mse Mlt Mdp Mct Mdr Mrs Mit Mmk Mtp Mbt Xf Af (y + 1) 0 16 cu (by first | with_reducible assumption | exact (by first | with_reducible assumption | exact ⟨⟨by omega, by omega⟩, ⟨by omega, by omega⟩, ⟨by omega, by omega⟩, by omega, by omega, by omega⟩)) (by omega) hrf ⟨by omega, by omega⟩ ⟨by omega, by omega⟩ ⟨by omega, by omega⟩) ci_X12_number qm_X12_188 ⟨Nat.le_of_ble_eq_true rfl, Nat.le_of_ble_eq_true rfl⟩ ⟨Nat.le_of_ble_eq_true rfl, Nat.le_of_ble_eq_true rfl⟩ [0, 1, 2] [3] rfl rfl rfl rfl rfl (dj rfl) 0 rfl rfl rfl hl.1 rfl (Nat.le_of_ble_eq_true rfl) dX12_yearOrder_94 (fun u_51 H locs hφ hP hD hS => ?_)
          obtain ⟨p_52, p_53, p_54, p_55⟩ : ((0 ≤ (u_51.1.2.2.1 : Int) ∧ (u_51.1.2.2.1 : Int) ≤ u_51.1.2.2.2.1) ∧ ((u_51.1.2.2.2.1 : Int) ≤ Msz ∧ (Msz : Int) ≤ 900) ∧ (0 ≤ (u_51.1.2.1 : Int) ∧ (u_51.1.2.1 : Int) ≤ 4) ∧ ((u_51.1.2.1 : Int) ≤ 4 * (u_51.1.2.2.2.1 - u_51.1.2.2.1)) ∧ (-1 ≤ (u_51.1.2.2.2.2.1 : Int) ∧ (u_51.1.2.2.2.2.1 : Int) ≤ 100000)) ∧ (0 ≤ (u_51.1.2.2.2.2.2.1 : Int) ∧ (u_51.1.2.2.2.2.2.1 : Int) ≤ 9) ∧ (((u_51.1.1 : Int) = 1 ∧ ∃ (q9 v9 : Int), xTn (tX Xf Msz) 0 16 cu = .inr (q9, v9) ∧ cu < q9 ∧ RFX (tX Xf Msz) q9 u_51.1.2.2.1 u_51.1.2.2.2.1 u_51.1.2.1 u_51.1.2.2.2.2.1 ∧ (0 ≤ v9 ∧ v9 ≤ 16) ∧ u_51.2.2.1 = upd Af (iZ (y + 1)).toNatClampNeg (iZ v9) ∧ (u_51.1.2.2.2.2.2.1 : Int) = 0 ∧ u_51.1.2.2.2.2.2.2 = Mfp) ∨ ((u_51.1.1 : Int) = 0 ∧ xTn (tX Xf Msz) 0 16 cu = .inl (u_51.1.2.2.2.2.2.1, u_51.1.2.2.2.2.2.2) ∧ 1 ≤ (u_51.1.2.2.2.2.2.1 : Int))) ∧ ((u_51.1.1 : Int) = 0 → u_51.2.2.1 = Af) := hφ
          refine W.eq (g2 := F0 m 97 ls [.int (iZ u_51.1.1)]) rfl ?_
          rcases p_54 with ⟨qt_56, cut_56, yt_56, st_56, lt_56, xt_56, rt_56, ht_56, ut_56, vt_56⟩ | ⟨qt_56, st_56, bt_56⟩
          ·
            rw [qt_56]
            obtain ⟨⟨ar_57, br_57⟩, cr_57, dr_57, er_57, gr_57, hr_57⟩ := id xt_56
            have kr_57 := tk_1 dr_57 (xKd_rg _ _)
            have wr_57 := xKw_rg (tX Xf Msz) cut_56
            have w_58 := RWR.up (y := y) ht_56 (by omega) (by omega) ⟨by omega, by omega⟩
            obtain ⟨gau_59, gbu_59, gcu_59, gdu_59, gnu_59⟩ := gy_row1 ht_56 h9y ⟨by omega, by omega⟩
            exact EWz hx hb hr hlocks hS ((1, u_51.1.2.1, u_51.1.2.2.1, u_51.1.2.2.2.1, u_51.1.2.2.2.2.1, u_51.1.2.2.2.2.2.1, u_51.1.2.2.2.2.2.2), 0, u_51.2.2.1, ()) rfl rfl ⟨(show (0 ≤ (u_51.1.2.2.1 : Int) ∧ (u_51.1.2.2.1 : Int) ≤ u_51.1.2.2.2.1) ∧ ((u_51.1.2.2.2.1 : Int) ≤ Msz ∧ (Msz : Int) ≤ 900) ∧ (0 ≤ (u_51.1.2.1 : Int) ∧ (u_51.1.2.1 : Int) ≤ 4) ∧ ((u_51.1.2.1 : Int) ≤ 4 * (u_51.1.2.2.2.1 - u_51.1.2.2.1)) ∧ (-1 ≤ (u_51.1.2.2.2.2.1 : Int) ∧ (u_51.1.2.2.2.2.1 : Int) ≤ 100000) from (by first | with_reducible assumption | exact (by first | with_reducible assumption | exact ⟨⟨by omega, by omega⟩, ⟨by omega, by omega⟩, ⟨by omega, by omega⟩, by omega, by omega, by omega⟩))), (show 0 ≤ (u_51.1.2.2.2.2.2.1 : Int) ∧ (u_51.1.2.2.2.2.2.1 : Int) ≤ 9 from (by omega)), (show ((1 : Int) = 1 ∧ ∃ (q9 a9 b9 c9 : Int), xRe (tX Xf Msz) N n w cu = .inr (q9, a9, b9, c9) ∧ cu ≤ q9 ∧ RFX (tX Xf Msz) q9 u_51.1.2.2.1 u_51.1.2.2.2.1 u_51.1.2.1 u_51.1.2.2.2.2.1 ∧ (RWR u_51.2.2.1 Af y ∧ gz u_51.2.2.1 y = yCd w a9 ∧ yRS u_51.2.2.1 y w a9 b9 c9) ∧ (u_51.1.2.2.2.2.2.1 : Int) = 0 ∧ u_51.1.2.2.2.2.2.2 = Mfp) ∨ ((1 : Int) = 0 ∧ xRe (tX Xf Msz) N n w cu = .inl (u_51.1.2.2.2.2.2.1, u_51.1.2.2.2.2.2.2) ∧ 1 ≤ (u_51.1.2.2.2.2.2.1 : Int)) from (Or.inl ⟨rfl, cut_56, yt_56, -1, -1, xRe_c (by omega) st_56, by omega, xt_56, ⟨w_58, (by rw [yCd_n (show ¬ w = 19 from (by omega))]; omega), yRS_1 (by omega) ⟨by omega, by omega⟩⟩, by omega, by omega⟩)), (show (1 : Int) = 0 → KP u_51.2.2.1 Af from (fun h => absurd (show (1 : Int) = 0 from h) (by decide)))⟩ (hP.sub [1, 2, 3, 0] rfl) (hD.sub [1, 2, 3, 0] rfl rfl) dX12_yearOrder_97
          ·
            rw [qt_56]
            have kzt_56 := p_55 qt_56
            exact EWz hx hb hr hlocks hS ((0, u_51.1.2.1, u_51.1.2.2.1, u_51.1.2.2.2.1, u_51.1.2.2.2.2.1, u_51.1.2.2.2.2.2.1, u_51.1.2.2.2.2.2.2), 0, u_51.2.2.1, ()) rfl rfl ⟨(show (0 ≤ (u_51.1.2.2.1 : Int) ∧ (u_51.1.2.2.1 : Int) ≤ u_51.1.2.2.2.1) ∧ ((u_51.1.2.2.2.1 : Int) ≤ Msz ∧ (Msz : Int) ≤ 900) ∧ (0 ≤ (u_51.1.2.1 : Int) ∧ (u_51.1.2.1 : Int) ≤ 4) ∧ ((u_51.1.2.1 : Int) ≤ 4 * (u_51.1.2.2.2.1 - u_51.1.2.2.1)) ∧ (-1 ≤ (u_51.1.2.2.2.2.1 : Int) ∧ (u_51.1.2.2.2.2.1 : Int) ≤ 100000) from (by first | with_reducible assumption | exact (by first | with_reducible assumption | exact ⟨⟨by omega, by omega⟩, ⟨by omega, by omega⟩, ⟨by omega, by omega⟩, by omega, by omega, by omega⟩))), (show 0 ≤ (u_51.1.2.2.2.2.2.1 : Int) ∧ (u_51.1.2.2.2.2.2.1 : Int) ≤ 9 from (by omega)), (show ((0 : Int) = 1 ∧ ∃ (q9 a9 b9 c9 : Int), xRe (tX Xf Msz) N n w cu = .inr (q9, a9, b9, c9) ∧ cu ≤ q9 ∧ RFX (tX Xf Msz) q9 u_51.1.2.2.1 u_51.1.2.2.2.1 u_51.1.2.1 u_51.1.2.2.2.2.1 ∧ (RWR u_51.2.2.1 Af y ∧ gz u_51.2.2.1 y = yCd w a9 ∧ yRS u_51.2.2.1 y w a9 b9 c9) ∧ (u_51.1.2.2.2.2.2.1 : Int) = 0 ∧ u_51.1.2.2.2.2.2.2 = Mfp) ∨ ((0 : Int) = 0 ∧ xRe (tX Xf Msz) N n w cu = .inl (u_51.1.2.2.2.2.2.1, u_51.1.2.2.2.2.2.2) ∧ 1 ≤ (u_51.1.2.2.2.2.2.1 : Int)) from (Or.inr ⟨rfl, xRe_cl (by omega) st_56, by omega⟩)), (show (0 : Int) = 0 → KP u_51.2.2.1 Af from (fun _ => (by rw [kzt_56]; exact (KP.rf _))))⟩ (hP.sub [1, 2, 3, 0] rfl) (hD.sub [1, 2, 3, 0] rfl rfl) dX12_yearOrder_97
        ·
          rcases Classical.em (x = 19) with c_60 | c_60
          ·
            refine lv_tableIn (tgt := 98) (off := 97) hx hb dX12_yearOrder_1 (by rw [iZ_ti ⟨by omega, by omega⟩]; omega) (by rw [iZ_ti ⟨by omega, by omega⟩]; omega) (by rw [iZ_ti ⟨by omega, by omega⟩, c_60]; rfl) (by decide) ?_
            have hk9 : w = 19 := (by have p19 := hpw 19 19 (by omega) (by decide); omega)
            refine lv_aload_n hx hb dX12_yearOrder_98 rfl (lv_at hl 0 rfl) ?_
            refine lv_iload_n hx hb dX12_yearOrder_99 rfl (lv_at hl 2 rfl) ?_
            refine CSV (As := [.int (iZ y)]) (rest := []) (wc := _) (wr := []) hx hb hml hown hts hKK hP hD hS hA hSY hRR (y_test l D k sa sv hm Ma Mn Ms My Mt Mp Mx Mo Mk Ml Mb Mh Mc Mz Mr Mq Mst Mtd Msz Mtk Mfr Men Mva Mfk Mfp Mfs Mse Mlt Mdp Mct Mdr Mrs Mit Mmk Mtp Mbt Xf Af Nf y cu n N (by first | with_reducible assumption | exact ⟨⟨by omega, by omega⟩, ⟨by omega, by omega⟩, ⟨by omega, by omega⟩, by omega, by omega, by omega⟩) (by omega) hrf ⟨by omega, by omega, by omega⟩ hns0 ⟨by omega, by omega⟩) ci_X12_test qm_X12_228 ⟨Nat.le_of_ble_eq_true rfl, Nat.le_of_ble_eq_true rfl⟩ ⟨Nat.le_of_ble_eq_true rfl, Nat.le_of_ble_eq_true rfl⟩ [0, 1, 2, 3] [] rfl rfl rfl rfl rfl (dj rfl) 0 rfl rfl rfl hl.1 rfl (Nat.le_of_ble_eq_true rfl) dX12_yearOrder_100 (fun u_61 H locs hφ hP hD hS => ?_)
            obtain ⟨p_62, p_63, p_64, p_65⟩ : ((0 ≤ (u_61.1.2.2.1 : Int) ∧ (u_61.1.2.2.1 : Int) ≤ u_61.1.2.2.2.1) ∧ ((u_61.1.2.2.2.1 : Int) ≤ Msz ∧ (Msz : Int) ≤ 900) ∧ (0 ≤ (u_61.1.2.1 : Int) ∧ (u_61.1.2.1 : Int) ≤ 4) ∧ ((u_61.1.2.1 : Int) ≤ 4 * (u_61.1.2.2.2.1 - u_61.1.2.2.1)) ∧ (-1 ≤ (u_61.1.2.2.2.2.1 : Int) ∧ (u_61.1.2.2.2.2.1 : Int) ≤ 100000)) ∧ (0 ≤ (u_61.1.2.2.2.2.2.1 : Int) ∧ (u_61.1.2.2.2.2.2.1 : Int) ≤ 9) ∧ (((u_61.1.1 : Int) = 1 ∧ ∃ (q9 a9 b9 c9 : Int), xTe (tX Xf Msz) N n cu = .inr (q9, a9, b9, c9) ∧ cu ≤ q9 ∧ RFX (tX Xf Msz) q9 u_61.1.2.2.1 u_61.1.2.2.2.1 u_61.1.2.1 u_61.1.2.2.2.2.1 ∧ (RWR u_61.2.2.1 Af y ∧ gz u_61.2.2.1 y = 1900 + xPm a9 ∧ yRS u_61.2.2.1 y 19 a9 b9 c9) ∧ (u_61.1.2.2.2.2.2.1 : Int) = 0 ∧ u_61.1.2.2.2.2.2.2 = Mfp) ∨ ((u_61.1.1 : Int) = 0 ∧ xTe (tX Xf Msz) N n cu = .inl (u_61.1.2.2.2.2.2.1, u_61.1.2.2.2.2.2.2) ∧ 1 ≤ (u_61.1.2.2.2.2.2.1 : Int))) ∧ ((u_61.1.1 : Int) = 0 → KP u_61.2.2.1 Af) := hφ
            refine W.eq (g2 := F0 m 103 ls [.int (iZ u_61.1.1)]) rfl ?_
            rcases p_64 with ⟨qt_66, cut_66, at_66, bt_66, ct_66, st_66, lt_66, xt_66, ft_66, ut_66, vt_66⟩ | ⟨qt_66, st_66, bt_66⟩
            ·
              rw [qt_66]
              obtain ⟨⟨ar_67, br_67⟩, cr_67, dr_67, er_67, gr_67, hr_67⟩ := id xt_66
              have kr_67 := tk_1 dr_67 (xKd_rg _ _)
              have wr_67 := xKw_rg (tX Xf Msz) cut_66
              exact EWz hx hb hr hlocks hS ((1, u_61.1.2.1, u_61.1.2.2.1, u_61.1.2.2.2.1, u_61.1.2.2.2.2.1, u_61.1.2.2.2.2.2.1, u_61.1.2.2.2.2.2.2), 0, u_61.2.2.1, ()) rfl rfl ⟨(show (0 ≤ (u_61.1.2.2.1 : Int) ∧ (u_61.1.2.2.1 : Int) ≤ u_61.1.2.2.2.1) ∧ ((u_61.1.2.2.2.1 : Int) ≤ Msz ∧ (Msz : Int) ≤ 900) ∧ (0 ≤ (u_61.1.2.1 : Int) ∧ (u_61.1.2.1 : Int) ≤ 4) ∧ ((u_61.1.2.1 : Int) ≤ 4 * (u_61.1.2.2.2.1 - u_61.1.2.2.1)) ∧ (-1 ≤ (u_61.1.2.2.2.2.1 : Int) ∧ (u_61.1.2.2.2.2.1 : Int) ≤ 100000) from (by first | with_reducible assumption | exact (by first | with_reducible assumption | exact ⟨⟨by omega, by omega⟩, ⟨by omega, by omega⟩, ⟨by omega, by omega⟩, by omega, by omega, by omega⟩))), (show 0 ≤ (u_61.1.2.2.2.2.2.1 : Int) ∧ (u_61.1.2.2.2.2.2.1 : Int) ≤ 9 from (by omega)), (show ((1 : Int) = 1 ∧ ∃ (q9 a9 b9 c9 : Int), xRe (tX Xf Msz) N n w cu = .inr (q9, a9, b9, c9) ∧ cu ≤ q9 ∧ RFX (tX Xf Msz) q9 u_61.1.2.2.1 u_61.1.2.2.2.1 u_61.1.2.1 u_61.1.2.2.2.2.1 ∧ (RWR u_61.2.2.1 Af y ∧ gz u_61.2.2.1 y = yCd w a9 ∧ yRS u_61.2.2.1 y w a9 b9 c9) ∧ (u_61.1.2.2.2.2.2.1 : Int) = 0 ∧ u_61.1.2.2.2.2.2.2 = Mfp) ∨ ((1 : Int) = 0 ∧ xRe (tX Xf Msz) N n w cu = .inl (u_61.1.2.2.2.2.2.1, u_61.1.2.2.2.2.2.2) ∧ 1 ≤ (u_61.1.2.2.2.2.2.1 : Int)) from (Or.inl ⟨rfl, cut_66, at_66, bt_66, ct_66, xRe_t (show w = 19 from (by omega)) st_66, by omega, xt_66, ⟨ft_66.1, by rw [(show w = 19 from (by omega)), yCd_t]; exact ft_66.2.1, by rw [(show w = 19 from (by omega))]; exact ft_66.2.2⟩, by omega, by omega⟩)), (show (1 : Int) = 0 → KP u_61.2.2.1 Af from (fun h => absurd (show (1 : Int) = 0 from h) (by decide)))⟩ (hP.sub [0, 1, 2, 3] rfl) (hD.sub [0, 1, 2, 3] rfl rfl) dX12_yearOrder_103
            ·
              rw [qt_66]
              have kzt_66 := p_65 qt_66
              exact EWz hx hb hr hlocks hS ((0, u_61.1.2.1, u_61.1.2.2.1, u_61.1.2.2.2.1, u_61.1.2.2.2.2.1, u_61.1.2.2.2.2.2.1, u_61.1.2.2.2.2.2.2), 0, u_61.2.2.1, ()) rfl rfl ⟨(show (0 ≤ (u_61.1.2.2.1 : Int) ∧ (u_61.1.2.2.1 : Int) ≤ u_61.1.2.2.2.1) ∧ ((u_61.1.2.2.2.1 : Int) ≤ Msz ∧ (Msz : Int) ≤ 900) ∧ (0 ≤ (u_61.1.2.1 : Int) ∧ (u_61.1.2.1 : Int) ≤ 4) ∧ ((u_61.1.2.1 : Int) ≤ 4 * (u_61.1.2.2.2.1 - u_61.1.2.2.1)) ∧ (-1 ≤ (u_61.1.2.2.2.2.1 : Int) ∧ (u_61.1.2.2.2.2.1 : Int) ≤ 100000) from (by first | with_reducible assumption | exact (by first | with_reducible assumption | exact ⟨⟨by omega, by omega⟩, ⟨by omega, by omega⟩, ⟨by omega, by omega⟩, by omega, by omega, by omega⟩))), (show 0 ≤ (u_61.1.2.2.2.2.2.1 : Int) ∧ (u_61.1.2.2.2.2.2.1 : Int) ≤ 9 from (by omega)), (show ((0 : Int) = 1 ∧ ∃ (q9 a9 b9 c9 : Int), xRe (tX Xf Msz) N n w cu = .inr (q9, a9, b9, c9) ∧ cu ≤ q9 ∧ RFX (tX Xf Msz) q9 u_61.1.2.2.1 u_61.1.2.2.2.1 u_61.1.2.1 u_61.1.2.2.2.2.1 ∧ (RWR u_61.2.2.1 Af y ∧ gz u_61.2.2.1 y = yCd w a9 ∧ yRS u_61.2.2.1 y w a9 b9 c9) ∧ (u_61.1.2.2.2.2.2.1 : Int) = 0 ∧ u_61.1.2.2.2.2.2.2 = Mfp) ∨ ((0 : Int) = 0 ∧ xRe (tX Xf Msz) N n w cu = .inl (u_61.1.2.2.2.2.2.1, u_61.1.2.2.2.2.2.2) ∧ 1 ≤ (u_61.1.2.2.2.2.2.1 : Int)) from (Or.inr ⟨rfl, xRe_t (show w = 19 from (by omega)) st_66, by omega⟩)), (show (0 : Int) = 0 → KP u_61.2.2.1 Af from (fun _ => kzt_66))⟩ (hP.sub [0, 1, 2, 3] rfl) (hD.sub [0, 1, 2, 3] rfl rfl) dX12_yearOrder_103
          ·
            rcases Classical.em (x = 20) with c_68 | c_68
            ·
              refine lv_tableIn (tgt := 40) (off := 39) hx hb dX12_yearOrder_1 (by rw [iZ_ti ⟨by omega, by omega⟩]; omega) (by rw [iZ_ti ⟨by omega, by omega⟩]; omega) (by rw [iZ_ti ⟨by omega, by omega⟩, c_68]; rfl) (by decide) ?_
              have hk9 : w = 15 ∨ w = 22 := (by have p15 := hpw 15 15 (by omega) (by decide); have p22 := hpw 22 20 (by omega) (by decide); omega)
              refine lv_aload_n hx hb dX12_yearOrder_40 rfl (lv_at hl 0 rfl) ?_
              refine lv_iload_n hx hb dX12_yearOrder_41 rfl (lv_at hl 2 rfl) ?_
              refine lv_iconst (v := iZ 1) hx hb dX12_yearOrder_42 rfl ?_
              refine lv_iadd hx hb dX12_yearOrder_43 ?_
              refine lv_topi (fun x_69 ex_69 => ?_)
              obtain rfl : x_69 = iZ (y + 1) := ex_69.trans (iZ_add y 1)
              refine lv_iconst (v := iZ 1) hx hb dX12_yearOrder_44 rfl ?_
              refine lv_bipush (v := iZ 99) hx hb dX12_yearOrder_45 bip_99 ?_
              refine CWV (As := [.int (iZ (y + 1)), .int (iZ 1), .int (iZ 99)]) (rest := []) (wc := _) (wr := [(Mn, .inl (k 2, 36, .inr (.inl Nf)))]) hx hb hml hown hts hKK hP hD hS hA (y_number l D k hm Ma Mn Ms My Mt Mp Mx Mo Mk Ml Mb Mh Mc Mz Mr Mq Mst Mtd Msz Mtk Mfr Men Mva Mfk Mfp Mfs Mse Mlt Mdp Mct Mdr Mrs Mit Mmk Mtp Mbt Xf Af (y + 1) 1 99 cu (by first | with_reducible assumption | exact (by first | with_reducible assumption | exact ⟨⟨by omega, by omega⟩, ⟨by omega, by omega⟩, ⟨by omega, by omega⟩, by omega, by omega, by omega⟩)) (by omega) hrf ⟨by omega, by omega⟩ ⟨by omega, by omega⟩ ⟨by omega, by omega⟩) ci_X12_number qm_X12_188 ⟨Nat.le_of_ble_eq_true rfl, Nat.le_of_ble_eq_true rfl⟩ ⟨Nat.le_of_ble_eq_true rfl, Nat.le_of_ble_eq_true rfl⟩ [0, 1, 2] [3] rfl rfl rfl rfl rfl (dj rfl) 0 rfl rfl rfl hl.1 rfl (Nat.le_of_ble_eq_true rfl) dX12_yearOrder_47 (fun u_70 H locs hφ hP hD hS => ?_)
              obtain ⟨p_71, p_72, p_73, p_74⟩ : ((0 ≤ (u_70.1.2.2.1 : Int) ∧ (u_70.1.2.2.1 : Int) ≤ u_70.1.2.2.2.1) ∧ ((u_70.1.2.2.2.1 : Int) ≤ Msz ∧ (Msz : Int) ≤ 900) ∧ (0 ≤ (u_70.1.2.1 : Int) ∧ (u_70.1.2.1 : Int) ≤ 4) ∧ ((u_70.1.2.1 : Int) ≤ 4 * (u_70.1.2.2.2.1 - u_70.1.2.2.1)) ∧ (-1 ≤ (u_70.1.2.2.2.2.1 : Int) ∧ (u_70.1.2.2.2.2.1 : Int) ≤ 100000)) ∧ (0 ≤ (u_70.1.2.2.2.2.2.1 : Int) ∧ (u_70.1.2.2.2.2.2.1 : Int) ≤ 9) ∧ (((u_70.1.1 : Int) = 1 ∧ ∃ (q9 v9 : Int), xTn (tX Xf Msz) 1 99 cu = .inr (q9, v9) ∧ cu < q9 ∧ RFX (tX Xf Msz) q9 u_70.1.2.2.1 u_70.1.2.2.2.1 u_70.1.2.1 u_70.1.2.2.2.2.1 ∧ (1 ≤ v9 ∧ v9 ≤ 99) ∧ u_70.2.2.1 = upd Af (iZ (y + 1)).toNatClampNeg (iZ v9) ∧ (u_70.1.2.2.2.2.2.1 : Int) = 0 ∧ u_70.1.2.2.2.2.2.2 = Mfp) ∨ ((u_70.1.1 : Int) = 0 ∧ xTn (tX Xf Msz) 1 99 cu = .inl (u_70.1.2.2.2.2.2.1, u_70.1.2.2.2.2.2.2) ∧ 1 ≤ (u_70.1.2.2.2.2.2.1 : Int))) ∧ ((u_70.1.1 : Int) = 0 → u_70.2.2.1 = Af) := hφ
              refine W.eq (g2 := F0 m 50 ls [.int (iZ u_70.1.1)]) rfl ?_
              rcases p_73 with ⟨qt_75, cut_75, yt_75, st_75, lt_75, xt_75, rt_75, ht_75, ut_75, vt_75⟩ | ⟨qt_75, st_75, bt_75⟩
              ·
                rw [qt_75]
                obtain ⟨⟨ar_76, br_76⟩, cr_76, dr_76, er_76, gr_76, hr_76⟩ := id xt_75
                have kr_76 := tk_1 dr_76 (xKd_rg _ _)
                have wr_76 := xKw_rg (tX Xf Msz) cut_75
                have w_77 := RWR.up (y := y) ht_75 (by omega) (by omega) ⟨by omega, by omega⟩
                obtain ⟨gau_78, gbu_78, gcu_78, gdu_78, gnu_78⟩ := gy_row1 ht_75 h9y ⟨by omega, by omega⟩
                exact EWz hx hb hr hlocks hS ((1, u_70.1.2.1, u_70.1.2.2.1, u_70.1.2.2.2.1, u_70.1.2.2.2.2.1, u_70.1.2.2.2.2.2.1, u_70.1.2.2.2.2.2.2), 0, u_70.2.2.1, ()) rfl rfl ⟨(show (0 ≤ (u_70.1.2.2.1 : Int) ∧ (u_70.1.2.2.1 : Int) ≤ u_70.1.2.2.2.1) ∧ ((u_70.1.2.2.2.1 : Int) ≤ Msz ∧ (Msz : Int) ≤ 900) ∧ (0 ≤ (u_70.1.2.1 : Int) ∧ (u_70.1.2.1 : Int) ≤ 4) ∧ ((u_70.1.2.1 : Int) ≤ 4 * (u_70.1.2.2.2.1 - u_70.1.2.2.1)) ∧ (-1 ≤ (u_70.1.2.2.2.2.1 : Int) ∧ (u_70.1.2.2.2.2.1 : Int) ≤ 100000) from (by first | with_reducible assumption | exact (by first | with_reducible assumption | exact ⟨⟨by omega, by omega⟩, ⟨by omega, by omega⟩, ⟨by omega, by omega⟩, by omega, by omega, by omega⟩))), (show 0 ≤ (u_70.1.2.2.2.2.2.1 : Int) ∧ (u_70.1.2.2.2.2.2.1 : Int) ≤ 9 from (by omega)), (show ((1 : Int) = 1 ∧ ∃ (q9 a9 b9 c9 : Int), xRe (tX Xf Msz) N n w cu = .inr (q9, a9, b9, c9) ∧ cu ≤ q9 ∧ RFX (tX Xf Msz) q9 u_70.1.2.2.1 u_70.1.2.2.2.1 u_70.1.2.1 u_70.1.2.2.2.2.1 ∧ (RWR u_70.2.2.1 Af y ∧ gz u_70.2.2.1 y = yCd w a9 ∧ yRS u_70.2.2.1 y w a9 b9 c9) ∧ (u_70.1.2.2.2.2.2.1 : Int) = 0 ∧ u_70.1.2.2.2.2.2.2 = Mfp) ∨ ((1 : Int) = 0 ∧ xRe (tX Xf Msz) N n w cu = .inl (u_70.1.2.2.2.2.2.1, u_70.1.2.2.2.2.2.2) ∧ 1 ≤ (u_70.1.2.2.2.2.2.1 : Int)) from (Or.inl ⟨rfl, cut_75, yt_75, -1, -1, xRe_n (by omega) st_75, by omega, xt_75, ⟨w_77, (by rw [yCd_n (show ¬ w = 19 from (by omega))]; omega), yRS_1 (by omega) ⟨by omega, by omega⟩⟩, by omega, by omega⟩)), (show (1 : Int) = 0 → KP u_70.2.2.1 Af from (fun h => absurd (show (1 : Int) = 0 from h) (by decide)))⟩ (hP.sub [1, 2, 3, 0] rfl) (hD.sub [1, 2, 3, 0] rfl rfl) dX12_yearOrder_50
              ·
                rw [qt_75]
                have kzt_75 := p_74 qt_75
                exact EWz hx hb hr hlocks hS ((0, u_70.1.2.1, u_70.1.2.2.1, u_70.1.2.2.2.1, u_70.1.2.2.2.2.1, u_70.1.2.2.2.2.2.1, u_70.1.2.2.2.2.2.2), 0, u_70.2.2.1, ()) rfl rfl ⟨(show (0 ≤ (u_70.1.2.2.1 : Int) ∧ (u_70.1.2.2.1 : Int) ≤ u_70.1.2.2.2.1) ∧ ((u_70.1.2.2.2.1 : Int) ≤ Msz ∧ (Msz : Int) ≤ 900) ∧ (0 ≤ (u_70.1.2.1 : Int) ∧ (u_70.1.2.1 : Int) ≤ 4) ∧ ((u_70.1.2.1 : Int) ≤ 4 * (u_70.1.2.2.2.1 - u_70.1.2.2.1)) ∧ (-1 ≤ (u_70.1.2.2.2.2.1 : Int) ∧ (u_70.1.2.2.2.2.1 : Int) ≤ 100000) from (by first | with_reducible assumption | exact (by first | with_reducible assumption | exact ⟨⟨by omega, by omega⟩, ⟨by omega, by omega⟩, ⟨by omega, by omega⟩, by omega, by omega, by omega⟩))), (show 0 ≤ (u_70.1.2.2.2.2.2.1 : Int) ∧ (u_70.1.2.2.2.2.2.1 : Int) ≤ 9 from (by omega)), (show ((0 : Int) = 1 ∧ ∃ (q9 a9 b9 c9 : Int), xRe (tX Xf Msz) N n w cu = .inr (q9, a9, b9, c9) ∧ cu ≤ q9 ∧ RFX (tX Xf Msz) q9 u_70.1.2.2.1 u_70.1.2.2.2.1 u_70.1.2.1 u_70.1.2.2.2.2.1 ∧ (RWR u_70.2.2.1 Af y ∧ gz u_70.2.2.1 y = yCd w a9 ∧ yRS u_70.2.2.1 y w a9 b9 c9) ∧ (u_70.1.2.2.2.2.2.1 : Int) = 0 ∧ u_70.1.2.2.2.2.2.2 = Mfp) ∨ ((0 : Int) = 0 ∧ xRe (tX Xf Msz) N n w cu = .inl (u_70.1.2.2.2.2.2.1, u_70.1.2.2.2.2.2.2) ∧ 1 ≤ (u_70.1.2.2.2.2.2.1 : Int)) from (Or.inr ⟨rfl, xRe_nl (by omega) st_75, by omega⟩)), (show (0 : Int) = 0 → KP u_70.2.2.1 Af from (fun _ => (by rw [kzt_75]; exact (KP.rf _))))⟩ (hP.sub [1, 2, 3, 0] rfl) (hD.sub [1, 2, 3, 0] rfl rfl) dX12_yearOrder_50
            ·
              refine lv_tableOut (tgt := 104) hx hb dX12_yearOrder_1 (by rw [iZ_ti ⟨by omega, by omega⟩]; omega) (by decide) ?_
              refine lv_iconst (v := iZ 1) hx hb dX12_yearOrder_104 rfl ?_
              have hk9 : w = 23 ∨ w = 24 := (by have p24 := hpw 24 22 (by omega) (by decide); have p23 := hpw 23 21 (by omega) (by decide); omega)
              exact EWz hx hb hr hlocks hS ((1, Mtk, Mfr, Men, Mva, Mfs, Mfp), 0, Af, ()) rfl rfl ⟨(show (0 ≤ (Mfr : Int) ∧ (Mfr : Int) ≤ Men) ∧ ((Men : Int) ≤ Msz ∧ (Msz : Int) ≤ 900) ∧ (0 ≤ (Mtk : Int) ∧ (Mtk : Int) ≤ 4) ∧ ((Mtk : Int) ≤ 4 * (Men - Mfr)) ∧ (-1 ≤ (Mva : Int) ∧ (Mva : Int) ≤ 100000) from (by first | with_reducible assumption | exact (by first | with_reducible assumption | exact ⟨⟨by omega, by omega⟩, ⟨by omega, by omega⟩, ⟨by omega, by omega⟩, by omega, by omega, by omega⟩))), (show 0 ≤ (Mfs : Int) ∧ (Mfs : Int) ≤ 9 from (by omega)), (show ((1 : Int) = 1 ∧ ∃ (q9 a9 b9 c9 : Int), xRe (tX Xf Msz) N n w cu = .inr (q9, a9, b9, c9) ∧ cu ≤ q9 ∧ RFX (tX Xf Msz) q9 Mfr Men Mtk Mva ∧ (RWR Af Af y ∧ gz Af y = yCd w a9 ∧ yRS Af y w a9 b9 c9) ∧ (Mfs : Int) = 0 ∧ Mfp = Mfp) ∨ ((1 : Int) = 0 ∧ xRe (tX Xf Msz) N n w cu = .inl (Mfs, Mfp) ∧ 1 ≤ (Mfs : Int)) from (Or.inl ⟨rfl, cu, -1, -1, -1, xRe_s ⟨by omega, by omega, by omega, by omega, by omega, by omega⟩, Int.le_refl _, hrf, ⟨RWR.rf _ _, (by rw [yCd_n (show ¬ w = 19 from (by omega))]; omega), yRS_0 ⟨by omega, by omega, by omega, by omega, by omega, by omega⟩⟩, by omega, by omega⟩)), (show (1 : Int) = 0 → KP Af Af from (fun h => absurd (show (1 : Int) = 0 from h) (by decide)))⟩ (hP.sub [0, 1, 2, 3] rfl) (hD.sub [0, 1, 2, 3] rfl rfl) dX12_yearOrder_105
end
