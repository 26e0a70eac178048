/-- the bytes of a text by place, -1 outside it -/
def tX (f : Nat → Int32) (sz x : Int) : Int := if 0 ≤ x ∧ x < sz then gz f x % 256 else -1
theorem tX_c {f : Nat → Int32} {sz x : Int} (hx : 0 ≤ x) (hr : x < sz → -128 ≤ gz f x ∧ gz f x ≤ 127) : (x < sz ∧ ((0 ≤ gz f x ∧ tX f sz x = gz f x) ∨ (gz f x < 0 ∧ tX f sz x = gz f x + 256))) ∨ (sz ≤ x ∧ tX f sz x = -1) := by
  unfold tX
  by_cases h : x < sz
  · rw [if_pos ⟨hx, h⟩]
    have := hr h
    omega
  · rw [if_neg (fun g => h g.2)]
    omega
theorem tX_rg (f : Nat → Int32) (sz x : Int) (hx : 0 ≤ x) : (x < sz ∧ 0 ≤ tX f sz x ∧ tX f sz x ≤ 255) ∨ (sz ≤ x ∧ tX f sz x = -1) := by
  unfold tX
  by_cases h : x < sz
  · rw [if_pos ⟨hx, h⟩]
    omega
  · rw [if_neg (fun g => h g.2)]
    omega
theorem tX_like {f g : Nat → Int32} {sz : Int} (h : ∀ e : Int, 0 ≤ e → e < sz → gz f e = gz g e) : tX f sz = tX g sz := by
  funext x
  unfold tX
  by_cases hx : 0 ≤ x ∧ x < sz
  · rw [if_pos hx, if_pos hx, h x hx.1 hx.2]
  · rw [if_neg hx, if_neg hx]
theorem and255 (v : Int32) : (v &&& 255).toInt = v.toInt % 256 := by
  have h : (v &&& 255).toBitVec.toNat = v.toBitVec.toNat % 256 := by
    rw [Int32.toBitVec_and, BitVec.toNat_and]
    exact Nat.and_two_pow_sub_one_eq_mod _ 8
  have a : (v &&& 255).toInt = (v &&& 255).toBitVec.toInt := rfl
  have b : v.toInt = v.toBitVec.toInt := rfl
  have l := v.toBitVec.isLt
  rw [a, b, BitVec.toInt_eq_toNat_cond, BitVec.toInt_eq_toNat_cond, h]
  split <;> split <;> omega
/-- a row of numbers, changed at one place -/
def xUp (F : Int → Int) (e v : Int) : Int → Int := fun j => if j = e then v else F j
def xRw (f : Nat → Int32) (F : Int → Int) (n : Int) : Prop := ∀ e : Int, 0 ≤ e → e < n → gz f e = F e
theorem xRw.up {f g : Nat → Int32} {F : Int → Int} {n e v : Int} (h : xRw f F n) (hg : g = upd f (iZ e).toNatClampNeg (iZ v)) (he : 0 ≤ e ∧ e < 2147483648) (hv : -2147483648 ≤ v ∧ v < 2147483648) : xRw g (xUp F e v) n := fun j h1 h2 => by
  rw [gz_up hg he hv h1]
  unfold xUp
  by_cases q : j = e
  · rw [if_pos q, if_pos q]
  · rw [if_neg q, if_neg q]; exact h j h1 h2
/-- names by their codes -/
def xNs (g : Nat → Int64) (N : Int → Int) (n : Int) : Prop := ∀ k : Int, 0 ≤ k → k < n → g k.toNat = lZ (N k) ∧ 0 ≤ N k ∧ N k < 1099511627776
def isFn (N : Int → Int) (n c z : Int) : Prop := (z = -1 ∧ ∀ j : Int, 0 ≤ j → j < n → ¬ N j = c) ∨ (0 ≤ z ∧ z < n ∧ N z = c ∧ ∀ j : Int, 0 ≤ j → j < z → ¬ N j = c)
noncomputable def xFn (N : Int → Int) (n c : Int) : Int := Classical.epsilon (isFn N n c)
theorem xFn_eq {N : Int → Int} {n c z : Int} (h : isFn N n c z) : z = xFn N n c := by
  have g : isFn N n c (xFn N n c) := Classical.epsilon_spec ⟨z, h⟩
  rcases h with ⟨a, b⟩ | ⟨a1, a2, a3, a4⟩ <;> rcases g with ⟨d, e⟩ | ⟨d1, d2, d3, d4⟩
  · rw [a, d]
  · exact absurd d3 (b _ d1 d2)
  · exact absurd a3 (e _ a1 a2)
  · rcases Int.lt_trichotomy z (xFn N n c) with q | q | q
    · exact absurd a3 (d4 _ a1 q)
    · exact q
    · exact absurd d3 (a4 _ d1 q)
theorem isNm_fn {g : Nat → Int64} {N : Int → Int} {n c z : Int} {v : Int64} (hN : xNs g N n) (hv : v = lZ c) (hc : -1 ≤ c ∧ c < 1099511627776) (h : isNm g n v z) : z = xFn N n c := by
  have q : ∀ j : Int, 0 ≤ j → j < n → (g j.toNat = v ↔ N j = c) := fun j h1 h2 => by
    obtain ⟨a, b, d⟩ := hN j h1 h2
    rw [a, hv, lZ_inj ⟨by omega, by omega⟩ ⟨by omega, by omega⟩]
  apply xFn_eq
  rcases h with ⟨a, b⟩ | ⟨a1, a2, a3, a4⟩
  · exact Or.inl ⟨a, fun j h1 h2 e => b j h1 h2 ((q j h1 h2).mpr e)⟩
  · exact Or.inr ⟨a1, a2, (q z a1 a2).mp a3, fun j h1 h2 e => a4 j h1 h2 ((q j h1 (by omega)).mpr e)⟩
theorem xFn_rg {N : Int → Int} {n c z : Int} (h : isFn N n c z) : z = -1 ∨ (0 ≤ z ∧ z < n) := by
  rcases h with ⟨a, -⟩ | ⟨a, b, -⟩
  · exact Or.inl a
  · exact Or.inr ⟨a, b⟩
/-- what a text says: a fault (kind, place), or what comes of it -/
def xBn {α β : Type} (r : (Int × Int) ⊕ α) (f : α → (Int × Int) ⊕ β) : (Int × Int) ⊕ β := match r with
  | .inl e => .inl e
  | .inr a => f a
theorem xBn_l {α β : Type} {r : (Int × Int) ⊕ α} {e : Int × Int} {f : α → (Int × Int) ⊕ β} (h : r = .inl e) : xBn r f = .inl e := by rw [h]; rfl
theorem xBn_r {α β : Type} {r : (Int × Int) ⊕ α} {a : α} {f : α → (Int × Int) ⊕ β} (h : r = .inr a) : xBn r f = f a := by rw [h]; rfl
abbrev xIn (T : Int → Int) (p : Int) : Prop := xKd T p = 1 ∧ xKw T p = -1 ∧ ¬ xNm T p = -1
noncomputable def xFl (T : Int → Int) (p w : Int) : Int := if xKd T p = 4 then 1 else w
noncomputable def xEr (T : Int → Int) (p w : Int) : Int × Int := (xFl T p w, xPl T p)
noncomputable def xTw (T : Int → Int) (w p : Int) : (Int × Int) ⊕ Int := if xKw T p = w then .inr (xEn T p) else .inl (xEr T p 2)
noncomputable def xTs (T : Int → Int) (c p : Int) : (Int × Int) ⊕ Int := if xKd T p = 3 ∧ xVl T p = c then .inr (xEn T p) else .inl (xEr T p 2)
noncomputable def xTn (T : Int → Int) (lo hi p : Int) : (Int × Int) ⊕ (Int × Int) := if xKd T p = 2 ∧ lo ≤ xVl T p ∧ xVl T p ≤ hi then .inr (xEn T p, xVl T p) else .inl (xEr T p (if xKd T p = 2 then 4 else 2))
noncomputable def xRk (T : Int → Int) (N : Int → Int) (n p : Int) : Int := if xIn T p then xFn N n (xNm T p) else -1
noncomputable def xTr (T : Int → Int) (N : Int → Int) (n no p : Int) : (Int × Int) ⊕ (Int × Int) := if xRk T N n p = -1 then .inl (xEr T p (if xIn T p then 3 else 2)) else if xRk T N n p = no then .inl (xEr T p 5) else .inr (xEn T p, xRk T N n p)
noncomputable def xNn (T : Int → Int) (N : Int → Int) (n p : Int) : (Int × Int) ⊕ Int := if xIn T p then (if xFn N n (xNm T p) = -1 then .inr (xEn T p) else .inl (xEr T p 3)) else .inl (xEr T p 2)
/-- a fact of the rock that is told: its word, its number -/
noncomputable def xFF (T : Int → Int) (w what lo hi n p : Int) (F : Int → Int) : (Int × Int) ⊕ (Int × (Int → Int)) := xBn (xTw T w p) fun q => xBn (xTn T lo hi q) fun a => .inr (a.1, xUp F ((n * 6) + what) a.2)
noncomputable def xOF (T : Int → Int) (w what lo hi n p : Int) (F : Int → Int) : (Int × Int) ⊕ (Int × (Int → Int)) := if xKw T p = w then xFF T w what lo hi n p F else .inr (p, F)
def xOr (we n : Int) : Int := (iZ we ||| (iZ 1 <<< (iZ n &&& 31))).toInt
noncomputable def xPr (T : Int → Int) (n p : Int) (F : Int → Int) : (Int × Int) ⊕ (Int × (Int → Int)) := if xKw T p = 5 then xBn (xFF T 5 4 0 99 n p F) fun a => xOF T 6 5 0 20 n a.1 a.2 else .inr (p, F)
noncomputable def xWe (T : Int → Int) (n we p : Int) : Int × Int := if xKw T p = 7 then (xEn T p, xOr we n) else (p, we)
/-- a rock, from its word on: cursor, who wears, facts -/
noncomputable def xR5 (T : Int → Int) (n we p : Int) (F : Int → Int) : (Int × Int) ⊕ (Int × Int × (Int → Int)) := xBn (xTs T 59 (xWe T n we p).1) fun q => .inr (q, (xWe T n we p).2, F)
noncomputable def xR4 (T : Int → Int) (n we p : Int) (F : Int → Int) : (Int × Int) ⊕ (Int × Int × (Int → Int)) := xBn (xPr T n p F) fun e => xR5 T n we e.1 e.2
noncomputable def xR3 (T : Int → Int) (n we p : Int) (F : Int → Int) : (Int × Int) ⊕ (Int × Int × (Int → Int)) := xBn (xOF T 4 3 0 9 n p F) fun d => xR4 T n we d.1 d.2
noncomputable def xRock (T : Int → Int) (N : Int → Int) (n we : Int) (F : Int → Int) (p : Int) : (Int × Int) ⊕ (Int × Int × (Int → Int)) :=
  if 6 ≤ n then .inl (xEr T p 6) else
  xBn (xNn T N n (xEn T p)) fun q => xBn (xFF T 1 0 0 20 n q F) fun a => xBn (xFF T 2 1 1 99 n a.1 a.2) fun b => xBn (xFF T 3 2 0 11 n b.1 b.2) fun c => xR3 T n we c.1 c.2
noncomputable def xIce (T : Int → Int) (N : Int → Int) (n ni : Int) (G : Int → Int) (p : Int) : (Int × Int) ⊕ (Int × (Int → Int)) :=
  if 8 ≤ ni then .inl (xEr T p 6) else
  xBn (xTr T N n (-1) (xEn T p)) fun a => xBn (xTr T N n a.2 a.1) fun b => xBn (xTw T 9 b.1) fun q => xBn (xTn T 0 400 q) fun c => xBn (xTw T 10 c.1) fun q => xBn (xTn T c.2 400 q) fun d => xBn (xTs T 59 d.1) fun q =>
  .inr (q, xUp (xUp (xUp (xUp G ((ni * 4) + 0) a.2) ((ni * 4) + 1) b.2) ((ni * 4) + 2) c.2) ((ni * 4) + 3) d.2)
def xLo (k : Int) : Int := if k = 12 then 0 else if k = 13 then 1 else if k = 4 then 2 else if k = 14 then 3 else -1
noncomputable def xLaw (T : Int → Int) (lt p : Int) : (Int × Int) ⊕ (Int × Int) :=
  if lt = 1 then .inl (xEr T p 5) else if xLo (xKw T (xEn T p)) = -1 then .inl (xEr T (xEn T p) 2) else xBn (xTs T 59 (xEn T (xEn T p))) fun q => .inr (q, xLo (xKw T (xEn T p)))
/-- a sky that is read: rocks, ices, law, who wears, law told, facts, ices' facts, names -/
abbrev XS : Type := Int × Int × Int × Int × Int × (Int → Int) × (Int → Int) × (Int → Int)
noncomputable def xPart (T : Int → Int) (p : Int) (s : XS) : (Int × Int) ⊕ (Int × XS) := match s with
  | (n, ni, lw, we, lt, F, G, N) =>
    if xKw T p = 0 then xBn (xRock T N n we F p) fun a => .inr (a.1, (n + 1, ni, lw, a.2.1, lt, a.2.2, G, xUp N n (xNm T (xEn T p))))
    else if xKw T p = 8 then xBn (xIce T N n ni G p) fun a => .inr (a.1, (n, ni + 1, lw, we, lt, F, a.2, N))
    else if xKw T p = 11 then xBn (xLaw T lt p) fun a => .inr (a.1, (n, ni, a.2, we, 1, F, G, N))
    else .inl (xEr T p 2)
noncomputable def xAll (T : Int → Int) : Nat → Int → XS → (Int × Int) ⊕ (Int × XS)
  | 0, _, _ => .inl (0, 0)
  | k + 1, p, s => if xKd T p = 0 then .inr (p, s) else xBn (xPart T p s) fun a => xAll T k a.1 a.2
def xS0 : XS := (0, 0, 0, 0, 0, fun _ => 0, fun _ => 0, fun _ => 0)
theorem xAll_part {T : Int → Int} {i p q : Int} {s t : XS} {r : (Int × Int) ⊕ (Int × XS)} (hi : 0 ≤ i ∧ i < 990) (h : r = xAll T (1000 - i).toNat p s) (hk : ¬ xKd T p = 0) (hp : xPart T p s = .inr (q, t)) : r = xAll T (1000 - (i + 1)).toNat q t := by
  rw [h, show (1000 - i).toNat = (1000 - (i + 1)).toNat + 1 by omega]
  show (if xKd T p = 0 then _ else _) = _
  rw [if_neg hk]
  exact xBn_r hp
theorem xAll_fault {T : Int → Int} {i p : Int} {s : XS} {e : Int × Int} {r : (Int × Int) ⊕ (Int × XS)} (hi : 0 ≤ i ∧ i < 990) (h : r = xAll T (1000 - i).toNat p s) (hk : ¬ xKd T p = 0) (hp : xPart T p s = .inl e) : r = .inl e := by
  rw [h, show (1000 - i).toNat = (1000 - (i + 1)).toNat + 1 by omega]
  show (if xKd T p = 0 then _ else _) = _
  rw [if_neg hk]
  exact xBn_l hp
theorem xAll_end {T : Int → Int} {i p : Int} {s : XS} {r : (Int × Int) ⊕ (Int × XS)} (hi : 0 ≤ i ∧ i < 990) (h : r = xAll T (1000 - i).toNat p s) (hk : xKd T p = 0) : r = .inr (p, s) := by
  rw [h, show (1000 - i).toNat = (1000 - (i + 1)).toNat + 1 by omega]
  show (if xKd T p = 0 then _ else _) = _
  rw [if_pos hk]
theorem RDX.nx {T : Int → Int} {p pl en ki va ke a b c d e : Int} {nm f : Int64} (h : RDX T p pl en ki va ke nm) (g : RDX T en a b c d e f) : RDX T (xEn T p) a b c d e f := by
  rw [← h.2.1]; exact g
theorem RFX.nx {T : Int → Int} {p pl en ki va a b c d : Int} (h : RFX T p pl en ki va) (g : RFX T en a b c d) : RFX T (xEn T p) a b c d := by
  rw [← h.2.1]; exact g
theorem xNm_rg {T : Int → Int} {p : Int} (h : xLet T (xPl T p) (xLn T p)) (hl : xPl T p ≤ xEn T p) : -1 ≤ xNm T p ∧ xNm T p < 1099511627776 := by
  unfold xNm xCw
  split
  · have := xCd_8 (n := (xEn T p - xPl T p).toNat) (by omega) h
    omega
  · omega
theorem xLet_rn {T : Int → Int} {a e : Int} (h : isRn smB T a e) : xLet T a (e - a).toNat := fun j h1 h2 => h.2.1 j h1 (by have := h.1; omega)
theorem xCw_rg {T : Int → Int} {a e : Int} (h : isRn smB T a e) : -1 ≤ xCw T a e ∧ xCw T a e < 1099511627776 := by
  unfold xCw
  split
  · have := xCd_8 (n := (e - a).toNat) (by have := h.1; omega) (xLet_rn h)
    omega
  · omega
theorem xCw_z {T : Int → Int} {a e : Int} {c : Int64} (h : (e - a ≤ 8 → c = lZ (xCd T a (e - a).toNat)) ∧ (8 < e - a → c = lZ (-1))) : c = lZ (xCw T a e) := by
  unfold xCw
  split
  · exact h.1 (by omega)
  · exact h.2 (by omega)
theorem wd_step {T : Int → Int} {a e t : Int} (h : a ≤ e) (ht : t = T e) : lZ (xCd T a (e - a).toNat) * 32 + lZ t - 97 + 1 = lZ (xCd T a (e + 1 - a).toNat) := by
  rw [← xCd_step (e := e) h rfl, show (32 : Int64) = lZ 32 from rfl, show (97 : Int64) = lZ 97 from rfl, show (1 : Int64) = lZ 1 from rfl, lZ_mul, lZ_add, lZ_sub, lZ_add, ht]
  congr 1
  omega
theorem kwu_step {c j : Int} (hj : 0 ≤ j) : kwu c (j + 1).toNat = if kwC j.toNat = c then j else kwu c j.toNat := by
  rw [show (j + 1).toNat = j.toNat + 1 by omega]
  show (if kwC j.toNat = c then ((j.toNat : Nat) : Int) else kwu c j.toNat) = _
  rw [show ((j.toNat : Nat) : Int) = j by omega]
theorem kw_eq {kwf : Nat → Int64} {j c : Int} {y cd : Int64} (hk : ∀ j : Nat, j < 25 → kwf j = lZ (kwC j)) (hj : 0 ≤ j ∧ j < 25) (ey : y = kwf (iZ j).toNatClampNeg) (hc : cd = lZ c) (hr : -1 ≤ c ∧ c < 1099511627776) : y.toInt = cd.toInt ↔ kwC j.toNat = c := by
  have p := kw_pos ⟨j.toNat, by omega⟩
  have p : 0 < kwC j.toNat ∧ kwC j.toNat < 1099511627776 := p
  rw [ey, zcl ⟨by omega, by omega⟩, hk j.toNat (by omega), hc, lZ_ti ⟨by omega, by omega⟩, lZ_ti ⟨by omega, by omega⟩]
theorem kw_kd {T : Int → Int} {p : Int} (h : ¬ xKw T p = -1) : xKd T p = 1 := by
  have c : smB (xCh T p) := by
    by_cases g : smB (xCh T p)
    · exact g
    · exact absurd (by unfold xKw; rw [if_neg g]) h
  have c2 : 97 ≤ xCh T p ∧ xCh T p ≤ 122 := c
  unfold xKd
  rw [if_neg (by omega), if_pos c]
theorem nm_m1 {nm : Int64} {x : Int} (h : nm = lZ x) (hr : -1 ≤ x ∧ x < 1099511627776) : nm.toInt = (-1 : Int64).toInt ↔ x = -1 := by
  rw [h, lZ_ti ⟨by omega, by omega⟩, show (-1 : Int64).toInt = -1 from rfl]
theorem xNs.up {g h : Nat → Int64} {N : Int → Int} {n c : Int} {v : Int64} (hN : xNs g N n) (hn : 0 ≤ n ∧ n < 100) (hh : h = vp_updL g (iZ n).toNatClampNeg v) (hv : v = lZ c) (hc : 0 ≤ c ∧ c < 1099511627776) : xNs h (xUp N n c) (n + 1) := fun k h1 h2 => by
  rw [hh, zcl ⟨by omega, by omega⟩]
  unfold xUp vp_updL
  by_cases q : k = n
  · rw [if_pos (by omega), if_pos q]; exact ⟨hv, hc⟩
  · rw [if_neg (by omega), if_neg q]; exact hN k h1 (by omega)
theorem xR5_w {T : Int → Int} {n we p q w : Int} {F : Int → Int} (h : xWe T n we p = (q, w)) : xR5 T n we p F = xBn (xTs T 59 q) fun r => .inr (r, w, F) := by unfold xR5; rw [h]
theorem xOr_eq {we n zs z : Int} (h1 : iZ zs = iZ 1 <<< (iZ n &&& 31)) (h2 : iZ z = iZ we ||| iZ zs) (hz : -2147483648 ≤ z ∧ z < 2147483648) : z = xOr we n := by
  unfold xOr
  rw [← h1, ← h2, iZ_ti hz]
theorem xIce_rw {g g1 g2 g3 g4 : Nat → Int32} {G : Int → Int} {ni a b c d : Int} (h : xRw g G (ni * 4)) (hn : 0 ≤ ni ∧ ni < 100) (h1 : g1 = upd g (iZ ((ni * 4) + 0)).toNatClampNeg (iZ a)) (h2 : g2 = upd g1 (iZ ((ni * 4) + 1)).toNatClampNeg (iZ b)) (h3 : g3 = upd g2 (iZ ((ni * 4) + 2)).toNatClampNeg (iZ c)) (h4 : g4 = upd g3 (iZ ((ni * 4) + 3)).toNatClampNeg (iZ d)) (ha : -2147483648 ≤ a ∧ a < 2147483648) (hb : -2147483648 ≤ b ∧ b < 2147483648) (hc : -2147483648 ≤ c ∧ c < 2147483648) (hd : -2147483648 ≤ d ∧ d < 2147483648) : xRw g4 (xUp (xUp (xUp (xUp G ((ni * 4) + 0) a) ((ni * 4) + 1) b) ((ni * 4) + 2) c) ((ni * 4) + 3) d) ((ni + 1) * 4) := fun e e1 e2 => by
  rw [gz_up h4 ⟨by omega, by omega⟩ hd e1, gz_up h3 ⟨by omega, by omega⟩ hc e1, gz_up h2 ⟨by omega, by omega⟩ hb e1, gz_up h1 ⟨by omega, by omega⟩ ha e1]
  unfold xUp
  by_cases q3 : e = (ni * 4) + 3
  · rw [if_pos q3, if_pos q3]
  · rw [if_neg q3, if_neg q3]
    by_cases q2 : e = (ni * 4) + 2
    · rw [if_pos q2, if_pos q2]
    · rw [if_neg q2, if_neg q2]
      by_cases q1 : e = (ni * 4) + 1
      · rw [if_pos q1, if_pos q1]
      · rw [if_neg q1, if_neg q1]
        by_cases q0 : e = (ni * 4) + 0
        · rw [if_pos q0, if_pos q0]
        · rw [if_neg q0, if_neg q0]
          exact h e e1 (by omega)
/-- what sky() answers -/
def xSky (r : (Int × Int) ⊕ (Int × XS)) : Int := match r with
  | .inl _ => -1
  | .inr a => a.2.1
/-- a sky's cells hold what was read -/
def SKX (s : XS) (n ni lw we : Int) (f g : Nat → Int32) (nf : Nat → Int64) : Prop := s.1 = n ∧ s.2.1 = ni ∧ s.2.2.1 = lw ∧ s.2.2.2.1 = we ∧ xRw f s.2.2.2.2.2.1 36 ∧ xRw g s.2.2.2.2.2.2.1 (ni * 4) ∧ xNs nf s.2.2.2.2.2.2.2 n
theorem rn_lt {P : Int → Prop} {T : Int → Int} {cu q : Int} (h : isRn P T cu q) (hp : P (T cu)) : cu < q := by
  rcases Int.lt_or_eq_of_le h.1 with a | a
  · exact a
  · exact absurd (a ▸ hp) h.2.2
