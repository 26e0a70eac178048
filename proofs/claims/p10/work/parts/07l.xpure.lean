theorem wb_tb (n : Nat) : (lN n).toBitVec = BitVec.ofNat 64 n := rfl
theorem wb_inj {a b : Int64} (h : a.toBitVec = b.toBitVec) : a = b := Int64.toBitVec_inj.mp h
theorem wb_c : ∀ k, k < 64 → ((nI k).toInt64 &&& 63) = lN k := by decide +kernel
theorem wb_sm : ∀ k, k < 64 → (BitVec.ofNat 64 k).smod 64 = BitVec.ofNat 64 k := by decide +kernel
theorem wb_shl (n : Nat) {k : Nat} (hk : k < 64) : lN n <<< ((nI k).toInt64 &&& 63) = lN (n * 2 ^ k) := by
  rw [wb_c k hk]
  apply wb_inj
  rw [Int64.toBitVec_shiftLeft, wb_tb, wb_tb, wb_tb, wb_sm k hk]
  apply BitVec.eq_of_toNat_eq
  rw [BitVec.shiftLeft_eq', BitVec.toNat_shiftLeft, BitVec.toNat_ofNat, BitVec.toNat_ofNat, BitVec.toNat_ofNat, Nat.mod_eq_of_lt (show k < 2 ^ 64 by omega), Nat.shiftLeft_eq, Nat.mul_mod, Nat.mod_mod, ← Nat.mul_mod]
theorem u_tn {n : Nat} (h : n < 2 ^ 64) : (UInt64.ofNat n).toNat = n := Nat.mod_eq_of_lt h
theorem g_or {k p a b : Nat} (hp : 2 ^ k = p) (ha : a < p) (h : b * p + a < 2 ^ 64) : lN (b * p) ||| lN a = lN (b * p + a) := by
  subst hp
  have h1 : b * 2 ^ k ||| a = b * 2 ^ k + a := by rw [← Nat.shiftLeft_eq, Nat.shiftLeft_add_eq_or_of_lt ha]
  have h3 : UInt64.ofNat (b * 2 ^ k) ||| UInt64.ofNat a = UInt64.ofNat (b * 2 ^ k + a) := UInt64.toNat_inj.mp (by rw [UInt64.toNat_or, u_tn (by omega), u_tn (by omega), u_tn h, h1])
  have h2 := congrArg UInt64.toInt64 h3
  exact h2
/-- a long by its number -/
def lZ (z : Int) : Int64 := Int64.ofInt z
theorem lZ_add (a b : Int) : lZ a + lZ b = lZ (a + b) := (Int64.ofInt_add a b).symm
theorem lZ_sub (a b : Int) : lZ a - lZ b = lZ (a - b) := (Int64.ofInt_sub a b).symm
theorem lZ_mul (a b : Int) : lZ a * lZ b = lZ (a * b) := (Int64.ofInt_mul a b).symm
theorem lZ_ti {z : Int} (h : -9223372036854775808 ≤ z ∧ z < 9223372036854775808) : (lZ z).toInt = z := by
  have hb : z.bmod (2 ^ 64) = z := by rw [Int.bmod_eq_of_le (by omega) (by omega)]
  show (Int64.ofInt z).toInt = z
  rw [Int64.toInt_ofInt]
  exact hb
theorem lZ_inj {a b : Int} (ha : -9223372036854775808 ≤ a ∧ a < 9223372036854775808) (hb : -9223372036854775808 ≤ b ∧ b < 9223372036854775808) : lZ a = lZ b ↔ a = b := by
  rw [← Int64.toInt_inj, lZ_ti ha, lZ_ti hb]
theorem i2l_z {a : Int} (h : -2147483648 ≤ a ∧ a < 2147483648) : (iZ a).toInt64 = lZ a := by
  apply Int64.toInt_inj.mp
  rw [Int32.toInt_toInt64, iZ_ti h, lZ_ti ⟨by omega, by omega⟩]
theorem lZ_nat (n : Nat) : lZ (n : Int) = lN n := Int64.ofInt_eq_ofNat
theorem lZ_m1 : (lZ (-1)) = -1 := rfl
/-- a byte more behind a name's bytes -/
theorem sh8_z {x b : Int} (hx : 0 ≤ x ∧ x < 36028797018963968) (hb : 0 ≤ b ∧ b < 256) : (lZ x <<< ((iZ 8).toInt64 &&& 63)) ||| (iZ b).toInt64 = lZ (x * 256 + b) := by
  obtain ⟨n, rfl⟩ := Int.eq_ofNat_of_zero_le hx.1
  obtain ⟨d, rfl⟩ := Int.eq_ofNat_of_zero_le hb.1
  rw [i2l_z (a := (d : Int)) ⟨by omega, by omega⟩, lZ_nat, lZ_nat, show (iZ 8) = nI 8 from rfl, wb_shl n (by decide), g_or (k := 8) (p := 2 ^ 8) rfl (by omega) (by omega), show ((n : Int) * 256 + (d : Int)) = ((n * 2 ^ 8 + d : Nat) : Int) by omega, lZ_nat]
abbrev wsB (c : Int) : Prop := c = 32 ∨ c = 10
abbrev smB (c : Int) : Prop := 97 ≤ c ∧ c ≤ 122
abbrev dgB (c : Int) : Prop := 48 ≤ c ∧ c ≤ 57
abbrev sgB (c : Int) : Prop := c = 59 ∨ c = 60 ∨ c = 62 ∨ c = 61
/-- a run of places whose bytes are of a sort -/
def isRn (P : Int → Prop) (T : Int → Int) (p q : Int) : Prop := p ≤ q ∧ (∀ j : Int, p ≤ j → j < q → P (T j)) ∧ ¬ P (T q)
noncomputable def rnF (P : Int → Prop) (T : Int → Int) (p : Int) : Int := Classical.epsilon (isRn P T p)
theorem rnF_eq {P : Int → Prop} {T : Int → Int} {p q : Int} (h : isRn P T p q) : q = rnF P T p := by
  have g : isRn P T p (rnF P T p) := Classical.epsilon_spec ⟨q, h⟩
  obtain ⟨h1, h2, h3⟩ := h
  obtain ⟨g1, g2, g3⟩ := g
  rcases Int.lt_trichotomy q (rnF P T p) with c | c | c
  · exact absurd (g2 q h1 c) h3
  · exact c
  · exact absurd (h2 _ g1 c) g3
theorem rn_step {P : Int → Prop} {T : Int → Int} {p e : Int} (h : ∀ j : Int, p ≤ j → j < e → P (T j)) (he : P (T e)) : ∀ j : Int, p ≤ j → j < e + 1 → P (T j) := fun j h1 h2 => by
  rcases Int.lt_or_eq_of_le (show j ≤ e by omega) with h3 | h3
  · exact h j h1 h3
  · rw [h3]; exact he
theorem rn_none {P : Int → Prop} {T : Int → Int} {p : Int} : ∀ j : Int, p ≤ j → j < p → P (T j) := fun j h1 h2 => absurd h1 (by omega)
/-- the token behind a place: where it begins, its first byte, where it ends, its kind, value, name, keyword -/
noncomputable def xPl (T : Int → Int) (p : Int) : Int := rnF wsB T p
noncomputable def xCh (T : Int → Int) (p : Int) : Int := T (xPl T p)
noncomputable def xEn (T : Int → Int) (p : Int) : Int := if xCh T p = -1 then xPl T p else if smB (xCh T p) then rnF smB T (xPl T p) else if dgB (xCh T p) then rnF dgB T (xPl T p) else xPl T p + 1
noncomputable def xLn (T : Int → Int) (p : Int) : Nat := (xEn T p - xPl T p).toNat
noncomputable def xKd (T : Int → Int) (p : Int) : Int := if xCh T p = -1 then 0 else if smB (xCh T p) then 1 else if dgB (xCh T p) then (if 4 < xEn T p - xPl T p then 4 else 2) else if sgB (xCh T p) then 3 else 4
def xDv (T : Int → Int) (a : Int) : Nat → Int
  | 0 => 0
  | k + 1 => xDv T a k * 10 + (T (a + k) - 48)
def xCd (T : Int → Int) (a : Int) : Nat → Int
  | 0 => 0
  | k + 1 => xCd T a k * 32 + (T (a + k) - 96)
def xN8 (T : Int → Int) (a : Int) : Nat → Int
  | 0 => 0
  | k + 1 => xN8 T a k * 256 + T (a + k)
noncomputable def xVl (T : Int → Int) (p : Int) : Int := if dgB (xCh T p) then xDv T (xPl T p) (xLn T p) else xCh T p
/-- a word's code, -1 if it is too long for a NAME -/
def xCw (T : Int → Int) (a e : Int) : Int := if e - a ≤ 8 then xCd T a (e - a).toNat else -1
noncomputable def xNm (T : Int → Int) (p : Int) : Int := xCw T (xPl T p) (xEn T p)
def kwL : List Int := [605291, 6194, 19387844, 52, 591307, 17376357, 20686279, 24282707, 9317, 215533, 655, 12343, 6605428, 394868, 628180, 758955, 758834, 16322738, 109099109, 762030, 19574963, 302, 409072, 5572, 643568]
def kwC (j : Nat) : Int := kwL.getD j 0
def kwu (c : Int) : Nat → Int
  | 0 => -1
  | j + 1 => if kwC j = c then (j : Int) else kwu c j
noncomputable def xKw (T : Int → Int) (p : Int) : Int := if smB (xCh T p) then kwu (xNm T p) 25 else -1
theorem xDv_step {T : Int → Int} {a e v : Int} (h : a ≤ e) (hv : v = xDv T a (e - a).toNat) : v * 10 + (T e - 48) = xDv T a (e + 1 - a).toNat := by
  rw [show (e + 1 - a).toNat = (e - a).toNat + 1 by omega]
  show _ = xDv T a (e - a).toNat * 10 + (T (a + ((e - a).toNat : Int)) - 48)
  rw [show a + ((e - a).toNat : Int) = e by omega, hv]
theorem xCd_step {T : Int → Int} {a e v : Int} (h : a ≤ e) (hv : v = xCd T a (e - a).toNat) : v * 32 + (T e - 96) = xCd T a (e + 1 - a).toNat := by
  rw [show (e + 1 - a).toNat = (e - a).toNat + 1 by omega]
  show _ = xCd T a (e - a).toNat * 32 + (T (a + ((e - a).toNat : Int)) - 96)
  rw [show a + ((e - a).toNat : Int) = e by omega, hv]
theorem xN8_step {T : Int → Int} {a e v : Int} (h : a ≤ e) (hv : v = xN8 T a (e - a).toNat) : v * 256 + T e = xN8 T a (e + 1 - a).toNat := by
  rw [show (e + 1 - a).toNat = (e - a).toNat + 1 by omega]
  show _ = xN8 T a (e - a).toNat * 256 + T (a + ((e - a).toNat : Int))
  rw [show a + ((e - a).toNat : Int) = e by omega, hv]
theorem xCd_0 {T : Int → Int} {a : Int} : xCd T a (a - a).toNat = 0 := by rw [show (a - a).toNat = 0 by omega]; rfl
theorem xDv_0 {T : Int → Int} {a : Int} : xDv T a (a - a).toNat = 0 := by rw [show (a - a).toNat = 0 by omega]; rfl
theorem xN8_0 {T : Int → Int} {a : Int} : xN8 T a (a - a).toNat = 0 := by rw [show (a - a).toNat = 0 by omega]; rfl
def xLet (T : Int → Int) (a : Int) (n : Nat) : Prop := ∀ j : Int, a ≤ j → j < a + n → smB (T j)
theorem xLet.pred {T : Int → Int} {a : Int} {n : Nat} (h : xLet T a (n + 1)) : xLet T a n ∧ smB (T (a + n)) := ⟨fun j h1 h2 => h j h1 (by omega), h _ (by omega) (by omega)⟩
theorem xCd_b {T : Int → Int} {a : Int} : ∀ n : Nat, xLet T a n → 0 ≤ xCd T a n ∧ xCd T a n < 32 ^ n
  | 0, _ => ⟨Int.le_refl 0, by show (0 : Int) < 1; omega⟩
  | n + 1, h => by
    obtain ⟨h1, h2⟩ := h.pred
    have ih := xCd_b n h1
    have e : (32 : Int) ^ (n + 1) = 32 ^ n * 32 := Int.pow_succ 32 n
    show 0 ≤ xCd T a n * 32 + (T (a + n) - 96) ∧ xCd T a n * 32 + (T (a + n) - 96) < 32 ^ (n + 1)
    rw [e]
    omega
theorem xN8_b {T : Int → Int} {a : Int} : ∀ n : Nat, xLet T a n → 0 ≤ xN8 T a n ∧ 2 * xN8 T a n < 256 ^ n
  | 0, _ => ⟨Int.le_refl 0, by show (2 * 0 : Int) < 1; omega⟩
  | n + 1, h => by
    obtain ⟨h1, h2⟩ := h.pred
    have ih := xN8_b n h1
    have e : (256 : Int) ^ (n + 1) = 256 ^ n * 256 := Int.pow_succ 256 n
    show 0 ≤ xN8 T a n * 256 + T (a + n) ∧ 2 * (xN8 T a n * 256 + T (a + n)) < 256 ^ (n + 1)
    rw [e]
    omega
theorem pow_le8 {b : Int} (hb : 1 ≤ b) : ∀ {n m : Nat}, n ≤ m → b ^ n ≤ b ^ m := fun {n m} h => by
  obtain ⟨d, rfl⟩ := Nat.exists_eq_add_of_le h
  clear h
  induction d with
  | zero => exact Int.le_refl _
  | succ d ih =>
    have p : 0 ≤ b ^ (n + d) := Int.pow_nonneg (by omega)
    rw [show n + (d + 1) = (n + d) + 1 by omega, Int.pow_succ]
    have : b ^ (n + d) * 1 ≤ b ^ (n + d) * b := Int.mul_le_mul_of_nonneg_left hb p
    omega
theorem xCd_8 {T : Int → Int} {a : Int} {n : Nat} (hn : n ≤ 8) (h : xLet T a n) : 0 ≤ xCd T a n ∧ xCd T a n < 1099511627776 := by
  have := xCd_b n h
  have := pow_le8 (b := 32) (by omega) hn
  have e : (32 : Int) ^ 8 = 1099511627776 := by decide
  omega
theorem xN8_7 {T : Int → Int} {a : Int} {n : Nat} (hn : n ≤ 7) (h : xLet T a n) : 0 ≤ xN8 T a n ∧ xN8 T a n < 36028797018963968 := by
  have := xN8_b n h
  have := pow_le8 (b := 256) (by omega) hn
  have e : (256 : Int) ^ 7 = 72057594037927936 := by decide
  omega
theorem xCd_inj {T K : Int → Int} {a b : Int} : ∀ n m : Nat, xLet T a n → xLet K b m → xCd T a n = xCd K b m → n = m ∧ ∀ i : Nat, i < n → T (a + i) = K (b + i)
  | 0, 0, _, _, _ => ⟨rfl, fun i h => absurd h (by omega)⟩
  | 0, m + 1, _, h2, h => by
    obtain ⟨g1, g2⟩ := h2.pred
    have := (xCd_b m g1).1
    have h : (0 : Int) = xCd K b m * 32 + (K (b + m) - 96) := h
    omega
  | n + 1, 0, h1, _, h => by
    obtain ⟨g1, g2⟩ := h1.pred
    have := (xCd_b n g1).1
    have h : xCd T a n * 32 + (T (a + n) - 96) = (0 : Int) := h
    omega
  | n + 1, m + 1, h1, h2, h => by
    obtain ⟨f1, f2⟩ := h1.pred
    obtain ⟨g1, g2⟩ := h2.pred
    have h : xCd T a n * 32 + (T (a + n) - 96) = xCd K b m * 32 + (K (b + m) - 96) := h
    obtain ⟨rfl, ih⟩ := xCd_inj n m f1 g1 (by omega)
    refine ⟨rfl, fun i hi => ?_⟩
    rcases Nat.lt_or_eq_of_le (show i ≤ n by omega) with q | q
    · exact ih i q
    · rw [q]; omega
theorem xN8_inj {T K : Int → Int} {a b : Int} : ∀ n m : Nat, xLet T a n → xLet K b m → xN8 T a n = xN8 K b m → n = m ∧ ∀ i : Nat, i < n → T (a + i) = K (b + i)
  | 0, 0, _, _, _ => ⟨rfl, fun i h => absurd h (by omega)⟩
  | 0, m + 1, _, h2, h => by
    obtain ⟨g1, g2⟩ := h2.pred
    have := (xN8_b m g1).1
    have h : (0 : Int) = xN8 K b m * 256 + K (b + m) := h
    omega
  | n + 1, 0, h1, _, h => by
    obtain ⟨g1, g2⟩ := h1.pred
    have := (xN8_b n g1).1
    have h : xN8 T a n * 256 + T (a + n) = (0 : Int) := h
    omega
  | n + 1, m + 1, h1, h2, h => by
    obtain ⟨f1, f2⟩ := h1.pred
    obtain ⟨g1, g2⟩ := h2.pred
    have h : xN8 T a n * 256 + T (a + n) = xN8 K b m * 256 + K (b + m) := h
    obtain ⟨rfl, ih⟩ := xN8_inj n m f1 g1 (by omega)
    refine ⟨rfl, fun i hi => ?_⟩
    rcases Nat.lt_or_eq_of_le (show i ≤ n by omega) with q | q
    · exact ih i q
    · rw [q]; omega
theorem xCd_like {T K : Int → Int} {a b : Int} : ∀ n : Nat, (∀ i : Nat, i < n → T (a + i) = K (b + i)) → xCd T a n = xCd K b n
  | 0, _ => rfl
  | n + 1, h => by
    show xCd T a n * 32 + (T (a + n) - 96) = xCd K b n * 32 + (K (b + n) - 96)
    rw [xCd_like n (fun i hi => h i (by omega)), h n (by omega)]
theorem xN8_like {T K : Int → Int} {a b : Int} : ∀ n : Nat, (∀ i : Nat, i < n → T (a + i) = K (b + i)) → xN8 T a n = xN8 K b n
  | 0, _ => rfl
  | n + 1, h => by
    show xN8 T a n * 256 + T (a + n) = xN8 K b n * 256 + K (b + n)
    rw [xN8_like n (fun i hi => h i (by omega)), h n (by omega)]
/-- a name's code and the reference's long of it belong together -/
def xNR (c : Int) (v : Int64) : Prop := ∃ (T : Int → Int) (a : Int) (n : Nat), n ≤ 8 ∧ xLet T a n ∧ c = xCd T a n ∧ v = lZ (xN8 T a n)
theorem xNR.rg {c : Int} {v : Int64} (h : xNR c v) : 0 ≤ c ∧ c < 1099511627776 := by
  obtain ⟨T, a, n, h1, h2, rfl, -⟩ := h
  exact xCd_8 h1 h2
theorem xN8_8 {T : Int → Int} {a : Int} {n : Nat} (hn : n ≤ 8) (h : xLet T a n) : -9223372036854775808 ≤ xN8 T a n ∧ xN8 T a n < 9223372036854775808 := by
  have := xN8_b n h
  have := pow_le8 (b := 256) (by omega) hn
  have e : (256 : Int) ^ 8 = 18446744073709551616 := by decide
  omega
theorem xNR.eq {c d : Int} {v w : Int64} (h : xNR c v) (g : xNR d w) : c = d ↔ v = w := by
  obtain ⟨T, a, n, h1, h2, rfl, rfl⟩ := h
  obtain ⟨K, b, m, g1, g2, rfl, rfl⟩ := g
  rw [lZ_inj (xN8_8 h1 h2) (xN8_8 g1 g2)]
  constructor
  · intro e
    obtain ⟨rfl, q⟩ := xCd_inj n m h2 g2 e
    exact xN8_like n q
  · intro e
    obtain ⟨rfl, q⟩ := xN8_inj n m h2 g2 e
    exact xCd_like n q
theorem kw_dist : ∀ i j : Fin 25, kwC i.val = kwC j.val → i = j := by decide +kernel
theorem kw_pos : ∀ i : Fin 25, 0 < kwC i.val ∧ kwC i.val < 1099511627776 := by decide +kernel
theorem kwu_or (c : Int) : ∀ n : Nat, kwu c n = -1 ∨ ∃ j : Nat, j < n ∧ kwC j = c ∧ kwu c n = (j : Int)
  | 0 => Or.inl rfl
  | n + 1 => by
    show (if kwC n = c then (n : Int) else kwu c n) = -1 ∨ ∃ j : Nat, j < n + 1 ∧ kwC j = c ∧ (if kwC n = c then (n : Int) else kwu c n) = (j : Int)
    by_cases h : kwC n = c
    · rw [if_pos h]; exact Or.inr ⟨n, by omega, h, rfl⟩
    · rw [if_neg h]
      rcases kwu_or c n with q | ⟨j, a, b, d⟩
      · exact Or.inl q
      · exact Or.inr ⟨j, by omega, b, d⟩
theorem kwu_not {c : Int} : ∀ n : Nat, (∀ j : Nat, j < n → ¬ kwC j = c) → kwu c n = -1
  | 0, _ => rfl
  | n + 1, h => by
    show (if kwC n = c then (n : Int) else kwu c n) = -1
    rw [if_neg (h n (by omega))]
    exact kwu_not n (fun j hj => h j (by omega))
theorem kwu_hit {c : Int} {w : Nat} (hw : w < 25) (h : kwC w = c) : kwu c 25 = (w : Int) := by
  rcases kwu_or c 25 with q | ⟨j, a, b, d⟩
  · exfalso
    have : ∀ n : Nat, w < n → n ≤ 25 → kwu c n = -1 → False := by
      intro n h1 h2
      induction n with
      | zero => exact fun _ => absurd h1 (by omega)
      | succ n ih =>
        show (if kwC n = c then (n : Int) else kwu c n) = -1 → False
        by_cases e : kwC n = c
        · rw [if_pos e]; intro z; omega
        · rw [if_neg e]
          rcases Nat.lt_or_eq_of_le (show w ≤ n by omega) with g | g
          · exact ih g (by omega)
          · exact absurd (g ▸ h) e
    exact this 25 hw (Nat.le_refl _) q
  · have := kw_dist ⟨w, hw⟩ ⟨j, a⟩ (h.trans b.symm)
    rw [d, show w = j from congrArg Fin.val this]
theorem kwu_rg (c : Int) (n : Nat) : -1 ≤ kwu c n ∧ kwu c n < n := by
  rcases kwu_or c n with q | ⟨j, a, b, d⟩
  · omega
  · omega
/-- the four sorts of token -/
theorem tk_end {T : Int → Int} {p q : Int} (h : q = xPl T p) (hc : T q = -1) : xEn T p = q ∧ xKd T p = 0 ∧ xKw T p = -1 := by
  have c : xCh T p = -1 := by unfold xCh; rw [← h]; exact hc
  unfold xEn xKd xKw
  rw [if_pos c, if_pos c, if_neg (show ¬ smB (xCh T p) by rw [c]; intro h; omega), h]
  exact ⟨rfl, rfl, rfl⟩
theorem tk_word {T : Int → Int} {p q e : Int} (h : q = xPl T p) (hc : smB (T q)) (he : isRn smB T q e) : xEn T p = e ∧ xKd T p = 1 ∧ xNm T p = xCw T q e ∧ xKw T p = kwu (xCw T q e) 25 := by
  have hc : 97 ≤ T q ∧ T q ≤ 122 := hc
  have c : xCh T p = T q := by unfold xCh; rw [← h]
  have c1 : ¬ xCh T p = -1 := by rw [c]; omega
  have c2 : smB (xCh T p) := by rw [c]; exact hc
  have e1 : xEn T p = e := by unfold xEn; rw [if_neg c1, if_pos c2, ← h]; exact (rnF_eq he).symm
  have e3 : xNm T p = xCw T q e := by unfold xNm; rw [e1, ← h]
  refine ⟨e1, ?_, e3, ?_⟩
  · unfold xKd; rw [if_neg c1, if_pos c2]
  · unfold xKw; rw [if_pos c2, e3]
theorem tk_num {T : Int → Int} {p q e : Int} (h : q = xPl T p) (hc : dgB (T q)) (he : isRn dgB T q e) : xEn T p = e ∧ xKd T p = (if 4 < e - q then 4 else 2) ∧ xKw T p = -1 ∧ xVl T p = xDv T q (e - q).toNat := by
  have hc : 48 ≤ T q ∧ T q ≤ 57 := hc
  have c : xCh T p = T q := by unfold xCh; rw [← h]
  have c1 : ¬ xCh T p = -1 := by rw [c]; omega
  have c2 : ¬ smB (xCh T p) := by rw [c]; intro g; omega
  have c3 : dgB (xCh T p) := by rw [c]; exact hc
  have e1 : xEn T p = e := by unfold xEn; rw [if_neg c1, if_neg c2, if_pos c3, ← h]; exact (rnF_eq he).symm
  refine ⟨e1, ?_, ?_, ?_⟩
  · unfold xKd; rw [if_neg c1, if_neg c2, if_pos c3, e1, ← h]
  · unfold xKw; rw [if_neg c2]
  · unfold xVl xLn; rw [if_pos c3, e1, ← h]
theorem tk_sign {T : Int → Int} {p q : Int} (h : q = xPl T p) (h1 : ¬ T q = -1) (h2 : ¬ smB (T q)) (h3 : ¬ dgB (T q)) : xEn T p = q + 1 ∧ xKd T p = (if sgB (T q) then 3 else 4) ∧ xKw T p = -1 ∧ xVl T p = T q := by
  have c : xCh T p = T q := by unfold xCh; rw [← h]
  have c1 : ¬ xCh T p = -1 := by rw [c]; exact h1
  have c2 : ¬ smB (xCh T p) := by rw [c]; exact h2
  have c3 : ¬ dgB (xCh T p) := by rw [c]; exact h3
  refine ⟨?_, ?_, ?_, ?_⟩
  · unfold xEn; rw [if_neg c1, if_neg c2, if_neg c3, h]
  · unfold xKd; rw [if_neg c1, if_neg c2, if_neg c3, c]
  · unfold xKw; rw [if_neg c2]
  · unfold xVl; rw [if_neg c3, c]
/-- the class's Reader stands at a cursor -/
def RDX (T : Int → Int) (p pl en ki va ke : Int) (nm : Int64) : Prop := (p ≤ pl ∧ pl = xPl T p) ∧ en = xEn T p ∧ ki = xKd T p ∧ (ki = 2 ∨ ki = 3 → va = xVl T p) ∧ ke = xKw T p ∧ (ki = 1 → nm = lZ (xNm T p) ∧ xLet T (xPl T p) (xLn T p)) ∧ (ki = 0 ∨ pl < en)
/-- the reference's token by the class's kind -/
def tkm (k : Int) : Int := if k = 0 then 0 else if k = 1 then 2 else if k = 2 then 3 else if k = 3 then 4 else 1
/-- the reference stands at a cursor -/
def RFX (T : Int → Int) (p fr en tk va : Int) : Prop := (p ≤ fr ∧ fr = xPl T p) ∧ en = xEn T p ∧ tk = tkm (xKd T p) ∧ (tk = 3 ∨ tk = 4 → va = xVl T p) ∧ (tk = 2 → xLet T (xPl T p) (xLn T p)) ∧ (tk = 0 ∨ fr < en)
theorem xKd_rg (T : Int → Int) (p : Int) : 0 ≤ xKd T p ∧ xKd T p ≤ 4 := by
  unfold xKd
  split
  · omega
  · split
    · omega
    · split
      · split <;> omega
      · split <;> omega
theorem xKw_rg (T : Int → Int) (p : Int) : -1 ≤ xKw T p ∧ xKw T p ≤ 24 := by
  unfold xKw
  split
  · have := kwu_rg (xNm T p) 25; omega
  · omega
theorem tkm_c (k : Int) : (k = 0 ∧ tkm k = 0) ∨ (k = 1 ∧ tkm k = 2) ∨ (k = 2 ∧ tkm k = 3) ∨ (k = 3 ∧ tkm k = 4) ∨ ((¬ k = 0 ∧ ¬ k = 1 ∧ ¬ k = 2 ∧ ¬ k = 3) ∧ tkm k = 1) := by
  unfold tkm
  split
  · omega
  · split
    · omega
    · split
      · omega
      · split <;> omega

