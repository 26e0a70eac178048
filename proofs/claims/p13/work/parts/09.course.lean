section
theorem wb_tb (n : Nat) : (lN n).toBitVec = BitVec.ofNat 64 n := rfl
theorem wb_inj {a b : Int64} (h : a.toBitVec = b.toBitVec) : a = b := Int64.toBitVec_inj.mp h
theorem wb_c : ∀ k, k < 64 → ((nI k).toInt64 &&& 63) = lN k := by decide +kernel
theorem wb_sm : ∀ k, k < 64 → (BitVec.ofNat 64 k).smod 64 = BitVec.ofNat 64 k := by decide +kernel
theorem wb_shl (n : Nat) {k : Nat} (hk : k < 64) : lN n <<< ((nI k).toInt64 &&& 63) = lN (n * 2 ^ k) := by
  rw [wb_c k hk]
  apply wb_inj
  rw [Int64.toBitVec_shiftLeft, wb_tb, wb_tb, wb_tb, wb_sm k hk]
  apply BitVec.eq_of_toNat_eq
  rw [BitVec.shiftLeft_eq', BitVec.toNat_shiftLeft, BitVec.toNat_ofNat, BitVec.toNat_ofNat, BitVec.toNat_ofNat, Nat.mod_eq_of_lt (show k < 2 ^ 64 by omega), Nat.shiftLeft_eq, Nat.mul_mod, Nat.mod_mod, ← Nat.mul_mod]
theorem u_tn {n : Nat} (h : n < 2 ^ 64) : (UInt64.ofNat n).toNat = n := Nat.mod_eq_of_lt h
theorem g_or {k p a b : Nat} (hp : 2 ^ k = p) (ha : a < p) (h : b * p + a < 2 ^ 64) : lN (b * p) ||| lN a = lN (b * p + a) := by
  subst hp
  have h1 : b * 2 ^ k ||| a = b * 2 ^ k + a := by rw [← Nat.shiftLeft_eq, Nat.shiftLeft_add_eq_or_of_lt ha]
  have h3 : UInt64.ofNat (b * 2 ^ k) ||| UInt64.ofNat a = UInt64.ofNat (b * 2 ^ k + a) := UInt64.toNat_inj.mp (by rw [UInt64.toNat_or, u_tn (by omega), u_tn (by omega), u_tn h, h1])
  have h2 := congrArg UInt64.toInt64 h3
  exact h2
/-- a long by its number -/
def lZ (z : Int) : Int64 := Int64.ofInt z
theorem lZ_add (a b : Int) : lZ a + lZ b = lZ (a + b) := (Int64.ofInt_add a b).symm
theorem lZ_sub (a b : Int) : lZ a - lZ b = lZ (a - b) := (Int64.ofInt_sub a b).symm
theorem lZ_mul (a b : Int) : lZ a * lZ b = lZ (a * b) := (Int64.ofInt_mul a b).symm
theorem lZ_ti {z : Int} (h : -9223372036854775808 ≤ z ∧ z < 9223372036854775808) : (lZ z).toInt = z := by
  have hb : z.bmod (2 ^ 64) = z := by rw [Int.bmod_eq_of_le (by omega) (by omega)]
  show (Int64.ofInt z).toInt = z
  rw [Int64.toInt_ofInt]
  exact hb
theorem lZ_inj {a b : Int} (ha : -9223372036854775808 ≤ a ∧ a < 9223372036854775808) (hb : -9223372036854775808 ≤ b ∧ b < 9223372036854775808) : lZ a = lZ b ↔ a = b := by
  rw [← Int64.toInt_inj, lZ_ti ha, lZ_ti hb]
theorem i2l_z {a : Int} (h : -2147483648 ≤ a ∧ a < 2147483648) : (iZ a).toInt64 = lZ a := by
  apply Int64.toInt_inj.mp
  rw [Int32.toInt_toInt64, iZ_ti h, lZ_ti ⟨by omega, by omega⟩]
theorem lZ_nat (n : Nat) : lZ (n : Int) = lN n := Int64.ofInt_eq_ofNat
/-- a byte more behind a name's bytes -/
theorem sh8_z {x b : Int} (hx : 0 ≤ x ∧ x < 36028797018963968) (hb : 0 ≤ b ∧ b < 256) : (lZ x <<< ((iZ 8).toInt64 &&& 63)) ||| (iZ b).toInt64 = lZ (x * 256 + b) := by
  obtain ⟨n, rfl⟩ := Int.eq_ofNat_of_zero_le hx.1
  obtain ⟨d, rfl⟩ := Int.eq_ofNat_of_zero_le hb.1
  rw [i2l_z (a := (d : Int)) ⟨by omega, by omega⟩, lZ_nat, lZ_nat, show (iZ 8) = nI 8 from rfl, wb_shl n (by decide), g_or (k := 8) (p := 2 ^ 8) rfl (by omega) (by omega), show ((n : Int) * 256 + (d : Int)) = ((n * 2 ^ 8 + d : Nat) : Int) by omega, lZ_nat]
abbrev wsB (c : Int) : Prop := c = 32 ∨ c = 10
abbrev smB (c : Int) : Prop := 97 ≤ c ∧ c ≤ 122
abbrev dgB (c : Int) : Prop := 48 ≤ c ∧ c ≤ 57
abbrev sgB (c : Int) : Prop := c = 59 ∨ c = 60 ∨ c = 62 ∨ c = 61
/-- a run of places whose bytes are of a sort -/
def isRn (P : Int → Prop) (T : Int → Int) (p q : Int) : Prop := p ≤ q ∧ (∀ j : Int, p ≤ j → j < q → P (T j)) ∧ ¬ P (T q)
noncomputable def rnF (P : Int → Prop) (T : Int → Int) (p : Int) : Int := Classical.epsilon (isRn P T p)
theorem rnF_eq {P : Int → Prop} {T : Int → Int} {p q : Int} (h : isRn P T p q) : q = rnF P T p := by
  have g : isRn P T p (rnF P T p) := Classical.epsilon_spec ⟨q, h⟩
  obtain ⟨h1, h2, h3⟩ := h
  obtain ⟨g1, g2, g3⟩ := g
  rcases Int.lt_trichotomy q (rnF P T p) with c | c | c
  · exact absurd (g2 q h1 c) h3
  · exact c
  · exact absurd (h2 _ g1 c) g3
theorem rn_step {P : Int → Prop} {T : Int → Int} {p e : Int} (h : ∀ j : Int, p ≤ j → j < e → P (T j)) (he : P (T e)) : ∀ j : Int, p ≤ j → j < e + 1 → P (T j) := fun j h1 h2 => by
  rcases Int.lt_or_eq_of_le (show j ≤ e by omega) with h3 | h3
  · exact h j h1 h3
  · rw [h3]; exact he
theorem rn_none {P : Int → Prop} {T : Int → Int} {p : Int} : ∀ j : Int, p ≤ j → j < p → P (T j) := fun j h1 h2 => absurd h1 (by omega)
/-- the token behind a place: where it begins, its first byte, where it ends, its kind, value, name, keyword -/
noncomputable def xPl (T : Int → Int) (p : Int) : Int := rnF wsB T p
noncomputable def xCh (T : Int → Int) (p : Int) : Int := T (xPl T p)
noncomputable def xEn (T : Int → Int) (p : Int) : Int := if xCh T p = -1 then xPl T p else if smB (xCh T p) then rnF smB T (xPl T p) else if dgB (xCh T p) then rnF dgB T (xPl T p) else xPl T p + 1
noncomputable def xLn (T : Int → Int) (p : Int) : Nat := (xEn T p - xPl T p).toNat
noncomputable def xKd (T : Int → Int) (p : Int) : Int := if xCh T p = -1 then 0 else if smB (xCh T p) then 1 else if dgB (xCh T p) then (if 4 < xEn T p - xPl T p then 4 else 2) else if sgB (xCh T p) then 3 else 4
def xDv (T : Int → Int) (a : Int) : Nat → Int
  | 0 => 0
  | k + 1 => xDv T a k * 10 + (T (a + k) - 48)
def xCd (T : Int → Int) (a : Int) : Nat → Int
  | 0 => 0
  | k + 1 => xCd T a k * 32 + (T (a + k) - 96)
def xN8 (T : Int → Int) (a : Int) : Nat → Int
  | 0 => 0
  | k + 1 => xN8 T a k * 256 + T (a + k)
noncomputable def xVl (T : Int → Int) (p : Int) : Int := if dgB (xCh T p) then xDv T (xPl T p) (xLn T p) else xCh T p
/-- a word's code, -1 if it is too long for a NAME -/
def xCw (T : Int → Int) (a e : Int) : Int := if e - a ≤ 8 then xCd T a (e - a).toNat else -1
noncomputable def xNm (T : Int → Int) (p : Int) : Int := xCw T (xPl T p) (xEn T p)
def kwL : List Int := [605291, 6194, 19387844, 52, 591307, 17376357, 20686279, 24282707, 9317, 215533, 655, 12343, 6605428, 394868, 628180, 758955, 758834, 16322738, 109099109, 762030, 19574963, 302, 409072, 5572, 643568]
def kwC (j : Nat) : Int := kwL.getD j 0
def kwu (c : Int) : Nat → Int
  | 0 => -1
  | j + 1 => if kwC j = c then (j : Int) else kwu c j
noncomputable def xKw (T : Int → Int) (p : Int) : Int := if smB (xCh T p) then kwu (xNm T p) 25 else -1
theorem xDv_step {T : Int → Int} {a e v : Int} (h : a ≤ e) (hv : v = xDv T a (e - a).toNat) : v * 10 + (T e - 48) = xDv T a (e + 1 - a).toNat := by
  rw [show (e + 1 - a).toNat = (e - a).toNat + 1 by omega]
  show _ = xDv T a (e - a).toNat * 10 + (T (a + ((e - a).toNat : Int)) - 48)
  rw [show a + ((e - a).toNat : Int) = e by omega, hv]
theorem xCd_step {T : Int → Int} {a e v : Int} (h : a ≤ e) (hv : v = xCd T a (e - a).toNat) : v * 32 + (T e - 96) = xCd T a (e + 1 - a).toNat := by
  rw [show (e + 1 - a).toNat = (e - a).toNat + 1 by omega]
  show _ = xCd T a (e - a).toNat * 32 + (T (a + ((e - a).toNat : Int)) - 96)
  rw [show a + ((e - a).toNat : Int) = e by omega, hv]
theorem xN8_step {T : Int → Int} {a e v : Int} (h : a ≤ e) (hv : v = xN8 T a (e - a).toNat) : v * 256 + T e = xN8 T a (e + 1 - a).toNat := by
  rw [show (e + 1 - a).toNat = (e - a).toNat + 1 by omega]
  show _ = xN8 T a (e - a).toNat * 256 + T (a + ((e - a).toNat : Int))
  rw [show a + ((e - a).toNat : Int) = e by omega, hv]
theorem xCd_0 {T : Int → Int} {a : Int} : xCd T a (a - a).toNat = 0 := by rw [show (a - a).toNat = 0 by omega]; rfl
theorem xDv_0 {T : Int → Int} {a : Int} : xDv T a (a - a).toNat = 0 := by rw [show (a - a).toNat = 0 by omega]; rfl
theorem xN8_0 {T : Int → Int} {a : Int} : xN8 T a (a - a).toNat = 0 := by rw [show (a - a).toNat = 0 by omega]; rfl
def xLet (T : Int → Int) (a : Int) (n : Nat) : Prop := ∀ j : Int, a ≤ j → j < a + n → smB (T j)
theorem xLet.pred {T : Int → Int} {a : Int} {n : Nat} (h : xLet T a (n + 1)) : xLet T a n ∧ smB (T (a + n)) := ⟨fun j h1 h2 => h j h1 (by omega), h _ (by omega) (by omega)⟩
theorem xCd_b {T : Int → Int} {a : Int} : ∀ n : Nat, xLet T a n → 0 ≤ xCd T a n ∧ xCd T a n < 32 ^ n
  | 0, _ => ⟨Int.le_refl 0, by show (0 : Int) < 1; omega⟩
  | n + 1, h => by
    obtain ⟨h1, h2⟩ := h.pred
    have ih := xCd_b n h1
    have e : (32 : Int) ^ (n + 1) = 32 ^ n * 32 := Int.pow_succ 32 n
    show 0 ≤ xCd T a n * 32 + (T (a + n) - 96) ∧ xCd T a n * 32 + (T (a + n) - 96) < 32 ^ (n + 1)
    rw [e]
    omega
theorem xN8_b {T : Int → Int} {a : Int} : ∀ n : Nat, xLet T a n → 0 ≤ xN8 T a n ∧ 2 * xN8 T a n < 256 ^ n
  | 0, _ => ⟨Int.le_refl 0, by show (2 * 0 : Int) < 1; omega⟩
  | n + 1, h => by
    obtain ⟨h1, h2⟩ := h.pred
    have ih := xN8_b n h1
    have e : (256 : Int) ^ (n + 1) = 256 ^ n * 256 := Int.pow_succ 256 n
    show 0 ≤ xN8 T a n * 256 + T (a + n) ∧ 2 * (xN8 T a n * 256 + T (a + n)) < 256 ^ (n + 1)
    rw [e]
    omega
theorem pow_le8 {b : Int} (hb : 1 ≤ b) : ∀ {n m : Nat}, n ≤ m → b ^ n ≤ b ^ m := fun {n m} h => by
  obtain ⟨d, rfl⟩ := Nat.exists_eq_add_of_le h
  clear h
  induction d with
  | zero => exact Int.le_refl _
  | succ d ih =>
    have p : 0 ≤ b ^ (n + d) := Int.pow_nonneg (by omega)
    rw [show n + (d + 1) = (n + d) + 1 by omega, Int.pow_succ]
    have : b ^ (n + d) * 1 ≤ b ^ (n + d) * b := Int.mul_le_mul_of_nonneg_left hb p
    omega
theorem xCd_8 {T : Int → Int} {a : Int} {n : Nat} (hn : n ≤ 8) (h : xLet T a n) : 0 ≤ xCd T a n ∧ xCd T a n < 1099511627776 := by
  have := xCd_b n h
  have := pow_le8 (b := 32) (by omega) hn
  have e : (32 : Int) ^ 8 = 1099511627776 := by decide
  omega
theorem xN8_7 {T : Int → Int} {a : Int} {n : Nat} (hn : n ≤ 7) (h : xLet T a n) : 0 ≤ xN8 T a n ∧ xN8 T a n < 36028797018963968 := by
  have := xN8_b n h
  have := pow_le8 (b := 256) (by omega) hn
  have e : (256 : Int) ^ 7 = 72057594037927936 := by decide
  omega
theorem xCd_inj {T K : Int → Int} {a b : Int} : ∀ n m : Nat, xLet T a n → xLet K b m → xCd T a n = xCd K b m → n = m ∧ ∀ i : Nat, i < n → T (a + i) = K (b + i)
  | 0, 0, _, _, _ => ⟨rfl, fun i h => absurd h (by omega)⟩
  | 0, m + 1, _, h2, h => by
    obtain ⟨g1, g2⟩ := h2.pred
    have := (xCd_b m g1).1
    have h : (0 : Int) = xCd K b m * 32 + (K (b + m) - 96) := h
    omega
  | n + 1, 0, h1, _, h => by
    obtain ⟨g1, g2⟩ := h1.pred
    have := (xCd_b n g1).1
    have h : xCd T a n * 32 + (T (a + n) - 96) = (0 : Int) := h
    omega
  | n + 1, m + 1, h1, h2, h => by
    obtain ⟨f1, f2⟩ := h1.pred
    obtain ⟨g1, g2⟩ := h2.pred
    have h : xCd T a n * 32 + (T (a + n) - 96) = xCd K b m * 32 + (K (b + m) - 96) := h
    obtain ⟨rfl, ih⟩ := xCd_inj n m f1 g1 (by omega)
    refine ⟨rfl, fun i hi => ?_⟩
    rcases Nat.lt_or_eq_of_le (show i ≤ n by omega) with q | q
    · exact ih i q
    · rw [q]; omega
theorem xN8_inj {T K : Int → Int} {a b : Int} : ∀ n m : Nat, xLet T a n → xLet K b m → xN8 T a n = xN8 K b m → n = m ∧ ∀ i : Nat, i < n → T (a + i) = K (b + i)
  | 0, 0, _, _, _ => ⟨rfl, fun i h => absurd h (by omega)⟩
  | 0, m + 1, _, h2, h => by
    obtain ⟨g1, g2⟩ := h2.pred
    have := (xN8_b m g1).1
    have h : (0 : Int) = xN8 K b m * 256 + K (b + m) := h
    omega
  | n + 1, 0, h1, _, h => by
    obtain ⟨g1, g2⟩ := h1.pred
    have := (xN8_b n g1).1
    have h : xN8 T a n * 256 + T (a + n) = (0 : Int) := h
    omega
  | n + 1, m + 1, h1, h2, h => by
    obtain ⟨f1, f2⟩ := h1.pred
    obtain ⟨g1, g2⟩ := h2.pred
    have h : xN8 T a n * 256 + T (a + n) = xN8 K b m * 256 + K (b + m) := h
    obtain ⟨rfl, ih⟩ := xN8_inj n m f1 g1 (by omega)
    refine ⟨rfl, fun i hi => ?_⟩
    rcases Nat.lt_or_eq_of_le (show i ≤ n by omega) with q | q
    · exact ih i q
    · rw [q]; omega
theorem xCd_like {T K : Int → Int} {a b : Int} : ∀ n : Nat, (∀ i : Nat, i < n → T (a + i) = K (b + i)) → xCd T a n = xCd K b n
  | 0, _ => rfl
  | n + 1, h => by
    show xCd T a n * 32 + (T (a + n) - 96) = xCd K b n * 32 + (K (b + n) - 96)
    rw [xCd_like n (fun i hi => h i (by omega)), h n (by omega)]
theorem xN8_like {T K : Int → Int} {a b : Int} : ∀ n : Nat, (∀ i : Nat, i < n → T (a + i) = K (b + i)) → xN8 T a n = xN8 K b n
  | 0, _ => rfl
  | n + 1, h => by
    show xN8 T a n * 256 + T (a + n) = xN8 K b n * 256 + K (b + n)
    rw [xN8_like n (fun i hi => h i (by omega)), h n (by omega)]
/-- a name's code and the reference's long of it belong together -/
def xNR (c : Int) (v : Int64) : Prop := ∃ (T : Int → Int) (a : Int) (n : Nat), n ≤ 8 ∧ xLet T a n ∧ c = xCd T a n ∧ v = lZ (xN8 T a n)
theorem xNR.rg {c : Int} {v : Int64} (h : xNR c v) : 0 ≤ c ∧ c < 1099511627776 := by
  obtain ⟨T, a, n, h1, h2, rfl, -⟩ := h
  exact xCd_8 h1 h2
theorem xN8_8 {T : Int → Int} {a : Int} {n : Nat} (hn : n ≤ 8) (h : xLet T a n) : -9223372036854775808 ≤ xN8 T a n ∧ xN8 T a n < 9223372036854775808 := by
  have := xN8_b n h
  have := pow_le8 (b := 256) (by omega) hn
  have e : (256 : Int) ^ 8 = 18446744073709551616 := by decide
  omega
theorem xNR.eq {c d : Int} {v w : Int64} (h : xNR c v) (g : xNR d w) : c = d ↔ v = w := by
  obtain ⟨T, a, n, h1, h2, rfl, rfl⟩ := h
  obtain ⟨K, b, m, g1, g2, rfl, rfl⟩ := g
  rw [lZ_inj (xN8_8 h1 h2) (xN8_8 g1 g2)]
  constructor
  · intro e
    obtain ⟨rfl, q⟩ := xCd_inj n m h2 g2 e
    exact xN8_like n q
  · intro e
    obtain ⟨rfl, q⟩ := xN8_inj n m h2 g2 e
    exact xCd_like n q
theorem kw_dist : ∀ i j : Fin 25, kwC i.val = kwC j.val → i = j := by decide +kernel
theorem kw_pos : ∀ i : Fin 25, 0 < kwC i.val ∧ kwC i.val < 1099511627776 := by decide +kernel
theorem kwu_or (c : Int) : ∀ n : Nat, kwu c n = -1 ∨ ∃ j : Nat, j < n ∧ kwC j = c ∧ kwu c n = (j : Int)
  | 0 => Or.inl rfl
  | n + 1 => by
    show (if kwC n = c then (n : Int) else kwu c n) = -1 ∨ ∃ j : Nat, j < n + 1 ∧ kwC j = c ∧ (if kwC n = c then (n : Int) else kwu c n) = (j : Int)
    by_cases h : kwC n = c
    · rw [if_pos h]; exact Or.inr ⟨n, by omega, h, rfl⟩
    · rw [if_neg h]
      rcases kwu_or c n with q | ⟨j, a, b, d⟩
      · exact Or.inl q
      · exact Or.inr ⟨j, by omega, b, d⟩
theorem kwu_hit {c : Int} {w : Nat} (hw : w < 25) (h : kwC w = c) : kwu c 25 = (w : Int) := by
  rcases kwu_or c 25 with q | ⟨j, a, b, d⟩
  · exfalso
    have : ∀ n : Nat, w < n → n ≤ 25 → kwu c n = -1 → False := by
      intro n h1 h2
      induction n with
      | zero => exact fun _ => absurd h1 (by omega)
      | succ n ih =>
        show (if kwC n = c then (n : Int) else kwu c n) = -1 → False
        by_cases e : kwC n = c
        · rw [if_pos e]; intro z; omega
        · rw [if_neg e]
          rcases Nat.lt_or_eq_of_le (show w ≤ n by omega) with g | g
          · exact ih g (by omega)
          · exact absurd (g ▸ h) e
    exact this 25 hw (Nat.le_refl _) q
  · have := kw_dist ⟨w, hw⟩ ⟨j, a⟩ (h.trans b.symm)
    rw [d, show w = j from congrArg Fin.val this]
theorem kwu_rg (c : Int) (n : Nat) : -1 ≤ kwu c n ∧ kwu c n < n := by
  rcases kwu_or c n with q | ⟨j, a, b, d⟩
  · omega
  · omega
/-- the four sorts of token -/
theorem tk_end {T : Int → Int} {p q : Int} (h : q = xPl T p) (hc : T q = -1) : xEn T p = q ∧ xKd T p = 0 ∧ xKw T p = -1 := by
  have c : xCh T p = -1 := by unfold xCh; rw [← h]; exact hc
  unfold xEn xKd xKw
  rw [if_pos c, if_pos c, if_neg (show ¬ smB (xCh T p) by rw [c]; intro h; omega), h]
  exact ⟨rfl, rfl, rfl⟩
theorem tk_word {T : Int → Int} {p q e : Int} (h : q = xPl T p) (hc : smB (T q)) (he : isRn smB T q e) : xEn T p = e ∧ xKd T p = 1 ∧ xNm T p = xCw T q e ∧ xKw T p = kwu (xCw T q e) 25 := by
  have hc : 97 ≤ T q ∧ T q ≤ 122 := hc
  have c : xCh T p = T q := by unfold xCh; rw [← h]
  have c1 : ¬ xCh T p = -1 := by rw [c]; omega
  have c2 : smB (xCh T p) := by rw [c]; exact hc
  have e1 : xEn T p = e := by unfold xEn; rw [if_neg c1, if_pos c2, ← h]; exact (rnF_eq he).symm
  have e3 : xNm T p = xCw T q e := by unfold xNm; rw [e1, ← h]
  refine ⟨e1, ?_, e3, ?_⟩
  · unfold xKd; rw [if_neg c1, if_pos c2]
  · unfold xKw; rw [if_pos c2, e3]
theorem tk_num {T : Int → Int} {p q e : Int} (h : q = xPl T p) (hc : dgB (T q)) (he : isRn dgB T q e) : xEn T p = e ∧ xKd T p = (if 4 < e - q then 4 else 2) ∧ xKw T p = -1 ∧ xVl T p = xDv T q (e - q).toNat := by
  have hc : 48 ≤ T q ∧ T q ≤ 57 := hc
  have c : xCh T p = T q := by unfold xCh; rw [← h]
  have c1 : ¬ xCh T p = -1 := by rw [c]; omega
  have c2 : ¬ smB (xCh T p) := by rw [c]; intro g; omega
  have c3 : dgB (xCh T p) := by rw [c]; exact hc
  have e1 : xEn T p = e := by unfold xEn; rw [if_neg c1, if_neg c2, if_pos c3, ← h]; exact (rnF_eq he).symm
  refine ⟨e1, ?_, ?_, ?_⟩
  · unfold xKd; rw [if_neg c1, if_neg c2, if_pos c3, e1, ← h]
  · unfold xKw; rw [if_neg c2]
  · unfold xVl xLn; rw [if_pos c3, e1, ← h]
theorem tk_sign {T : Int → Int} {p q : Int} (h : q = xPl T p) (h1 : ¬ T q = -1) (h2 : ¬ smB (T q)) (h3 : ¬ dgB (T q)) : xEn T p = q + 1 ∧ xKd T p = (if sgB (T q) then 3 else 4) ∧ xKw T p = -1 ∧ xVl T p = T q := by
  have c : xCh T p = T q := by unfold xCh; rw [← h]
  have c1 : ¬ xCh T p = -1 := by rw [c]; exact h1
  have c2 : ¬ smB (xCh T p) := by rw [c]; exact h2
  have c3 : ¬ dgB (xCh T p) := by rw [c]; exact h3
  refine ⟨?_, ?_, ?_, ?_⟩
  · unfold xEn; rw [if_neg c1, if_neg c2, if_neg c3, h]
  · unfold xKd; rw [if_neg c1, if_neg c2, if_neg c3, c]
  · unfold xKw; rw [if_neg c2]
  · unfold xVl; rw [if_neg c3, c]
/-- the class's Reader stands at a cursor -/
def RDX (T : Int → Int) (p pl en ki va ke : Int) (nm : Int64) : Prop := (p ≤ pl ∧ pl = xPl T p) ∧ en = xEn T p ∧ ki = xKd T p ∧ (ki = 2 ∨ ki = 3 → va = xVl T p) ∧ ke = xKw T p ∧ (ki = 1 → nm = lZ (xNm T p) ∧ xLet T (xPl T p) (xLn T p)) ∧ (ki = 0 ∨ pl < en)
/-- the reference's token by the class's kind -/
def tkm (k : Int) : Int := if k = 0 then 0 else if k = 1 then 2 else if k = 2 then 3 else if k = 3 then 4 else 1
/-- the reference stands at a cursor -/
def RFX (T : Int → Int) (p fr en tk va : Int) : Prop := (p ≤ fr ∧ fr = xPl T p) ∧ en = xEn T p ∧ tk = tkm (xKd T p) ∧ (tk = 3 ∨ tk = 4 → va = xVl T p) ∧ (tk = 2 → xLet T (xPl T p) (xLn T p)) ∧ (tk = 0 ∨ fr < en)
theorem xKd_rg (T : Int → Int) (p : Int) : 0 ≤ xKd T p ∧ xKd T p ≤ 4 := by
  unfold xKd
  split
  · omega
  · split
    · omega
    · split
      · split <;> omega
      · split <;> omega
theorem xKw_rg (T : Int → Int) (p : Int) : -1 ≤ xKw T p ∧ xKw T p ≤ 24 := by
  unfold xKw
  split
  · have := kwu_rg (xNm T p) 25; omega
  · omega
theorem tkm_c (k : Int) : (k = 0 ∧ tkm k = 0) ∨ (k = 1 ∧ tkm k = 2) ∨ (k = 2 ∧ tkm k = 3) ∨ (k = 3 ∧ tkm k = 4) ∨ ((¬ k = 0 ∧ ¬ k = 1 ∧ ¬ k = 2 ∧ ¬ k = 3) ∧ tkm k = 1) := by
  unfold tkm
  split
  · omega
  · split
    · omega
    · split
      · omega
      · split <;> omega
end

section
/-- the bytes of a text by place, -1 outside it -/
def tX (f : Nat → Int32) (sz x : Int) : Int := if 0 ≤ x ∧ x < sz then gz f x % 256 else -1
theorem tX_c {f : Nat → Int32} {sz x : Int} (hx : 0 ≤ x) (hr : x < sz → -128 ≤ gz f x ∧ gz f x ≤ 127) : (x < sz ∧ ((0 ≤ gz f x ∧ tX f sz x = gz f x) ∨ (gz f x < 0 ∧ tX f sz x = gz f x + 256))) ∨ (sz ≤ x ∧ tX f sz x = -1) := by
  unfold tX
  by_cases h : x < sz
  · rw [if_pos ⟨hx, h⟩]
    have := hr h
    omega
  · rw [if_neg (fun g => h g.2)]
    omega
theorem tX_rg (f : Nat → Int32) (sz x : Int) (hx : 0 ≤ x) : (x < sz ∧ 0 ≤ tX f sz x ∧ tX f sz x ≤ 255) ∨ (sz ≤ x ∧ tX f sz x = -1) := by
  unfold tX
  by_cases h : x < sz
  · rw [if_pos ⟨hx, h⟩]
    omega
  · rw [if_neg (fun g => h g.2)]
    omega
theorem tX_like {f g : Nat → Int32} {sz : Int} (h : ∀ e : Int, 0 ≤ e → e < sz → gz f e = gz g e) : tX f sz = tX g sz := by
  funext x
  unfold tX
  by_cases hx : 0 ≤ x ∧ x < sz
  · rw [if_pos hx, if_pos hx, h x hx.1 hx.2]
  · rw [if_neg hx, if_neg hx]
theorem and255 (v : Int32) : (v &&& 255).toInt = v.toInt % 256 := by
  have h : (v &&& 255).toBitVec.toNat = v.toBitVec.toNat % 256 := by
    rw [Int32.toBitVec_and, BitVec.toNat_and]
    exact Nat.and_two_pow_sub_one_eq_mod _ 8
  have a : (v &&& 255).toInt = (v &&& 255).toBitVec.toInt := rfl
  have b : v.toInt = v.toBitVec.toInt := rfl
  have l := v.toBitVec.isLt
  rw [a, b, BitVec.toInt_eq_toNat_cond, BitVec.toInt_eq_toNat_cond, h]
  split <;> split <;> omega
/-- a row of numbers, changed at one place -/
def xUp (F : Int → Int) (e v : Int) : Int → Int := fun j => if j = e then v else F j
def xRw (f : Nat → Int32) (F : Int → Int) (n : Int) : Prop := ∀ e : Int, 0 ≤ e → e < n → gz f e = F e
theorem xRw.up {f g : Nat → Int32} {F : Int → Int} {n e v : Int} (h : xRw f F n) (hg : g = upd f (iZ e).toNatClampNeg (iZ v)) (he : 0 ≤ e ∧ e < 2147483648) (hv : -2147483648 ≤ v ∧ v < 2147483648) : xRw g (xUp F e v) n := fun j h1 h2 => by
  rw [gz_up hg he hv h1]
  unfold xUp
  by_cases q : j = e
  · rw [if_pos q, if_pos q]
  · rw [if_neg q, if_neg q]; exact h j h1 h2
/-- names by their codes -/
def xNs (g : Nat → Int64) (N : Int → Int) (n : Int) : Prop := ∀ k : Int, 0 ≤ k → k < n → g k.toNat = lZ (N k) ∧ 0 ≤ N k ∧ N k < 1099511627776
def isFn (N : Int → Int) (n c z : Int) : Prop := (z = -1 ∧ ∀ j : Int, 0 ≤ j → j < n → ¬ N j = c) ∨ (0 ≤ z ∧ z < n ∧ N z = c ∧ ∀ j : Int, 0 ≤ j → j < z → ¬ N j = c)
noncomputable def xFn (N : Int → Int) (n c : Int) : Int := Classical.epsilon (isFn N n c)
theorem xFn_eq {N : Int → Int} {n c z : Int} (h : isFn N n c z) : z = xFn N n c := by
  have g : isFn N n c (xFn N n c) := Classical.epsilon_spec ⟨z, h⟩
  rcases h with ⟨a, b⟩ | ⟨a1, a2, a3, a4⟩ <;> rcases g with ⟨d, e⟩ | ⟨d1, d2, d3, d4⟩
  · rw [a, d]
  · exact absurd d3 (b _ d1 d2)
  · exact absurd a3 (e _ a1 a2)
  · rcases Int.lt_trichotomy z (xFn N n c) with q | q | q
    · exact absurd a3 (d4 _ a1 q)
    · exact q
    · exact absurd d3 (a4 _ d1 q)
theorem isNm_fn {g : Nat → Int64} {N : Int → Int} {n c z : Int} {v : Int64} (hN : xNs g N n) (hv : v = lZ c) (hc : -1 ≤ c ∧ c < 1099511627776) (h : isNm g n v z) : z = xFn N n c := by
  have q : ∀ j : Int, 0 ≤ j → j < n → (g j.toNat = v ↔ N j = c) := fun j h1 h2 => by
    obtain ⟨a, b, d⟩ := hN j h1 h2
    rw [a, hv, lZ_inj ⟨by omega, by omega⟩ ⟨by omega, by omega⟩]
  apply xFn_eq
  rcases h with ⟨a, b⟩ | ⟨a1, a2, a3, a4⟩
  · exact Or.inl ⟨a, fun j h1 h2 e => b j h1 h2 ((q j h1 h2).mpr e)⟩
  · exact Or.inr ⟨a1, a2, (q z a1 a2).mp a3, fun j h1 h2 e => a4 j h1 h2 ((q j h1 (by omega)).mpr e)⟩
theorem xFn_rg {N : Int → Int} {n c z : Int} (h : isFn N n c z) : z = -1 ∨ (0 ≤ z ∧ z < n) := by
  rcases h with ⟨a, -⟩ | ⟨a, b, -⟩
  · exact Or.inl a
  · exact Or.inr ⟨a, b⟩
/-- what a text says: a fault (kind, place), or what comes of it -/
def xBn {α β : Type} (r : (Int × Int) ⊕ α) (f : α → (Int × Int) ⊕ β) : (Int × Int) ⊕ β := match r with
  | .inl e => .inl e
  | .inr a => f a
theorem xBn_l {α β : Type} {r : (Int × Int) ⊕ α} {e : Int × Int} {f : α → (Int × Int) ⊕ β} (h : r = .inl e) : xBn r f = .inl e := by rw [h]; rfl
theorem xBn_r {α β : Type} {r : (Int × Int) ⊕ α} {a : α} {f : α → (Int × Int) ⊕ β} (h : r = .inr a) : xBn r f = f a := by rw [h]; rfl
abbrev xIn (T : Int → Int) (p : Int) : Prop := xKd T p = 1 ∧ xKw T p = -1 ∧ ¬ xNm T p = -1
noncomputable def xFl (T : Int → Int) (p w : Int) : Int := if xKd T p = 4 then 1 else w
noncomputable def xEr (T : Int → Int) (p w : Int) : Int × Int := (xFl T p w, xPl T p)
noncomputable def xTw (T : Int → Int) (w p : Int) : (Int × Int) ⊕ Int := if xKw T p = w then .inr (xEn T p) else .inl (xEr T p 2)
noncomputable def xTs (T : Int → Int) (c p : Int) : (Int × Int) ⊕ Int := if xKd T p = 3 ∧ xVl T p = c then .inr (xEn T p) else .inl (xEr T p 2)
noncomputable def xTn (T : Int → Int) (lo hi p : Int) : (Int × Int) ⊕ (Int × Int) := if xKd T p = 2 ∧ lo ≤ xVl T p ∧ xVl T p ≤ hi then .inr (xEn T p, xVl T p) else .inl (xEr T p (if xKd T p = 2 then 4 else 2))
noncomputable def xRk (T : Int → Int) (N : Int → Int) (n p : Int) : Int := if xIn T p then xFn N n (xNm T p) else -1
noncomputable def xTr (T : Int → Int) (N : Int → Int) (n no p : Int) : (Int × Int) ⊕ (Int × Int) := if xRk T N n p = -1 then .inl (xEr T p (if xIn T p then 3 else 2)) else if xRk T N n p = no then .inl (xEr T p 5) else .inr (xEn T p, xRk T N n p)
noncomputable def xNn (T : Int → Int) (N : Int → Int) (n p : Int) : (Int × Int) ⊕ Int := if xIn T p then (if xFn N n (xNm T p) = -1 then .inr (xEn T p) else .inl (xEr T p 3)) else .inl (xEr T p 2)
/-- a fact of the rock that is told: its word, its number -/
noncomputable def xFF (T : Int → Int) (w what lo hi n p : Int) (F : Int → Int) : (Int × Int) ⊕ (Int × (Int → Int)) := xBn (xTw T w p) fun q => xBn (xTn T lo hi q) fun a => .inr (a.1, xUp F ((n * 6) + what) a.2)
noncomputable def xOF (T : Int → Int) (w what lo hi n p : Int) (F : Int → Int) : (Int × Int) ⊕ (Int × (Int → Int)) := if xKw T p = w then xFF T w what lo hi n p F else .inr (p, F)
def xOr (we n : Int) : Int := (iZ we ||| (iZ 1 <<< (iZ n &&& 31))).toInt
noncomputable def xPr (T : Int → Int) (n p : Int) (F : Int → Int) : (Int × Int) ⊕ (Int × (Int → Int)) := if xKw T p = 5 then xBn (xFF T 5 4 0 99 n p F) fun a => xOF T 6 5 0 20 n a.1 a.2 else .inr (p, F)
noncomputable def xWe (T : Int → Int) (n we p : Int) : Int × Int := if xKw T p = 7 then (xEn T p, xOr we n) else (p, we)
/-- a rock, from its word on: cursor, who wears, facts -/
noncomputable def xR5 (T : Int → Int) (n we p : Int) (F : Int → Int) : (Int × Int) ⊕ (Int × Int × (Int → Int)) := xBn (xTs T 59 (xWe T n we p).1) fun q => .inr (q, (xWe T n we p).2, F)
noncomputable def xR4 (T : Int → Int) (n we p : Int) (F : Int → Int) : (Int × Int) ⊕ (Int × Int × (Int → Int)) := xBn (xPr T n p F) fun e => xR5 T n we e.1 e.2
noncomputable def xR3 (T : Int → Int) (n we p : Int) (F : Int → Int) : (Int × Int) ⊕ (Int × Int × (Int → Int)) := xBn (xOF T 4 3 0 9 n p F) fun d => xR4 T n we d.1 d.2
noncomputable def xRock (T : Int → Int) (N : Int → Int) (n we : Int) (F : Int → Int) (p : Int) : (Int × Int) ⊕ (Int × Int × (Int → Int)) :=
  if 6 ≤ n then .inl (xEr T p 6) else
  xBn (xNn T N n (xEn T p)) fun q => xBn (xFF T 1 0 0 20 n q F) fun a => xBn (xFF T 2 1 1 99 n a.1 a.2) fun b => xBn (xFF T 3 2 0 11 n b.1 b.2) fun c => xR3 T n we c.1 c.2
noncomputable def xIce (T : Int → Int) (N : Int → Int) (n ni : Int) (G : Int → Int) (p : Int) : (Int × Int) ⊕ (Int × (Int → Int)) :=
  if 8 ≤ ni then .inl (xEr T p 6) else
  xBn (xTr T N n (-1) (xEn T p)) fun a => xBn (xTr T N n a.2 a.1) fun b => xBn (xTw T 9 b.1) fun q => xBn (xTn T 0 400 q) fun c => xBn (xTw T 10 c.1) fun q => xBn (xTn T c.2 400 q) fun d => xBn (xTs T 59 d.1) fun q =>
  .inr (q, xUp (xUp (xUp (xUp G ((ni * 4) + 0) a.2) ((ni * 4) + 1) b.2) ((ni * 4) + 2) c.2) ((ni * 4) + 3) d.2)
def xLo (k : Int) : Int := if k = 12 then 0 else if k = 13 then 1 else if k = 4 then 2 else if k = 14 then 3 else -1
noncomputable def xLaw (T : Int → Int) (lt p : Int) : (Int × Int) ⊕ (Int × Int) :=
  if lt = 1 then .inl (xEr T p 5) else if xLo (xKw T (xEn T p)) = -1 then .inl (xEr T (xEn T p) 2) else xBn (xTs T 59 (xEn T (xEn T p))) fun q => .inr (q, xLo (xKw T (xEn T p)))
/-- a sky that is read: rocks, ices, law, who wears, law told, facts, ices' facts, names -/
abbrev XS : Type := Int × Int × Int × Int × Int × (Int → Int) × (Int → Int) × (Int → Int)
noncomputable def xPart (T : Int → Int) (p : Int) (s : XS) : (Int × Int) ⊕ (Int × XS) := match s with
  | (n, ni, lw, we, lt, F, G, N) =>
    if xKw T p = 0 then xBn (xRock T N n we F p) fun a => .inr (a.1, (n + 1, ni, lw, a.2.1, lt, a.2.2, G, xUp N n (xNm T (xEn T p))))
    else if xKw T p = 8 then xBn (xIce T N n ni G p) fun a => .inr (a.1, (n, ni + 1, lw, we, lt, F, a.2, N))
    else if xKw T p = 11 then xBn (xLaw T lt p) fun a => .inr (a.1, (n, ni, a.2, we, 1, F, G, N))
    else .inl (xEr T p 2)
noncomputable def xAll (T : Int → Int) : Nat → Int → XS → (Int × Int) ⊕ (Int × XS)
  | 0, _, _ => .inl (0, 0)
  | k + 1, p, s => if xKd T p = 0 then .inr (p, s) else xBn (xPart T p s) fun a => xAll T k a.1 a.2
def xS0 : XS := (0, 0, 0, 0, 0, fun _ => 0, fun _ => 0, fun _ => 0)
theorem xAll_part {T : Int → Int} {i p q : Int} {s t : XS} {r : (Int × Int) ⊕ (Int × XS)} (hi : 0 ≤ i ∧ i < 990) (h : r = xAll T (1000 - i).toNat p s) (hk : ¬ xKd T p = 0) (hp : xPart T p s = .inr (q, t)) : r = xAll T (1000 - (i + 1)).toNat q t := by
  rw [h, show (1000 - i).toNat = (1000 - (i + 1)).toNat + 1 by omega]
  show (if xKd T p = 0 then _ else _) = _
  rw [if_neg hk]
  exact xBn_r hp
theorem xAll_fault {T : Int → Int} {i p : Int} {s : XS} {e : Int × Int} {r : (Int × Int) ⊕ (Int × XS)} (hi : 0 ≤ i ∧ i < 990) (h : r = xAll T (1000 - i).toNat p s) (hk : ¬ xKd T p = 0) (hp : xPart T p s = .inl e) : r = .inl e := by
  rw [h, show (1000 - i).toNat = (1000 - (i + 1)).toNat + 1 by omega]
  show (if xKd T p = 0 then _ else _) = _
  rw [if_neg hk]
  exact xBn_l hp
theorem xAll_end {T : Int → Int} {i p : Int} {s : XS} {r : (Int × Int) ⊕ (Int × XS)} (hi : 0 ≤ i ∧ i < 990) (h : r = xAll T (1000 - i).toNat p s) (hk : xKd T p = 0) : r = .inr (p, s) := by
  rw [h, show (1000 - i).toNat = (1000 - (i + 1)).toNat + 1 by omega]
  show (if xKd T p = 0 then _ else _) = _
  rw [if_pos hk]
theorem RDX.nx {T : Int → Int} {p pl en ki va ke a b c d e : Int} {nm f : Int64} (h : RDX T p pl en ki va ke nm) (g : RDX T en a b c d e f) : RDX T (xEn T p) a b c d e f := by
  rw [← h.2.1]; exact g
theorem RFX.nx {T : Int → Int} {p pl en ki va a b c d : Int} (h : RFX T p pl en ki va) (g : RFX T en a b c d) : RFX T (xEn T p) a b c d := by
  rw [← h.2.1]; exact g
theorem xNm_rg {T : Int → Int} {p : Int} (h : xLet T (xPl T p) (xLn T p)) (hl : xPl T p ≤ xEn T p) : -1 ≤ xNm T p ∧ xNm T p < 1099511627776 := by
  unfold xNm xCw
  split
  · have := xCd_8 (n := (xEn T p - xPl T p).toNat) (by omega) h
    omega
  · omega
theorem xLet_rn {T : Int → Int} {a e : Int} (h : isRn smB T a e) : xLet T a (e - a).toNat := fun j h1 h2 => h.2.1 j h1 (by have := h.1; omega)
theorem xCw_rg {T : Int → Int} {a e : Int} (h : isRn smB T a e) : -1 ≤ xCw T a e ∧ xCw T a e < 1099511627776 := by
  unfold xCw
  split
  · have := xCd_8 (n := (e - a).toNat) (by have := h.1; omega) (xLet_rn h)
    omega
  · omega
theorem xCw_z {T : Int → Int} {a e : Int} {c : Int64} (h : (e - a ≤ 8 → c = lZ (xCd T a (e - a).toNat)) ∧ (8 < e - a → c = lZ (-1))) : c = lZ (xCw T a e) := by
  unfold xCw
  split
  · exact h.1 (by omega)
  · exact h.2 (by omega)
theorem wd_step {T : Int → Int} {a e t : Int} (h : a ≤ e) (ht : t = T e) : lZ (xCd T a (e - a).toNat) * 32 + lZ t - 97 + 1 = lZ (xCd T a (e + 1 - a).toNat) := by
  rw [← xCd_step (e := e) h rfl, show (32 : Int64) = lZ 32 from rfl, show (97 : Int64) = lZ 97 from rfl, show (1 : Int64) = lZ 1 from rfl, lZ_mul, lZ_add, lZ_sub, lZ_add, ht]
  congr 1
  omega
theorem kwu_step {c j : Int} (hj : 0 ≤ j) : kwu c (j + 1).toNat = if kwC j.toNat = c then j else kwu c j.toNat := by
  rw [show (j + 1).toNat = j.toNat + 1 by omega]
  show (if kwC j.toNat = c then ((j.toNat : Nat) : Int) else kwu c j.toNat) = _
  rw [show ((j.toNat : Nat) : Int) = j by omega]
theorem kw_eq {kwf : Nat → Int64} {j c : Int} {y cd : Int64} (hk : ∀ j : Nat, j < 25 → kwf j = lZ (kwC j)) (hj : 0 ≤ j ∧ j < 25) (ey : y = kwf (iZ j).toNatClampNeg) (hc : cd = lZ c) (hr : -1 ≤ c ∧ c < 1099511627776) : y.toInt = cd.toInt ↔ kwC j.toNat = c := by
  have p := kw_pos ⟨j.toNat, by omega⟩
  have p : 0 < kwC j.toNat ∧ kwC j.toNat < 1099511627776 := p
  rw [ey, zcl ⟨by omega, by omega⟩, hk j.toNat (by omega), hc, lZ_ti ⟨by omega, by omega⟩, lZ_ti ⟨by omega, by omega⟩]
theorem kw_kd {T : Int → Int} {p : Int} (h : ¬ xKw T p = -1) : xKd T p = 1 := by
  have c : smB (xCh T p) := by
    by_cases g : smB (xCh T p)
    · exact g
    · exact absurd (by unfold xKw; rw [if_neg g]) h
  have c2 : 97 ≤ xCh T p ∧ xCh T p ≤ 122 := c
  unfold xKd
  rw [if_neg (by omega), if_pos c]
theorem nm_m1 {nm : Int64} {x : Int} (h : nm = lZ x) (hr : -1 ≤ x ∧ x < 1099511627776) : nm.toInt = (-1 : Int64).toInt ↔ x = -1 := by
  rw [h, lZ_ti ⟨by omega, by omega⟩, show (-1 : Int64).toInt = -1 from rfl]
theorem xNs.up {g h : Nat → Int64} {N : Int → Int} {n c : Int} {v : Int64} (hN : xNs g N n) (hn : 0 ≤ n ∧ n < 100) (hh : h = vp_updL g (iZ n).toNatClampNeg v) (hv : v = lZ c) (hc : 0 ≤ c ∧ c < 1099511627776) : xNs h (xUp N n c) (n + 1) := fun k h1 h2 => by
  rw [hh, zcl ⟨by omega, by omega⟩]
  unfold xUp vp_updL
  by_cases q : k = n
  · rw [if_pos (by omega), if_pos q]; exact ⟨hv, hc⟩
  · rw [if_neg (by omega), if_neg q]; exact hN k h1 (by omega)
theorem xR5_w {T : Int → Int} {n we p q w : Int} {F : Int → Int} (h : xWe T n we p = (q, w)) : xR5 T n we p F = xBn (xTs T 59 q) fun r => .inr (r, w, F) := by unfold xR5; rw [h]
theorem xOr_eq {we n zs z : Int} (h1 : iZ zs = iZ 1 <<< (iZ n &&& 31)) (h2 : iZ z = iZ we ||| iZ zs) (hz : -2147483648 ≤ z ∧ z < 2147483648) : z = xOr we n := by
  unfold xOr
  rw [← h1, ← h2, iZ_ti hz]
theorem xIce_rw {g g1 g2 g3 g4 : Nat → Int32} {G : Int → Int} {ni a b c d : Int} (h : xRw g G (ni * 4)) (hn : 0 ≤ ni ∧ ni < 100) (h1 : g1 = upd g (iZ ((ni * 4) + 0)).toNatClampNeg (iZ a)) (h2 : g2 = upd g1 (iZ ((ni * 4) + 1)).toNatClampNeg (iZ b)) (h3 : g3 = upd g2 (iZ ((ni * 4) + 2)).toNatClampNeg (iZ c)) (h4 : g4 = upd g3 (iZ ((ni * 4) + 3)).toNatClampNeg (iZ d)) (ha : -2147483648 ≤ a ∧ a < 2147483648) (hb : -2147483648 ≤ b ∧ b < 2147483648) (hc : -2147483648 ≤ c ∧ c < 2147483648) (hd : -2147483648 ≤ d ∧ d < 2147483648) : xRw g4 (xUp (xUp (xUp (xUp G ((ni * 4) + 0) a) ((ni * 4) + 1) b) ((ni * 4) + 2) c) ((ni * 4) + 3) d) ((ni + 1) * 4) := fun e e1 e2 => by
  rw [gz_up h4 ⟨by omega, by omega⟩ hd e1, gz_up h3 ⟨by omega, by omega⟩ hc e1, gz_up h2 ⟨by omega, by omega⟩ hb e1, gz_up h1 ⟨by omega, by omega⟩ ha e1]
  unfold xUp
  by_cases q3 : e = (ni * 4) + 3
  · rw [if_pos q3, if_pos q3]
  · rw [if_neg q3, if_neg q3]
    by_cases q2 : e = (ni * 4) + 2
    · rw [if_pos q2, if_pos q2]
    · rw [if_neg q2, if_neg q2]
      by_cases q1 : e = (ni * 4) + 1
      · rw [if_pos q1, if_pos q1]
      · rw [if_neg q1, if_neg q1]
        by_cases q0 : e = (ni * 4) + 0
        · rw [if_pos q0, if_pos q0]
        · rw [if_neg q0, if_neg q0]
          exact h e e1 (by omega)
/-- what sky() answers -/
def xSky (r : (Int × Int) ⊕ (Int × XS)) : Int := match r with
  | .inl _ => -1
  | .inr a => a.2.1
/-- a sky's cells hold what was read -/
def SKX (s : XS) (n ni lw we : Int) (f g : Nat → Int32) (nf : Nat → Int64) : Prop := s.1 = n ∧ s.2.1 = ni ∧ s.2.2.1 = lw ∧ s.2.2.2.1 = we ∧ xRw f s.2.2.2.2.2.1 36 ∧ xRw g s.2.2.2.2.2.2.1 (ni * 4) ∧ xNs nf s.2.2.2.2.2.2.2 n
theorem rn_lt {P : Int → Prop} {T : Int → Int} {cu q : Int} (h : isRn P T cu q) (hp : P (T cu)) : cu < q := by
  rcases Int.lt_or_eq_of_le h.1 with a | a
  · exact a
  · exact absurd (a ▸ hp) h.2.2
end

section
/-- the first of the least, of n but r -/
def isFB (g : Int → Int) (r n z : Int) : Prop := (z = -1 ∧ ∀ j : Int, 0 ≤ j → j < n → j = r) ∨ ((0 ≤ z ∧ z < n ∧ ¬ z = r) ∧ ∀ j : Int, 0 ≤ j → j < n → ¬ j = r → g z ≤ g j ∧ (j < z → g z < g j))
theorem isFB_0 {g : Int → Int} {r : Int} : isFB g r 0 (-1) := Or.inl ⟨rfl, fun j h1 h2 => absurd h1 (by omega)⟩
theorem isFB_1 {g : Int → Int} {r o z : Int} (h : isFB g r o z) (e : o = r) : isFB g r (o + 1) z := by
  rcases h with ⟨a, b⟩ | ⟨a, b⟩
  · refine Or.inl ⟨a, fun j h1 h2 => ?_⟩
    rcases Int.lt_or_eq_of_le (show j ≤ o by omega) with q | q
    · exact b j h1 q
    · rw [q]; exact e
  · refine Or.inr ⟨⟨a.1, by omega, a.2.2⟩, fun j h1 h2 h3 => ?_⟩
    rcases Int.lt_or_eq_of_le (show j ≤ o by omega) with q | q
    · exact b j h1 q h3
    · exact absurd (q.trans e) h3
theorem isFB_2 {g : Int → Int} {r o z : Int} (h : isFB g r o z) (ho : 0 ≤ o) (e : ¬ o = r) (c : z = -1 ∨ g o < g z) : isFB g r (o + 1) o := by
  refine Or.inr ⟨⟨ho, by omega, e⟩, fun j h1 h2 h3 => ?_⟩
  rcases Int.lt_or_eq_of_le (show j ≤ o by omega) with q | q
  · rcases h with ⟨a, b⟩ | ⟨a, b⟩
    · exact absurd (b j h1 q) h3
    · have := b j h1 q h3
      have c2 : g o < g z := by
        rcases c with c | c
        · omega
        · exact c
      exact ⟨by omega, fun _ => by omega⟩
  · rw [q]; exact ⟨Int.le_refl _, fun k => absurd k (by omega)⟩
theorem isFB_3 {g : Int → Int} {r o z : Int} (h : isFB g r o z) (c : ¬ z = -1) (d : ¬ g o < g z) : isFB g r (o + 1) z := by
  rcases h with ⟨a, b⟩ | ⟨a, b⟩
  · exact absurd a c
  · refine Or.inr ⟨⟨a.1, by omega, a.2.2⟩, fun j h1 h2 h3 => ?_⟩
    rcases Int.lt_or_eq_of_le (show j ≤ o by omega) with q | q
    · exact b j h1 q h3
    · rw [q]; exact ⟨by omega, fun k => absurd k (by omega)⟩
theorem isFB_n {g : Int → Int} {r o n z : Int} (h : isFB g r o z) (e : o = n) : isFB g r n z := by rw [← e]; exact h
/-- how many WEEKS of k from x on see two ROCKS in one DIRECTION -/
def mtC (f : Nat → Int32) (a b x : Int) : Nat → Int
  | 0 => 0
  | k + 1 => mtC f a b x k + (if hd f a (x + k) = hd f b (x + k) then 1 else 0)
theorem mtC_0 {f : Nat → Int32} {a b x : Int} : mtC f a b x (x - x).toNat = 0 := by rw [show (x - x).toNat = 0 by omega]; rfl
theorem mtC_s {f : Nat → Int32} {a b x w : Int} (h : x ≤ w) : mtC f a b x (w + 1 - x).toNat = mtC f a b x (w - x).toNat + (if hd f a w = hd f b w then 1 else 0) := by
  rw [show (w + 1 - x).toNat = (w - x).toNat + 1 by omega]
  show mtC f a b x (w - x).toNat + (if hd f a (x + ((w - x).toNat : Int)) = hd f b (x + ((w - x).toNat : Int)) then 1 else 0) = _
  rw [show x + ((w - x).toNat : Int) = w by omega]
/-- the first WEEK from x to 400 in which two ROCKS are no more than l apart -/
def isCs (f : Nat → Int32) (a b x l z : Int) : Prop := ((x ≤ z ∧ z ≤ 400) ∧ lt f a z b z ≤ l ∧ ∀ t : Int, x ≤ t → t < z → ¬ lt f a t b t ≤ l) ∨ (z = -1 ∧ ∀ t : Int, x ≤ t → t ≤ 400 → ¬ lt f a t b t ≤ l)
/-- when a SHIP is there; its GAIN -/
noncomputable def ldF (f : Nat → Int32) (a w b : Int) : Int := Classical.epsilon (isLd f a w b)
theorem isLd_eq {f : Nat → Int32} {a w b t u : Int} (h : isLd f a w b t) (g : isLd f a w b u) : t = u := by
  unfold isLd at h g
  by_cases e : a = b
  · rw [if_pos e] at h g; omega
  · rw [if_neg e] at h g
    obtain ⟨h1, h2, h3, h4⟩ := h
    obtain ⟨g1, g2, g3, g4⟩ := g
    rcases Int.lt_trichotomy t u with q | q | q
    · exact absurd h3 (g4 t h1 q)
    · exact q
    · exact absurd g3 (h4 u g1 q)
theorem ldF_eq {f : Nat → Int32} {a w b t : Int} (h : isLd f a w b t) : t = ldF f a w b := isLd_eq h (Classical.epsilon_spec (p := isLd f a w b) ⟨t, h⟩)
noncomputable def gvF (f : Nat → Int32) (a w b : Int) : Int := pr f b (ldF f a w b) - pr f a w
theorem gvF_eq {f : Nat → Int32} {a w b z : Int} (h : ∃ t : Int, isLd f a w b t ∧ z = pr f b t - pr f a w) : z = gvF f a w b := by
  obtain ⟨t, h1, h2⟩ := h
  unfold gvF
  rw [← ldF_eq h1]
  exact h2
/-- the greatest LIGHT of the couples that were looked at -/
def isSp (f : Nat → Int32) (w n a b m : Int) : Prop := (∀ i j : Int, 0 ≤ i → i < j → j < n → (i < a ∨ (i = a ∧ j < b)) → lt f i w j w ≤ m) ∧ (m = 0 ∨ ∃ i j : Int, (0 ≤ i ∧ i < j ∧ j < n) ∧ m = lt f i w j w)
theorem isSp_0 {f : Nat → Int32} {w n : Int} : isSp f w n 0 0 0 := ⟨fun i j h1 h2 h3 h4 => by omega, Or.inl rfl⟩
theorem isSp_i {f : Nat → Int32} {w n a m : Int} (h : isSp f w n a 0 m) (ha : 0 ≤ a) : isSp f w n a (a + 1) m := ⟨fun i j h1 h2 h3 h4 => h.1 i j h1 h2 h3 (by omega), h.2⟩
theorem isSp_s {f : Nat → Int32} {w n a b m : Int} (h : isSp f w n a b m) (ha : 0 ≤ a ∧ a < b ∧ b < n) : isSp f w n a (b + 1) (max m (lt f a w b w)) := by
  refine ⟨fun i j h1 h2 h3 h4 => ?_, ?_⟩
  · by_cases q : i = a ∧ j = b
    · rw [q.1, q.2]; omega
    · have := h.1 i j h1 h2 h3 (by omega)
      omega
  · rcases Decidable.em (m < lt f a w b w) with q | q
    · exact Or.inr ⟨a, b, ha, by omega⟩
    · rw [show max m (lt f a w b w) = m by omega]; exact h.2
theorem isSp_o {f : Nat → Int32} {w n a b m : Int} (h : isSp f w n a b m) (hb : n ≤ b) : isSp f w n (a + 1) 0 m := ⟨fun i j h1 h2 h3 h4 => h.1 i j h1 h2 h3 (by omega), h.2⟩
def isSr (f : Nat → Int32) (w n a b m : Int) : Prop := (∀ i j : Int, 0 ≤ j → j < i → i < n → (i < a ∨ (i = a ∧ j < b)) → lt f i w j w ≤ m) ∧ (m = 0 ∨ ∃ i j : Int, (0 ≤ j ∧ j < i ∧ i < n) ∧ m = lt f i w j w)
theorem isSr_0 {f : Nat → Int32} {w n : Int} : isSr f w n 0 0 0 := ⟨fun i j h1 h2 h3 h4 => by omega, Or.inl rfl⟩
theorem isSr_s {f : Nat → Int32} {w n a b m : Int} (h : isSr f w n a b m) (ha : 0 ≤ b ∧ b < a ∧ a < n) : isSr f w n a (b + 1) (max m (lt f a w b w)) := by
  refine ⟨fun i j h1 h2 h3 h4 => ?_, ?_⟩
  · by_cases q : i = a ∧ j = b
    · rw [q.1, q.2]; omega
    · have := h.1 i j h1 h2 h3 (by omega)
      omega
  · rcases Decidable.em (m < lt f a w b w) with q | q
    · exact Or.inr ⟨a, b, ha, by omega⟩
    · rw [show max m (lt f a w b w) = m by omega]; exact h.2
theorem isSr_o {f : Nat → Int32} {w n a b m : Int} (h : isSr f w n a b m) (hb : a ≤ b) : isSr f w n (a + 1) 0 m := ⟨fun i j h1 h2 h3 h4 => h.1 i j h1 h2 h3 (by omega), h.2⟩
/-- when what is sent so slowly is there: the first such week -/
def isCm (f : Nat → Int32) (a w b sl t : Int) : Prop := w ≤ t ∧ sl * lt f a w b t ≤ t - w ∧ ∀ s : Int, w ≤ s → s < t → ¬ sl * lt f a w b s ≤ s - w
noncomputable def cmF (f : Nat → Int32) (a w b sl : Int) : Int := Classical.epsilon (isCm f a w b sl)
theorem cmF_eq {f : Nat → Int32} {a w b sl t : Int} (h : isCm f a w b sl t) : t = cmF f a w b sl := by
  have g : isCm f a w b sl (cmF f a w b sl) := Classical.epsilon_spec ⟨t, h⟩
  rcases Int.lt_trichotomy t (cmF f a w b sl) with q | q | q
  · exact absurd h.2.1 (g.2.2 t h.1 q)
  · exact q
  · exact absurd g.2.1 (h.2.2 _ g.1 q)
/-- when light arrives; 1000000: never -/
noncomputable def arF (f g : Nat → Int32) (ni a w b : Int) : Int := if a = b then w else if 400 < w then 1000000 else if bz (isIc g ni a b w) = 1 then 1000000 else cmF f a w b 1
/-- the latest week of which something is there -/
def isSn (f g : Nat → Int32) (ni r o w z : Int) : Prop := (-1 ≤ z ∧ z ≤ w) ∧ (0 ≤ z → arF f g ni o z r ≤ w) ∧ ∀ u : Int, z < u → u ≤ w → ¬ arF f g ni o u r ≤ w
noncomputable def snF (f g : Nat → Int32) (ni r o w : Int) : Int := Classical.epsilon (isSn f g ni r o w)
theorem bz_rg (P : Prop) : bz P = 0 ∨ bz P = 1 := by
  rcases Classical.em P with h | h
  · exact Or.inr (bz_t h)
  · exact Or.inl (bz_f h)
theorem snF_eq {f g : Nat → Int32} {ni r o w z : Int} (h : isSn f g ni r o w z) : z = snF f g ni r o w := by
  have q : isSn f g ni r o w (snF f g ni r o w) := Classical.epsilon_spec ⟨z, h⟩
  obtain ⟨h1, h2, h3⟩ := h
  obtain ⟨q1, q2, q3⟩ := q
  rcases Int.lt_trichotomy z (snF f g ni r o w) with c | c | c
  · exact absurd (q2 (by omega)) (h3 _ c (by omega))
  · exact c
  · exact absurd (h2 (by omega)) (q3 _ c (by omega))
end

section
theorem qf_X0_9 : Cond.fieldLink RX0 9 "SlowWorlds$Course" "worn" "[I" ∈ gw := tbt (tb1 (List.mem_of_getElem? (i := 90) rfl)) rfl
theorem iX0 : ∀ w ∈ u_ws RX0 TX0 6, w ∈ gw := by
  intro w hw
  obtain ⟨k, hk, rfl⟩ := List.mem_map.mp hw
  have hk := List.mem_range.mp hk
  match k, hk with
  | 0, _ => exact tbt (tb1 (List.mem_of_getElem? (i := 110) rfl)) rfl
  | 1, _ => exact tbt (tb1 (List.mem_of_getElem? (i := 112) rfl)) rfl
  | 2, _ => exact tbt (tb1 (List.mem_of_getElem? (i := 114) rfl)) rfl
  | 3, _ => exact tbt (tb1 (List.mem_of_getElem? (i := 116) rfl)) rfl
  | 4, _ => exact tbt (tb1 (List.mem_of_getElem? (i := 118) rfl)) rfl
  | 5, _ => exact tbt (tb1 (List.mem_of_getElem? (i := 120) rfl)) rfl
  | (k + 6), hk => exact absurd hk (by omega)
theorem qf_X0_24 : Cond.fieldLink RX0 24 "SlowWorlds$Course" "week" "I" ∈ gw := tbt (tb1 (List.mem_of_getElem? (i := 103) rfl)) rfl
theorem qf_X0_21 : Cond.fieldLink RX0 21 "SlowWorlds$Course" "known" "[I" ∈ gw := tbt (tb1 (List.mem_of_getElem? (i := 101) rfl)) rfl
theorem qc_X0_firstKnown : Cond.code yX0_firstKnown cX0_firstKnown 3 (some .int) ∈ gw := tbt (tb5 (List.mem_of_getElem? (i := 0) rfl)) rfl
theorem qi_yX0_firstKnown : Cond.instanceMethod yX0_firstKnown ∈ gw := tbt (tb4 (List.mem_of_getElem? (i := 238) rfl)) rfl
theorem qs_X0_firstKnown : Cond.selects (yX0_firstKnown).cls yX0_firstKnown yX0_firstKnown ∈ gw := tbt (tb4 (List.mem_of_getElem? (i := 239) rfl)) rfl
theorem qz_X0 : Cond.initialized RX0 ∈ gw := tbt (tb1 (List.mem_of_getElem? (i := 4) rfl)) rfl
theorem ci_X0_firstKnown : CIv yX0_firstKnown cX0_firstKnown 3 (some .int) 2 := ⟨qc_X0_firstKnown, qi_yX0_firstKnown, qs_X0_firstKnown, qz_X0, by decide +kernel⟩
theorem qm_X0_37 : Cond.methodLink RX0 37 yX0_firstKnown ∈ gw := tbt (tb5 (List.mem_of_getElem? (i := 59) rfl)) rfl
theorem qf_X0_28 : Cond.fieldLink RX0 28 "SlowWorlds$Course" "orders" "I" ∈ gw := tbt (tb1 (List.mem_of_getElem? (i := 106) rfl)) rfl
theorem qf_X7_15 : Cond.fieldLink RX7 15 "SlowWorlds$Tray" "many" "I" ∈ gw := tbt (tb2 (List.mem_of_getElem? (i := 187) rfl)) rfl
theorem iX7 : ∀ w ∈ u_ws RX7 TX7 3, w ∈ gw := by
  intro w hw
  obtain ⟨k, hk, rfl⟩ := List.mem_map.mp hw
  have hk := List.mem_range.mp hk
  match k, hk with
  | 0, _ => exact tbt (tb2 (List.mem_of_getElem? (i := 189) rfl)) rfl
  | 1, _ => exact tbt (tb2 (List.mem_of_getElem? (i := 191) rfl)) rfl
  | 2, _ => exact tbt (tb2 (List.mem_of_getElem? (i := 193) rfl)) rfl
  | (k + 3), hk => exact absurd hk (by omega)
theorem qf_X7_19 : Cond.fieldLink RX7 19 "SlowWorlds$Tray" "sort" "I" ∈ gw := tbt (tb2 (List.mem_of_getElem? (i := 185) rfl)) rfl
theorem qf_X7_9 : Cond.fieldLink RX7 9 "SlowWorlds$Tray" "numbers" "[J" ∈ gw := tbt (tb2 (List.mem_of_getElem? (i := 183) rfl)) rfl
theorem qf_X9_35 : Cond.fieldLink RX9 35 "SlowWorlds$Years" "rows" "I" ∈ gw := tbt (tb1 (List.mem_of_getElem? (i := 149) rfl)) rfl
theorem iX9 : ∀ w ∈ u_ws RX9 TX9 8, w ∈ gw := by
  intro w hw
  obtain ⟨k, hk, rfl⟩ := List.mem_map.mp hw
  have hk := List.mem_range.mp hk
  match k, hk with
  | 0, _ => exact tbt (tb1 (List.mem_of_getElem? (i := 151) rfl)) rfl
  | 1, _ => exact tbt (tb1 (List.mem_of_getElem? (i := 153) rfl)) rfl
  | 2, _ => exact tbt (tb1 (List.mem_of_getElem? (i := 155) rfl)) rfl
  | 3, _ => exact tbt (tb1 (List.mem_of_getElem? (i := 157) rfl)) rfl
  | 4, _ => exact tbt (tb1 (List.mem_of_getElem? (i := 159) rfl)) rfl
  | 5, _ => exact tbt (tb1 (List.mem_of_getElem? (i := 161) rfl)) rfl
  | 6, _ => exact tbt (tb1 (List.mem_of_getElem? (i := 163) rfl)) rfl
  | 7, _ => exact tbt (tb1 (List.mem_of_getElem? (i := 165) rfl)) rfl
  | (k + 8), hk => exact absurd hk (by omega)
theorem qf_X9_11 : Cond.fieldLink RX9 11 "SlowWorlds$Years" "words" "[I" ∈ gw := tbt (tb1 (List.mem_of_getElem? (i := 129) rfl)) rfl
def fb_X0_dress_0 : List UInt8 := [0x2a, 0xb4, 0x00, 0x09, 0x2a, 0xb4, 0x00, 0x18, 0x2a, 0xb4, 0x00, 0x09, 0x2a, 0xb4, 0x00, 0x18, 0x2e, 0x04, 0x1b, 0x78, 0x02, 0x82, 0x7e, 0x1c, 0x1b, 0x78, 0x80, 0x4f, 0xb1]
theorem fl_X0_dress_0 {p j : Nat} {b : UInt8} (e : p = 0 + j) (h : fb_X0_dress_0[j]? = some b) : cX0_dress.data.toList[p]? = some b := fq_l (n := 64) (show (cX0_dress.data.toList.drop 0).take 64 = fb_X0_dress_0 by decide +kernel) e h
theorem dX0_dress_0 : decode cX0_dress 0 = .ok (.aload_n 0, 1) := fq1_42 (fl_X0_dress_0 (j := 0) rfl rfl)
theorem dX0_dress_1 : decode cX0_dress 1 = .ok (.getfield 9, 3) := fq3_180 (fl_X0_dress_0 (j := 1) rfl rfl) (fl_X0_dress_0 (j := 2) rfl rfl) (fl_X0_dress_0 (j := 3) rfl rfl) rfl
theorem dX0_dress_4 : decode cX0_dress 4 = .ok (.aload_n 0, 1) := fq1_42 (fl_X0_dress_0 (j := 4) rfl rfl)
theorem dX0_dress_5 : decode cX0_dress 5 = .ok (.getfield 24, 3) := fq3_180 (fl_X0_dress_0 (j := 5) rfl rfl) (fl_X0_dress_0 (j := 6) rfl rfl) (fl_X0_dress_0 (j := 7) rfl rfl) rfl
theorem dX0_dress_8 : decode cX0_dress 8 = .ok (.aload_n 0, 1) := fq1_42 (fl_X0_dress_0 (j := 8) rfl rfl)
theorem dX0_dress_9 : decode cX0_dress 9 = .ok (.getfield 9, 3) := fq3_180 (fl_X0_dress_0 (j := 9) rfl rfl) (fl_X0_dress_0 (j := 10) rfl rfl) (fl_X0_dress_0 (j := 11) rfl rfl) rfl
theorem dX0_dress_12 : decode cX0_dress 12 = .ok (.aload_n 0, 1) := fq1_42 (fl_X0_dress_0 (j := 12) rfl rfl)
theorem dX0_dress_13 : decode cX0_dress 13 = .ok (.getfield 24, 3) := fq3_180 (fl_X0_dress_0 (j := 13) rfl rfl) (fl_X0_dress_0 (j := 14) rfl rfl) (fl_X0_dress_0 (j := 15) rfl rfl) rfl
theorem dX0_dress_16 : decode cX0_dress 16 = .ok (.iaload, 1) := fq1_46 (fl_X0_dress_0 (j := 16) rfl rfl)
theorem dX0_dress_17 : decode cX0_dress 17 = .ok (.iconst 1, 1) := fq1_4 (fl_X0_dress_0 (j := 17) rfl rfl)
theorem dX0_dress_18 : decode cX0_dress 18 = .ok (.iload_n 1, 1) := fq1_27 (fl_X0_dress_0 (j := 18) rfl rfl)
theorem dX0_dress_19 : decode cX0_dress 19 = .ok (.ishl, 1) := fq1_120 (fl_X0_dress_0 (j := 19) rfl rfl)
theorem dX0_dress_20 : decode cX0_dress 20 = .ok (.iconst (-1), 1) := fq1_2 (fl_X0_dress_0 (j := 20) rfl rfl)
theorem dX0_dress_21 : decode cX0_dress 21 = .ok (.ixor, 1) := fq1_130 (fl_X0_dress_0 (j := 21) rfl rfl)
theorem dX0_dress_22 : decode cX0_dress 22 = .ok (.iand, 1) := fq1_126 (fl_X0_dress_0 (j := 22) rfl rfl)
theorem dX0_dress_23 : decode cX0_dress 23 = .ok (.iload_n 2, 1) := fq1_28 (fl_X0_dress_0 (j := 23) rfl rfl)
theorem dX0_dress_24 : decode cX0_dress 24 = .ok (.iload_n 1, 1) := fq1_27 (fl_X0_dress_0 (j := 24) rfl rfl)
theorem dX0_dress_25 : decode cX0_dress 25 = .ok (.ishl, 1) := fq1_120 (fl_X0_dress_0 (j := 25) rfl rfl)
theorem dX0_dress_26 : decode cX0_dress 26 = .ok (.ior, 1) := fq1_128 (fl_X0_dress_0 (j := 26) rfl rfl)
theorem dX0_dress_27 : decode cX0_dress 27 = .ok (.iastore, 1) := fq1_79 (fl_X0_dress_0 (j := 27) rfl rfl)
theorem dX0_dress_28 : decode cX0_dress 28 = .ok (.return_, 1) := fq1_177 (fl_X0_dress_0 (j := 28) rfl rfl)
def fb_X0_firstKnown_0 : List UInt8 := [0x2a, 0xb4, 0x00, 0x15, 0x1b, 0x10, 0x06, 0x68, 0x1c, 0x60, 0x2e, 0xac]
theorem fl_X0_firstKnown_0 {p j : Nat} {b : UInt8} (e : p = 0 + j) (h : fb_X0_firstKnown_0[j]? = some b) : cX0_firstKnown.data.toList[p]? = some b := fq_l (n := 64) (show (cX0_firstKnown.data.toList.drop 0).take 64 = fb_X0_firstKnown_0 by decide +kernel) e h
theorem dX0_firstKnown_0 : decode cX0_firstKnown 0 = .ok (.aload_n 0, 1) := fq1_42 (fl_X0_firstKnown_0 (j := 0) rfl rfl)
theorem dX0_firstKnown_1 : decode cX0_firstKnown 1 = .ok (.getfield 21, 3) := fq3_180 (fl_X0_firstKnown_0 (j := 1) rfl rfl) (fl_X0_firstKnown_0 (j := 2) rfl rfl) (fl_X0_firstKnown_0 (j := 3) rfl rfl) rfl
theorem dX0_firstKnown_4 : decode cX0_firstKnown 4 = .ok (.iload_n 1, 1) := fq1_27 (fl_X0_firstKnown_0 (j := 4) rfl rfl)
theorem dX0_firstKnown_5 : decode cX0_firstKnown 5 = .ok (.bipush 6, 2) := fq2_16 (fl_X0_firstKnown_0 (j := 5) rfl rfl) (fl_X0_firstKnown_0 (j := 6) rfl rfl) (s1p rfl (bl rfl))
theorem dX0_firstKnown_7 : decode cX0_firstKnown 7 = .ok (.imul, 1) := fq1_104 (fl_X0_firstKnown_0 (j := 7) rfl rfl)
theorem dX0_firstKnown_8 : decode cX0_firstKnown 8 = .ok (.iload_n 2, 1) := fq1_28 (fl_X0_firstKnown_0 (j := 8) rfl rfl)
theorem dX0_firstKnown_9 : decode cX0_firstKnown 9 = .ok (.iadd, 1) := fq1_96 (fl_X0_firstKnown_0 (j := 9) rfl rfl)
theorem dX0_firstKnown_10 : decode cX0_firstKnown 10 = .ok (.iaload, 1) := fq1_46 (fl_X0_firstKnown_0 (j := 10) rfl rfl)
theorem dX0_firstKnown_11 : decode cX0_firstKnown 11 = .ok (.ireturn, 1) := fq1_172 (fl_X0_firstKnown_0 (j := 11) rfl rfl)
def fb_X0_knownAhead_0 : List UInt8 := [0x2a, 0x1b, 0x1c, 0xb6, 0x00, 0x25, 0x3e, 0x03, 0x36, 0x04, 0x03, 0x36, 0x05, 0x15, 0x05, 0x2a, 0xb4, 0x00, 0x1c, 0xa2, 0x00, 0x2d, 0x2a, 0x15, 0x05, 0x1c, 0xb6, 0x00, 0x25, 0x36, 0x06, 0x15, 0x06, 0x02, 0x9f, 0x00, 0x18, 0x15, 0x06, 0x1d, 0xa1, 0x00, 0x0f, 0x15, 0x06, 0x1d, 0xa0, 0x00, 0x0c, 0x15, 0x05, 0x1b, 0xa2, 0x00, 0x06, 0x84, 0x04, 0x01, 0x84, 0x05, 0x01, 0xa7, 0xff, 0xd0]
theorem fl_X0_knownAhead_0 {p j : Nat} {b : UInt8} (e : p = 0 + j) (h : fb_X0_knownAhead_0[j]? = some b) : cX0_knownAhead.data.toList[p]? = some b := fq_l (n := 64) (show (cX0_knownAhead.data.toList.drop 0).take 64 = fb_X0_knownAhead_0 by decide +kernel) e h
theorem dX0_knownAhead_0 : decode cX0_knownAhead 0 = .ok (.aload_n 0, 1) := fq1_42 (fl_X0_knownAhead_0 (j := 0) rfl rfl)
theorem dX0_knownAhead_1 : decode cX0_knownAhead 1 = .ok (.iload_n 1, 1) := fq1_27 (fl_X0_knownAhead_0 (j := 1) rfl rfl)
theorem dX0_knownAhead_2 : decode cX0_knownAhead 2 = .ok (.iload_n 2, 1) := fq1_28 (fl_X0_knownAhead_0 (j := 2) rfl rfl)
theorem dX0_knownAhead_3 : decode cX0_knownAhead 3 = .ok (.invokevirtual 37, 3) := fq3_182 (fl_X0_knownAhead_0 (j := 3) rfl rfl) (fl_X0_knownAhead_0 (j := 4) rfl rfl) (fl_X0_knownAhead_0 (j := 5) rfl rfl) rfl
theorem dX0_knownAhead_6 : decode cX0_knownAhead 6 = .ok (.istore_n 3, 1) := fq1_62 (fl_X0_knownAhead_0 (j := 6) rfl rfl)
theorem dX0_knownAhead_7 : decode cX0_knownAhead 7 = .ok (.iconst 0, 1) := fq1_3 (fl_X0_knownAhead_0 (j := 7) rfl rfl)
theorem dX0_knownAhead_8 : decode cX0_knownAhead 8 = .ok (.istore 4, 2) := fq2_54 (fl_X0_knownAhead_0 (j := 8) rfl rfl) (fl_X0_knownAhead_0 (j := 9) rfl rfl) rfl
theorem dX0_knownAhead_10 : decode cX0_knownAhead 10 = .ok (.iconst 0, 1) := fq1_3 (fl_X0_knownAhead_0 (j := 10) rfl rfl)
theorem dX0_knownAhead_11 : decode cX0_knownAhead 11 = .ok (.istore 5, 2) := fq2_54 (fl_X0_knownAhead_0 (j := 11) rfl rfl) (fl_X0_knownAhead_0 (j := 12) rfl rfl) rfl
theorem dX0_knownAhead_13 : decode cX0_knownAhead 13 = .ok (.iload 5, 2) := fq2_21 (fl_X0_knownAhead_0 (j := 13) rfl rfl) (fl_X0_knownAhead_0 (j := 14) rfl rfl) rfl
theorem dX0_knownAhead_15 : decode cX0_knownAhead 15 = .ok (.aload_n 0, 1) := fq1_42 (fl_X0_knownAhead_0 (j := 15) rfl rfl)
theorem dX0_knownAhead_16 : decode cX0_knownAhead 16 = .ok (.getfield 28, 3) := fq3_180 (fl_X0_knownAhead_0 (j := 16) rfl rfl) (fl_X0_knownAhead_0 (j := 17) rfl rfl) (fl_X0_knownAhead_0 (j := 18) rfl rfl) rfl
theorem dX0_knownAhead_19 : decode cX0_knownAhead 19 = .ok (.if_icmp .ge 45, 3) := fq3_162 (fl_X0_knownAhead_0 (j := 19) rfl rfl) (fl_X0_knownAhead_0 (j := 20) rfl rfl) (fl_X0_knownAhead_0 (j := 21) rfl rfl) (s2p rfl (bl rfl))
theorem dX0_knownAhead_22 : decode cX0_knownAhead 22 = .ok (.aload_n 0, 1) := fq1_42 (fl_X0_knownAhead_0 (j := 22) rfl rfl)
theorem dX0_knownAhead_23 : decode cX0_knownAhead 23 = .ok (.iload 5, 2) := fq2_21 (fl_X0_knownAhead_0 (j := 23) rfl rfl) (fl_X0_knownAhead_0 (j := 24) rfl rfl) rfl
theorem dX0_knownAhead_25 : decode cX0_knownAhead 25 = .ok (.iload_n 2, 1) := fq1_28 (fl_X0_knownAhead_0 (j := 25) rfl rfl)
theorem dX0_knownAhead_26 : decode cX0_knownAhead 26 = .ok (.invokevirtual 37, 3) := fq3_182 (fl_X0_knownAhead_0 (j := 26) rfl rfl) (fl_X0_knownAhead_0 (j := 27) rfl rfl) (fl_X0_knownAhead_0 (j := 28) rfl rfl) rfl
theorem dX0_knownAhead_29 : decode cX0_knownAhead 29 = .ok (.istore 6, 2) := fq2_54 (fl_X0_knownAhead_0 (j := 29) rfl rfl) (fl_X0_knownAhead_0 (j := 30) rfl rfl) rfl
theorem dX0_knownAhead_31 : decode cX0_knownAhead 31 = .ok (.iload 6, 2) := fq2_21 (fl_X0_knownAhead_0 (j := 31) rfl rfl) (fl_X0_knownAhead_0 (j := 32) rfl rfl) rfl
theorem dX0_knownAhead_33 : decode cX0_knownAhead 33 = .ok (.iconst (-1), 1) := fq1_2 (fl_X0_knownAhead_0 (j := 33) rfl rfl)
theorem dX0_knownAhead_34 : decode cX0_knownAhead 34 = .ok (.if_icmp .eq 24, 3) := fq3_159 (fl_X0_knownAhead_0 (j := 34) rfl rfl) (fl_X0_knownAhead_0 (j := 35) rfl rfl) (fl_X0_knownAhead_0 (j := 36) rfl rfl) (s2p rfl (bl rfl))
theorem dX0_knownAhead_37 : decode cX0_knownAhead 37 = .ok (.iload 6, 2) := fq2_21 (fl_X0_knownAhead_0 (j := 37) rfl rfl) (fl_X0_knownAhead_0 (j := 38) rfl rfl) rfl
theorem dX0_knownAhead_39 : decode cX0_knownAhead 39 = .ok (.iload_n 3, 1) := fq1_29 (fl_X0_knownAhead_0 (j := 39) rfl rfl)
theorem dX0_knownAhead_40 : decode cX0_knownAhead 40 = .ok (.if_icmp .lt 15, 3) := fq3_161 (fl_X0_knownAhead_0 (j := 40) rfl rfl) (fl_X0_knownAhead_0 (j := 41) rfl rfl) (fl_X0_knownAhead_0 (j := 42) rfl rfl) (s2p rfl (bl rfl))
theorem dX0_knownAhead_43 : decode cX0_knownAhead 43 = .ok (.iload 6, 2) := fq2_21 (fl_X0_knownAhead_0 (j := 43) rfl rfl) (fl_X0_knownAhead_0 (j := 44) rfl rfl) rfl
theorem dX0_knownAhead_45 : decode cX0_knownAhead 45 = .ok (.iload_n 3, 1) := fq1_29 (fl_X0_knownAhead_0 (j := 45) rfl rfl)
theorem dX0_knownAhead_46 : decode cX0_knownAhead 46 = .ok (.if_icmp .ne 12, 3) := fq3_160 (fl_X0_knownAhead_0 (j := 46) rfl rfl) (fl_X0_knownAhead_0 (j := 47) rfl rfl) (fl_X0_knownAhead_0 (j := 48) rfl rfl) (s2p rfl (bl rfl))
theorem dX0_knownAhead_49 : decode cX0_knownAhead 49 = .ok (.iload 5, 2) := fq2_21 (fl_X0_knownAhead_0 (j := 49) rfl rfl) (fl_X0_knownAhead_0 (j := 50) rfl rfl) rfl
theorem dX0_knownAhead_51 : decode cX0_knownAhead 51 = .ok (.iload_n 1, 1) := fq1_27 (fl_X0_knownAhead_0 (j := 51) rfl rfl)
theorem dX0_knownAhead_52 : decode cX0_knownAhead 52 = .ok (.if_icmp .ge 6, 3) := fq3_162 (fl_X0_knownAhead_0 (j := 52) rfl rfl) (fl_X0_knownAhead_0 (j := 53) rfl rfl) (fl_X0_knownAhead_0 (j := 54) rfl rfl) (s2p rfl (bl rfl))
theorem dX0_knownAhead_55 : decode cX0_knownAhead 55 = .ok (.iinc 4 1, 3) := fq3_132 (fl_X0_knownAhead_0 (j := 55) rfl rfl) (fl_X0_knownAhead_0 (j := 56) rfl rfl) (fl_X0_knownAhead_0 (j := 57) rfl rfl) rfl (s1p rfl (bl rfl))
theorem dX0_knownAhead_58 : decode cX0_knownAhead 58 = .ok (.iinc 5 1, 3) := fq3_132 (fl_X0_knownAhead_0 (j := 58) rfl rfl) (fl_X0_knownAhead_0 (j := 59) rfl rfl) (fl_X0_knownAhead_0 (j := 60) rfl rfl) rfl (s1p rfl (bl rfl))
theorem dX0_knownAhead_61 : decode cX0_knownAhead 61 = .ok (.goto (-48), 3) := fq3_167 (fl_X0_knownAhead_0 (j := 61) rfl rfl) (fl_X0_knownAhead_0 (j := 62) rfl rfl) (fl_X0_knownAhead_0 (j := 63) rfl rfl) (by decide)
def fb_X0_knownAhead_1 : List UInt8 := [0x15, 0x04, 0xac]
theorem fl_X0_knownAhead_1 {p j : Nat} {b : UInt8} (e : p = 64 + j) (h : fb_X0_knownAhead_1[j]? = some b) : cX0_knownAhead.data.toList[p]? = some b := fq_l (n := 64) (show (cX0_knownAhead.data.toList.drop 64).take 64 = fb_X0_knownAhead_1 by decide +kernel) e h
theorem dX0_knownAhead_64 : decode cX0_knownAhead 64 = .ok (.iload 4, 2) := fq2_21 (fl_X0_knownAhead_1 (j := 0) rfl rfl) (fl_X0_knownAhead_1 (j := 1) rfl rfl) rfl
theorem dX0_knownAhead_66 : decode cX0_knownAhead 66 = .ok (.ireturn, 1) := fq1_172 (fl_X0_knownAhead_1 (j := 2) rfl rfl)
def fb_X0_turnRound_0 : List UInt8 := [0x2a, 0xb4, 0x00, 0x09, 0x2a, 0xb4, 0x00, 0x18, 0x5c, 0x2e, 0x04, 0x1b, 0x78, 0x82, 0x4f, 0xb1]
theorem fl_X0_turnRound_0 {p j : Nat} {b : UInt8} (e : p = 0 + j) (h : fb_X0_turnRound_0[j]? = some b) : cX0_turnRound.data.toList[p]? = some b := fq_l (n := 64) (show (cX0_turnRound.data.toList.drop 0).take 64 = fb_X0_turnRound_0 by decide +kernel) e h
theorem dX0_turnRound_0 : decode cX0_turnRound 0 = .ok (.aload_n 0, 1) := fq1_42 (fl_X0_turnRound_0 (j := 0) rfl rfl)
theorem dX0_turnRound_1 : decode cX0_turnRound 1 = .ok (.getfield 9, 3) := fq3_180 (fl_X0_turnRound_0 (j := 1) rfl rfl) (fl_X0_turnRound_0 (j := 2) rfl rfl) (fl_X0_turnRound_0 (j := 3) rfl rfl) rfl
theorem dX0_turnRound_4 : decode cX0_turnRound 4 = .ok (.aload_n 0, 1) := fq1_42 (fl_X0_turnRound_0 (j := 4) rfl rfl)
theorem dX0_turnRound_5 : decode cX0_turnRound 5 = .ok (.getfield 24, 3) := fq3_180 (fl_X0_turnRound_0 (j := 5) rfl rfl) (fl_X0_turnRound_0 (j := 6) rfl rfl) (fl_X0_turnRound_0 (j := 7) rfl rfl) rfl
theorem dX0_turnRound_8 : decode cX0_turnRound 8 = .ok (.dup2, 1) := fq1_92 (fl_X0_turnRound_0 (j := 8) rfl rfl)
theorem dX0_turnRound_9 : decode cX0_turnRound 9 = .ok (.iaload, 1) := fq1_46 (fl_X0_turnRound_0 (j := 9) rfl rfl)
theorem dX0_turnRound_10 : decode cX0_turnRound 10 = .ok (.iconst 1, 1) := fq1_4 (fl_X0_turnRound_0 (j := 10) rfl rfl)
theorem dX0_turnRound_11 : decode cX0_turnRound 11 = .ok (.iload_n 1, 1) := fq1_27 (fl_X0_turnRound_0 (j := 11) rfl rfl)
theorem dX0_turnRound_12 : decode cX0_turnRound 12 = .ok (.ishl, 1) := fq1_120 (fl_X0_turnRound_0 (j := 12) rfl rfl)
theorem dX0_turnRound_13 : decode cX0_turnRound 13 = .ok (.ixor, 1) := fq1_130 (fl_X0_turnRound_0 (j := 13) rfl rfl)
theorem dX0_turnRound_14 : decode cX0_turnRound 14 = .ok (.iastore, 1) := fq1_79 (fl_X0_turnRound_0 (j := 14) rfl rfl)
theorem dX0_turnRound_15 : decode cX0_turnRound 15 = .ok (.return_, 1) := fq1_177 (fl_X0_turnRound_0 (j := 15) rfl rfl)
def fb_X0_wornIn_0 : List UInt8 := [0x2a, 0xb4, 0x00, 0x09, 0x1c, 0x2e, 0x1b, 0x7a, 0x04, 0x7e, 0xac]
theorem fl_X0_wornIn_0 {p j : Nat} {b : UInt8} (e : p = 0 + j) (h : fb_X0_wornIn_0[j]? = some b) : cX0_wornIn.data.toList[p]? = some b := fq_l (n := 64) (show (cX0_wornIn.data.toList.drop 0).take 64 = fb_X0_wornIn_0 by decide +kernel) e h
theorem dX0_wornIn_0 : decode cX0_wornIn 0 = .ok (.aload_n 0, 1) := fq1_42 (fl_X0_wornIn_0 (j := 0) rfl rfl)
theorem dX0_wornIn_1 : decode cX0_wornIn 1 = .ok (.getfield 9, 3) := fq3_180 (fl_X0_wornIn_0 (j := 1) rfl rfl) (fl_X0_wornIn_0 (j := 2) rfl rfl) (fl_X0_wornIn_0 (j := 3) rfl rfl) rfl
theorem dX0_wornIn_4 : decode cX0_wornIn 4 = .ok (.iload_n 2, 1) := fq1_28 (fl_X0_wornIn_0 (j := 4) rfl rfl)
theorem dX0_wornIn_5 : decode cX0_wornIn 5 = .ok (.iaload, 1) := fq1_46 (fl_X0_wornIn_0 (j := 5) rfl rfl)
theorem dX0_wornIn_6 : decode cX0_wornIn 6 = .ok (.iload_n 1, 1) := fq1_27 (fl_X0_wornIn_0 (j := 6) rfl rfl)
theorem dX0_wornIn_7 : decode cX0_wornIn 7 = .ok (.ishr, 1) := fq1_122 (fl_X0_wornIn_0 (j := 7) rfl rfl)
theorem dX0_wornIn_8 : decode cX0_wornIn 8 = .ok (.iconst 1, 1) := fq1_4 (fl_X0_wornIn_0 (j := 8) rfl rfl)
theorem dX0_wornIn_9 : decode cX0_wornIn 9 = .ok (.iand, 1) := fq1_126 (fl_X0_wornIn_0 (j := 9) rfl rfl)
theorem dX0_wornIn_10 : decode cX0_wornIn 10 = .ok (.ireturn, 1) := fq1_172 (fl_X0_wornIn_0 (j := 10) rfl rfl)
def fb_X0_wornNow_0 : List UInt8 := [0x2a, 0xb4, 0x00, 0x09, 0x2a, 0xb4, 0x00, 0x18, 0x2e, 0xac]
theorem fl_X0_wornNow_0 {p j : Nat} {b : UInt8} (e : p = 0 + j) (h : fb_X0_wornNow_0[j]? = some b) : cX0_wornNow.data.toList[p]? = some b := fq_l (n := 64) (show (cX0_wornNow.data.toList.drop 0).take 64 = fb_X0_wornNow_0 by decide +kernel) e h
theorem dX0_wornNow_0 : decode cX0_wornNow 0 = .ok (.aload_n 0, 1) := fq1_42 (fl_X0_wornNow_0 (j := 0) rfl rfl)
theorem dX0_wornNow_1 : decode cX0_wornNow 1 = .ok (.getfield 9, 3) := fq3_180 (fl_X0_wornNow_0 (j := 1) rfl rfl) (fl_X0_wornNow_0 (j := 2) rfl rfl) (fl_X0_wornNow_0 (j := 3) rfl rfl) rfl
theorem dX0_wornNow_4 : decode cX0_wornNow 4 = .ok (.aload_n 0, 1) := fq1_42 (fl_X0_wornNow_0 (j := 4) rfl rfl)
theorem dX0_wornNow_5 : decode cX0_wornNow 5 = .ok (.getfield 24, 3) := fq3_180 (fl_X0_wornNow_0 (j := 5) rfl rfl) (fl_X0_wornNow_0 (j := 6) rfl rfl) (fl_X0_wornNow_0 (j := 7) rfl rfl) rfl
theorem dX0_wornNow_8 : decode cX0_wornNow 8 = .ok (.iaload, 1) := fq1_46 (fl_X0_wornNow_0 (j := 8) rfl rfl)
theorem dX0_wornNow_9 : decode cX0_wornNow 9 = .ok (.ireturn, 1) := fq1_172 (fl_X0_wornNow_0 (j := 9) rfl rfl)
def fb_X7_hasPlaces_0 : List UInt8 := [0x1c, 0x2a, 0xb4, 0x00, 0x0f, 0xa3, 0x00, 0x11, 0x1b, 0x2a, 0xb4, 0x00, 0x0f, 0x1c, 0x64, 0xa3, 0x00, 0x07, 0x04, 0xa7, 0x00, 0x04, 0x03, 0xac]
theorem fl_X7_hasPlaces_0 {p j : Nat} {b : UInt8} (e : p = 0 + j) (h : fb_X7_hasPlaces_0[j]? = some b) : cX7_hasPlaces.data.toList[p]? = some b := fq_l (n := 64) (show (cX7_hasPlaces.data.toList.drop 0).take 64 = fb_X7_hasPlaces_0 by decide +kernel) e h
theorem dX7_hasPlaces_0 : decode cX7_hasPlaces 0 = .ok (.iload_n 2, 1) := fq1_28 (fl_X7_hasPlaces_0 (j := 0) rfl rfl)
theorem dX7_hasPlaces_1 : decode cX7_hasPlaces 1 = .ok (.aload_n 0, 1) := fq1_42 (fl_X7_hasPlaces_0 (j := 1) rfl rfl)
theorem dX7_hasPlaces_2 : decode cX7_hasPlaces 2 = .ok (.getfield 15, 3) := fq3_180 (fl_X7_hasPlaces_0 (j := 2) rfl rfl) (fl_X7_hasPlaces_0 (j := 3) rfl rfl) (fl_X7_hasPlaces_0 (j := 4) rfl rfl) rfl
theorem dX7_hasPlaces_5 : decode cX7_hasPlaces 5 = .ok (.if_icmp .gt 17, 3) := fq3_163 (fl_X7_hasPlaces_0 (j := 5) rfl rfl) (fl_X7_hasPlaces_0 (j := 6) rfl rfl) (fl_X7_hasPlaces_0 (j := 7) rfl rfl) (s2p rfl (bl rfl))
theorem dX7_hasPlaces_8 : decode cX7_hasPlaces 8 = .ok (.iload_n 1, 1) := fq1_27 (fl_X7_hasPlaces_0 (j := 8) rfl rfl)
theorem dX7_hasPlaces_9 : decode cX7_hasPlaces 9 = .ok (.aload_n 0, 1) := fq1_42 (fl_X7_hasPlaces_0 (j := 9) rfl rfl)
theorem dX7_hasPlaces_10 : decode cX7_hasPlaces 10 = .ok (.getfield 15, 3) := fq3_180 (fl_X7_hasPlaces_0 (j := 10) rfl rfl) (fl_X7_hasPlaces_0 (j := 11) rfl rfl) (fl_X7_hasPlaces_0 (j := 12) rfl rfl) rfl
theorem dX7_hasPlaces_13 : decode cX7_hasPlaces 13 = .ok (.iload_n 2, 1) := fq1_28 (fl_X7_hasPlaces_0 (j := 13) rfl rfl)
theorem dX7_hasPlaces_14 : decode cX7_hasPlaces 14 = .ok (.isub, 1) := fq1_100 (fl_X7_hasPlaces_0 (j := 14) rfl rfl)
theorem dX7_hasPlaces_15 : decode cX7_hasPlaces 15 = .ok (.if_icmp .gt 7, 3) := fq3_163 (fl_X7_hasPlaces_0 (j := 15) rfl rfl) (fl_X7_hasPlaces_0 (j := 16) rfl rfl) (fl_X7_hasPlaces_0 (j := 17) rfl rfl) (s2p rfl (bl rfl))
theorem dX7_hasPlaces_18 : decode cX7_hasPlaces 18 = .ok (.iconst 1, 1) := fq1_4 (fl_X7_hasPlaces_0 (j := 18) rfl rfl)
theorem dX7_hasPlaces_19 : decode cX7_hasPlaces 19 = .ok (.goto 4, 3) := fq3_167 (fl_X7_hasPlaces_0 (j := 19) rfl rfl) (fl_X7_hasPlaces_0 (j := 20) rfl rfl) (fl_X7_hasPlaces_0 (j := 21) rfl rfl) (s2p rfl (bl rfl))
theorem dX7_hasPlaces_22 : decode cX7_hasPlaces 22 = .ok (.iconst 0, 1) := fq1_3 (fl_X7_hasPlaces_0 (j := 22) rfl rfl)
theorem dX7_hasPlaces_23 : decode cX7_hasPlaces 23 = .ok (.ireturn, 1) := fq1_172 (fl_X7_hasPlaces_0 (j := 23) rfl rfl)
def fb_X7_holdsWithin_0 : List UInt8 := [0x03, 0x3e, 0x1d, 0x1b, 0xa2, 0x00, 0x22, 0x2a, 0xb4, 0x00, 0x09, 0x1d, 0x2f, 0x09, 0x94, 0x9b, 0x00, 0x0f, 0x2a, 0xb4, 0x00, 0x09, 0x1d, 0x2f, 0x1c, 0x85, 0x94, 0x9e, 0x00, 0x05, 0x03, 0xac, 0x84, 0x03, 0x01, 0xa7, 0xff, 0xdf, 0x04, 0xac]
theorem fl_X7_holdsWithin_0 {p j : Nat} {b : UInt8} (e : p = 0 + j) (h : fb_X7_holdsWithin_0[j]? = some b) : cX7_holdsWithin.data.toList[p]? = some b := fq_l (n := 64) (show (cX7_holdsWithin.data.toList.drop 0).take 64 = fb_X7_holdsWithin_0 by decide +kernel) e h
theorem dX7_holdsWithin_0 : decode cX7_holdsWithin 0 = .ok (.iconst 0, 1) := fq1_3 (fl_X7_holdsWithin_0 (j := 0) rfl rfl)
theorem dX7_holdsWithin_1 : decode cX7_holdsWithin 1 = .ok (.istore_n 3, 1) := fq1_62 (fl_X7_holdsWithin_0 (j := 1) rfl rfl)
theorem dX7_holdsWithin_2 : decode cX7_holdsWithin 2 = .ok (.iload_n 3, 1) := fq1_29 (fl_X7_holdsWithin_0 (j := 2) rfl rfl)
theorem dX7_holdsWithin_3 : decode cX7_holdsWithin 3 = .ok (.iload_n 1, 1) := fq1_27 (fl_X7_holdsWithin_0 (j := 3) rfl rfl)
theorem dX7_holdsWithin_4 : decode cX7_holdsWithin 4 = .ok (.if_icmp .ge 34, 3) := fq3_162 (fl_X7_holdsWithin_0 (j := 4) rfl rfl) (fl_X7_holdsWithin_0 (j := 5) rfl rfl) (fl_X7_holdsWithin_0 (j := 6) rfl rfl) (s2p rfl (bl rfl))
theorem dX7_holdsWithin_7 : decode cX7_holdsWithin 7 = .ok (.aload_n 0, 1) := fq1_42 (fl_X7_holdsWithin_0 (j := 7) rfl rfl)
theorem dX7_holdsWithin_8 : decode cX7_holdsWithin 8 = .ok (.getfield 9, 3) := fq3_180 (fl_X7_holdsWithin_0 (j := 8) rfl rfl) (fl_X7_holdsWithin_0 (j := 9) rfl rfl) (fl_X7_holdsWithin_0 (j := 10) rfl rfl) rfl
theorem dX7_holdsWithin_11 : decode cX7_holdsWithin 11 = .ok (.iload_n 3, 1) := fq1_29 (fl_X7_holdsWithin_0 (j := 11) rfl rfl)
theorem dX7_holdsWithin_12 : decode cX7_holdsWithin 12 = .ok (.laload, 1) := fq1_47 (fl_X7_holdsWithin_0 (j := 12) rfl rfl)
theorem dX7_holdsWithin_13 : decode cX7_holdsWithin 13 = .ok (.lconst 0, 1) := fq1_9 (fl_X7_holdsWithin_0 (j := 13) rfl rfl)
theorem dX7_holdsWithin_14 : decode cX7_holdsWithin 14 = .ok (.lcmp, 1) := fq1_148 (fl_X7_holdsWithin_0 (j := 14) rfl rfl)
theorem dX7_holdsWithin_15 : decode cX7_holdsWithin 15 = .ok (.ifCond .lt 15, 3) := fq3_155 (fl_X7_holdsWithin_0 (j := 15) rfl rfl) (fl_X7_holdsWithin_0 (j := 16) rfl rfl) (fl_X7_holdsWithin_0 (j := 17) rfl rfl) (s2p rfl (bl rfl))
theorem dX7_holdsWithin_18 : decode cX7_holdsWithin 18 = .ok (.aload_n 0, 1) := fq1_42 (fl_X7_holdsWithin_0 (j := 18) rfl rfl)
theorem dX7_holdsWithin_19 : decode cX7_holdsWithin 19 = .ok (.getfield 9, 3) := fq3_180 (fl_X7_holdsWithin_0 (j := 19) rfl rfl) (fl_X7_holdsWithin_0 (j := 20) rfl rfl) (fl_X7_holdsWithin_0 (j := 21) rfl rfl) rfl
theorem dX7_holdsWithin_22 : decode cX7_holdsWithin 22 = .ok (.iload_n 3, 1) := fq1_29 (fl_X7_holdsWithin_0 (j := 22) rfl rfl)
theorem dX7_holdsWithin_23 : decode cX7_holdsWithin 23 = .ok (.laload, 1) := fq1_47 (fl_X7_holdsWithin_0 (j := 23) rfl rfl)
theorem dX7_holdsWithin_24 : decode cX7_holdsWithin 24 = .ok (.iload_n 2, 1) := fq1_28 (fl_X7_holdsWithin_0 (j := 24) rfl rfl)
theorem dX7_holdsWithin_25 : decode cX7_holdsWithin 25 = .ok (.i2l, 1) := fq1_133 (fl_X7_holdsWithin_0 (j := 25) rfl rfl)
theorem dX7_holdsWithin_26 : decode cX7_holdsWithin 26 = .ok (.lcmp, 1) := fq1_148 (fl_X7_holdsWithin_0 (j := 26) rfl rfl)
theorem dX7_holdsWithin_27 : decode cX7_holdsWithin 27 = .ok (.ifCond .le 5, 3) := fq3_158 (fl_X7_holdsWithin_0 (j := 27) rfl rfl) (fl_X7_holdsWithin_0 (j := 28) rfl rfl) (fl_X7_holdsWithin_0 (j := 29) rfl rfl) (s2p rfl (bl rfl))
theorem dX7_holdsWithin_30 : decode cX7_holdsWithin 30 = .ok (.iconst 0, 1) := fq1_3 (fl_X7_holdsWithin_0 (j := 30) rfl rfl)
theorem dX7_holdsWithin_31 : decode cX7_holdsWithin 31 = .ok (.ireturn, 1) := fq1_172 (fl_X7_holdsWithin_0 (j := 31) rfl rfl)
theorem dX7_holdsWithin_32 : decode cX7_holdsWithin 32 = .ok (.iinc 3 1, 3) := fq3_132 (fl_X7_holdsWithin_0 (j := 32) rfl rfl) (fl_X7_holdsWithin_0 (j := 33) rfl rfl) (fl_X7_holdsWithin_0 (j := 34) rfl rfl) rfl (s1p rfl (bl rfl))
theorem dX7_holdsWithin_35 : decode cX7_holdsWithin 35 = .ok (.goto (-33), 3) := fq3_167 (fl_X7_holdsWithin_0 (j := 35) rfl rfl) (fl_X7_holdsWithin_0 (j := 36) rfl rfl) (fl_X7_holdsWithin_0 (j := 37) rfl rfl) (by decide)
theorem dX7_holdsWithin_38 : decode cX7_holdsWithin 38 = .ok (.iconst 1, 1) := fq1_4 (fl_X7_holdsWithin_0 (j := 38) rfl rfl)
theorem dX7_holdsWithin_39 : decode cX7_holdsWithin 39 = .ok (.ireturn, 1) := fq1_172 (fl_X7_holdsWithin_0 (j := 39) rfl rfl)
def fb_X7_put_0 : List UInt8 := [0x2a, 0xb4, 0x00, 0x13, 0x9a, 0x00, 0x10, 0x2a, 0xb4, 0x00, 0x09, 0x1b, 0x20, 0x88, 0x91, 0x85, 0x50, 0xa7, 0x00, 0x33, 0x2a, 0xb4, 0x00, 0x13, 0x04, 0xa0, 0x00, 0x10, 0x2a, 0xb4, 0x00, 0x09, 0x1b, 0x20, 0x88, 0x93, 0x85, 0x50, 0xa7, 0x00, 0x1e, 0x2a, 0xb4, 0x00, 0x13, 0x05, 0xa0, 0x00, 0x0f, 0x2a, 0xb4, 0x00, 0x09, 0x1b, 0x20, 0x88, 0x85, 0x50, 0xa7, 0x00, 0x0a, 0x2a, 0xb4, 0x00]
theorem fl_X7_put_0 {p j : Nat} {b : UInt8} (e : p = 0 + j) (h : fb_X7_put_0[j]? = some b) : cX7_put.data.toList[p]? = some b := fq_l (n := 64) (show (cX7_put.data.toList.drop 0).take 64 = fb_X7_put_0 by decide +kernel) e h
theorem dX7_put_0 : decode cX7_put 0 = .ok (.aload_n 0, 1) := fq1_42 (fl_X7_put_0 (j := 0) rfl rfl)
theorem dX7_put_1 : decode cX7_put 1 = .ok (.getfield 19, 3) := fq3_180 (fl_X7_put_0 (j := 1) rfl rfl) (fl_X7_put_0 (j := 2) rfl rfl) (fl_X7_put_0 (j := 3) rfl rfl) rfl
theorem dX7_put_4 : decode cX7_put 4 = .ok (.ifCond .ne 16, 3) := fq3_154 (fl_X7_put_0 (j := 4) rfl rfl) (fl_X7_put_0 (j := 5) rfl rfl) (fl_X7_put_0 (j := 6) rfl rfl) (s2p rfl (bl rfl))
theorem dX7_put_7 : decode cX7_put 7 = .ok (.aload_n 0, 1) := fq1_42 (fl_X7_put_0 (j := 7) rfl rfl)
theorem dX7_put_8 : decode cX7_put 8 = .ok (.getfield 9, 3) := fq3_180 (fl_X7_put_0 (j := 8) rfl rfl) (fl_X7_put_0 (j := 9) rfl rfl) (fl_X7_put_0 (j := 10) rfl rfl) rfl
theorem dX7_put_11 : decode cX7_put 11 = .ok (.iload_n 1, 1) := fq1_27 (fl_X7_put_0 (j := 11) rfl rfl)
theorem dX7_put_12 : decode cX7_put 12 = .ok (.lload_n 2, 1) := fq1_32 (fl_X7_put_0 (j := 12) rfl rfl)
theorem dX7_put_13 : decode cX7_put 13 = .ok (.l2i, 1) := fq1_136 (fl_X7_put_0 (j := 13) rfl rfl)
theorem dX7_put_14 : decode cX7_put 14 = .ok (.i2b, 1) := fq1_145 (fl_X7_put_0 (j := 14) rfl rfl)
theorem dX7_put_15 : decode cX7_put 15 = .ok (.i2l, 1) := fq1_133 (fl_X7_put_0 (j := 15) rfl rfl)
theorem dX7_put_16 : decode cX7_put 16 = .ok (.lastore, 1) := fq1_80 (fl_X7_put_0 (j := 16) rfl rfl)
theorem dX7_put_17 : decode cX7_put 17 = .ok (.goto 51, 3) := fq3_167 (fl_X7_put_0 (j := 17) rfl rfl) (fl_X7_put_0 (j := 18) rfl rfl) (fl_X7_put_0 (j := 19) rfl rfl) (s2p rfl (bl rfl))
theorem dX7_put_20 : decode cX7_put 20 = .ok (.aload_n 0, 1) := fq1_42 (fl_X7_put_0 (j := 20) rfl rfl)
theorem dX7_put_21 : decode cX7_put 21 = .ok (.getfield 19, 3) := fq3_180 (fl_X7_put_0 (j := 21) rfl rfl) (fl_X7_put_0 (j := 22) rfl rfl) (fl_X7_put_0 (j := 23) rfl rfl) rfl
theorem dX7_put_24 : decode cX7_put 24 = .ok (.iconst 1, 1) := fq1_4 (fl_X7_put_0 (j := 24) rfl rfl)
theorem dX7_put_25 : decode cX7_put 25 = .ok (.if_icmp .ne 16, 3) := fq3_160 (fl_X7_put_0 (j := 25) rfl rfl) (fl_X7_put_0 (j := 26) rfl rfl) (fl_X7_put_0 (j := 27) rfl rfl) (s2p rfl (bl rfl))
theorem dX7_put_28 : decode cX7_put 28 = .ok (.aload_n 0, 1) := fq1_42 (fl_X7_put_0 (j := 28) rfl rfl)
theorem dX7_put_29 : decode cX7_put 29 = .ok (.getfield 9, 3) := fq3_180 (fl_X7_put_0 (j := 29) rfl rfl) (fl_X7_put_0 (j := 30) rfl rfl) (fl_X7_put_0 (j := 31) rfl rfl) rfl
theorem dX7_put_32 : decode cX7_put 32 = .ok (.iload_n 1, 1) := fq1_27 (fl_X7_put_0 (j := 32) rfl rfl)
theorem dX7_put_33 : decode cX7_put 33 = .ok (.lload_n 2, 1) := fq1_32 (fl_X7_put_0 (j := 33) rfl rfl)
theorem dX7_put_34 : decode cX7_put 34 = .ok (.l2i, 1) := fq1_136 (fl_X7_put_0 (j := 34) rfl rfl)
theorem dX7_put_35 : decode cX7_put 35 = .ok (.i2s, 1) := fq1_147 (fl_X7_put_0 (j := 35) rfl rfl)
theorem dX7_put_36 : decode cX7_put 36 = .ok (.i2l, 1) := fq1_133 (fl_X7_put_0 (j := 36) rfl rfl)
theorem dX7_put_37 : decode cX7_put 37 = .ok (.lastore, 1) := fq1_80 (fl_X7_put_0 (j := 37) rfl rfl)
theorem dX7_put_38 : decode cX7_put 38 = .ok (.goto 30, 3) := fq3_167 (fl_X7_put_0 (j := 38) rfl rfl) (fl_X7_put_0 (j := 39) rfl rfl) (fl_X7_put_0 (j := 40) rfl rfl) (s2p rfl (bl rfl))
theorem dX7_put_41 : decode cX7_put 41 = .ok (.aload_n 0, 1) := fq1_42 (fl_X7_put_0 (j := 41) rfl rfl)
theorem dX7_put_42 : decode cX7_put 42 = .ok (.getfield 19, 3) := fq3_180 (fl_X7_put_0 (j := 42) rfl rfl) (fl_X7_put_0 (j := 43) rfl rfl) (fl_X7_put_0 (j := 44) rfl rfl) rfl
theorem dX7_put_45 : decode cX7_put 45 = .ok (.iconst 2, 1) := fq1_5 (fl_X7_put_0 (j := 45) rfl rfl)
theorem dX7_put_46 : decode cX7_put 46 = .ok (.if_icmp .ne 15, 3) := fq3_160 (fl_X7_put_0 (j := 46) rfl rfl) (fl_X7_put_0 (j := 47) rfl rfl) (fl_X7_put_0 (j := 48) rfl rfl) (s2p rfl (bl rfl))
theorem dX7_put_49 : decode cX7_put 49 = .ok (.aload_n 0, 1) := fq1_42 (fl_X7_put_0 (j := 49) rfl rfl)
theorem dX7_put_50 : decode cX7_put 50 = .ok (.getfield 9, 3) := fq3_180 (fl_X7_put_0 (j := 50) rfl rfl) (fl_X7_put_0 (j := 51) rfl rfl) (fl_X7_put_0 (j := 52) rfl rfl) rfl
theorem dX7_put_53 : decode cX7_put 53 = .ok (.iload_n 1, 1) := fq1_27 (fl_X7_put_0 (j := 53) rfl rfl)
theorem dX7_put_54 : decode cX7_put 54 = .ok (.lload_n 2, 1) := fq1_32 (fl_X7_put_0 (j := 54) rfl rfl)
theorem dX7_put_55 : decode cX7_put 55 = .ok (.l2i, 1) := fq1_136 (fl_X7_put_0 (j := 55) rfl rfl)
theorem dX7_put_56 : decode cX7_put 56 = .ok (.i2l, 1) := fq1_133 (fl_X7_put_0 (j := 56) rfl rfl)
theorem dX7_put_57 : decode cX7_put 57 = .ok (.lastore, 1) := fq1_80 (fl_X7_put_0 (j := 57) rfl rfl)
theorem dX7_put_58 : decode cX7_put 58 = .ok (.goto 10, 3) := fq3_167 (fl_X7_put_0 (j := 58) rfl rfl) (fl_X7_put_0 (j := 59) rfl rfl) (fl_X7_put_0 (j := 60) rfl rfl) (s2p rfl (bl rfl))
theorem dX7_put_61 : decode cX7_put 61 = .ok (.aload_n 0, 1) := fq1_42 (fl_X7_put_0 (j := 61) rfl rfl)
def fb_X7_put_1 : List UInt8 := [0x09, 0x1b, 0x20, 0x50, 0xb1]
theorem fl_X7_put_1 {p j : Nat} {b : UInt8} (e : p = 64 + j) (h : fb_X7_put_1[j]? = some b) : cX7_put.data.toList[p]? = some b := fq_l (n := 64) (show (cX7_put.data.toList.drop 64).take 64 = fb_X7_put_1 by decide +kernel) e h
theorem dX7_put_62 : decode cX7_put 62 = .ok (.getfield 9, 3) := fq3_180 (fl_X7_put_0 (j := 62) rfl rfl) (fl_X7_put_0 (j := 63) rfl rfl) (fl_X7_put_1 (j := 0) rfl rfl) rfl
theorem dX7_put_65 : decode cX7_put 65 = .ok (.iload_n 1, 1) := fq1_27 (fl_X7_put_1 (j := 1) rfl rfl)
theorem dX7_put_66 : decode cX7_put 66 = .ok (.lload_n 2, 1) := fq1_32 (fl_X7_put_1 (j := 2) rfl rfl)
theorem dX7_put_67 : decode cX7_put 67 = .ok (.lastore, 1) := fq1_80 (fl_X7_put_1 (j := 3) rfl rfl)
theorem dX7_put_68 : decode cX7_put 68 = .ok (.return_, 1) := fq1_177 (fl_X7_put_1 (j := 4) rfl rfl)
def fb_X9_addRow_0 : List UInt8 := [0x2a, 0xb4, 0x00, 0x23, 0x3d, 0x2a, 0xb4, 0x00, 0x0b, 0x1c, 0x1b, 0x4f, 0x2a, 0x59, 0xb4, 0x00, 0x23, 0x04, 0x60, 0xb5, 0x00, 0x23, 0x1c, 0xac]
theorem fl_X9_addRow_0 {p j : Nat} {b : UInt8} (e : p = 0 + j) (h : fb_X9_addRow_0[j]? = some b) : cX9_addRow.data.toList[p]? = some b := fq_l (n := 64) (show (cX9_addRow.data.toList.drop 0).take 64 = fb_X9_addRow_0 by decide +kernel) e h
theorem dX9_addRow_0 : decode cX9_addRow 0 = .ok (.aload_n 0, 1) := fq1_42 (fl_X9_addRow_0 (j := 0) rfl rfl)
theorem dX9_addRow_1 : decode cX9_addRow 1 = .ok (.getfield 35, 3) := fq3_180 (fl_X9_addRow_0 (j := 1) rfl rfl) (fl_X9_addRow_0 (j := 2) rfl rfl) (fl_X9_addRow_0 (j := 3) rfl rfl) rfl
theorem dX9_addRow_4 : decode cX9_addRow 4 = .ok (.istore_n 2, 1) := fq1_61 (fl_X9_addRow_0 (j := 4) rfl rfl)
theorem dX9_addRow_5 : decode cX9_addRow 5 = .ok (.aload_n 0, 1) := fq1_42 (fl_X9_addRow_0 (j := 5) rfl rfl)
theorem dX9_addRow_6 : decode cX9_addRow 6 = .ok (.getfield 11, 3) := fq3_180 (fl_X9_addRow_0 (j := 6) rfl rfl) (fl_X9_addRow_0 (j := 7) rfl rfl) (fl_X9_addRow_0 (j := 8) rfl rfl) rfl
theorem dX9_addRow_9 : decode cX9_addRow 9 = .ok (.iload_n 2, 1) := fq1_28 (fl_X9_addRow_0 (j := 9) rfl rfl)
theorem dX9_addRow_10 : decode cX9_addRow 10 = .ok (.iload_n 1, 1) := fq1_27 (fl_X9_addRow_0 (j := 10) rfl rfl)
theorem dX9_addRow_11 : decode cX9_addRow 11 = .ok (.iastore, 1) := fq1_79 (fl_X9_addRow_0 (j := 11) rfl rfl)
theorem dX9_addRow_12 : decode cX9_addRow 12 = .ok (.aload_n 0, 1) := fq1_42 (fl_X9_addRow_0 (j := 12) rfl rfl)
theorem dX9_addRow_13 : decode cX9_addRow 13 = .ok (.dup, 1) := fq1_89 (fl_X9_addRow_0 (j := 13) rfl rfl)
theorem dX9_addRow_14 : decode cX9_addRow 14 = .ok (.getfield 35, 3) := fq3_180 (fl_X9_addRow_0 (j := 14) rfl rfl) (fl_X9_addRow_0 (j := 15) rfl rfl) (fl_X9_addRow_0 (j := 16) rfl rfl) rfl
theorem dX9_addRow_17 : decode cX9_addRow 17 = .ok (.iconst 1, 1) := fq1_4 (fl_X9_addRow_0 (j := 17) rfl rfl)
theorem dX9_addRow_18 : decode cX9_addRow 18 = .ok (.iadd, 1) := fq1_96 (fl_X9_addRow_0 (j := 18) rfl rfl)
theorem dX9_addRow_19 : decode cX9_addRow 19 = .ok (.putfield 35, 3) := fq3_181 (fl_X9_addRow_0 (j := 19) rfl rfl) (fl_X9_addRow_0 (j := 20) rfl rfl) (fl_X9_addRow_0 (j := 21) rfl rfl) rfl
theorem dX9_addRow_22 : decode cX9_addRow 22 = .ok (.iload_n 2, 1) := fq1_28 (fl_X9_addRow_0 (j := 22) rfl rfl)
theorem dX9_addRow_23 : decode cX9_addRow 23 = .ok (.ireturn, 1) := fq1_172 (fl_X9_addRow_0 (j := 23) rfl rfl)
end

section
def wb (x y : Int32) : Int32 := (x >>> (y &&& 31)) &&& 1
theorem wb_01 (x y : Int32) {z : Int} (h : iZ z = wb x y) (hz : -2147483648 ≤ z ∧ z < 2147483648) : z = 0 ∨ z = 1 := by
  obtain ⟨j, hj, he⟩ := pk_andE (x >>> (y &&& 31)) (m := 1) 1 (by decide)
  have h2 : iZ z = nI j := h.trans he
  rw [← iZ_nat] at h2
  have h3 := (zeq rfl rfl hz ⟨by omega, by omega⟩).mp h2
  omega
theorem wi_fin {z1 z2 a r : Int} (h1 : iZ z1 = iZ a >>> (iZ r &&& 31)) (h2 : iZ z2 = iZ z1 &&& iZ 1) (hz : -2147483648 ≤ z2 ∧ z2 < 2147483648) : iZ z2 = wb (iZ a) (iZ r) ∧ (z2 = 0 ∨ z2 = 1) := by
  have h : iZ z2 = wb (iZ a) (iZ r) := by rw [h2, h1]; rfl
  exact ⟨h, wb_01 _ _ h hz⟩
set_option maxHeartbeats 4000000 in
set_option maxRecDepth 100000 in
theorem k_wornIn (l : Launch) (D : va_G) (k : Nat → ClassId) (h hw : Nat) (fs : List Value) (f0 : fs[0]? = some (.ref hw)) (f : Nat → Int32) (r t : Int) (ht : 0 ≤ t ∧ t ≤ 400) : RP l yX0_wornIn cX0_wornIn 3 (some .int) 0 D k [.ref h, .int (iZ r), .int (iZ t)] [(h, .inr (0, fs)), (hw, .inl (k 1, 401, .inl f))] (fun z => iZ z = wb (iZ (gz f t)) (iZ r) ∧ (z = 0 ∨ z = 1)) := by
  refine MRP (by decide) (Nat.le_of_ble_eq_true rfl) (fun p e s m below meth c ls hx hb hml hr hlocks hts hown hKK hP hl => ?_)
  have hK := hKK.1
  have hl : lv_has ls 3 [(0, .ref h), (1, .int (iZ r)), (2, .int (iZ t))] := hl
  refine lv_aload_n hx hb dX0_wornIn_0 rfl (lv_at hl 0 rfl) ?_
  refine va_get (D := D) (ci := 0) (v := .ref hw) (C := RX0) (T := TX0) (N := 6) hx hb hts iX0 hown hK hP 0 rfl rfl 0 (bl rfl) (hts _ qf_X0_9) (fun _ h => h) f0 dX0_wornIn_1 ?_
  refine lv_iload_n hx hb dX0_wornIn_4 rfl (lv_at hl 2 rfl) ?_
  refine va_iald hx hb hK hP 1 1 rfl rfl (zin (e := t) (n := 401) ⟨by omega, by omega⟩ (bl rfl)) dX0_wornIn_5 ?_
  refine lv_topi (fun x_1 ex_1 => ?_)
  obtain rfl : x_1 = iZ (gz f t) := ex_1.trans (gz_eq ⟨by omega, by omega⟩)
  have h_2 := gz_rg f t
  refine lv_iload_n hx hb dX0_wornIn_6 rfl (lv_at hl 1 rfl) ?_
  refine lv_ishr hx hb dX0_wornIn_7 ?_
  refine lv_topi (fun x_4 ex_4 => ?_)
  obtain ⟨z_3, hz_3, hz_3a, hz_3b⟩ := i32_z x_4
  subst hz_3
  refine lv_iconst (v := iZ 1) hx hb dX0_wornIn_8 rfl ?_
  refine lv_iand hx hb dX0_wornIn_9 ?_
  refine lv_topi (fun x_6 ex_6 => ?_)
  obtain ⟨z_5, hz_5, hz_5a, hz_5b⟩ := i32_z x_6
  subst hz_5
  exact EPi hx hb hr hlocks (wi_fin (by assumption) (by assumption) ⟨by assumption, by assumption⟩) dX0_wornIn_10
set_option maxHeartbeats 4000000 in
set_option maxRecDepth 100000 in
theorem k_wornNow (l : Launch) (D : va_G) (k : Nat → ClassId) (h hw : Nat) (fs : List Value) (f0 : fs[0]? = some (.ref hw)) (f : Nat → Int32) (w : Int) (f4 : fs[4]? = some (.int (iZ w))) (hw0 : 0 ≤ w ∧ w ≤ 400) : RD l yX0_wornNow cX0_wornNow 1 (some .int) 0 D k [.ref h] [(h, .inr (0, fs)), (hw, .inl (k 1, 401, .inl f))] (iZ (gz f w)) := by
  refine MR (by decide) (Nat.le_of_ble_eq_true rfl) (fun p e s m below meth c ls hx hb hml hr hlocks hts hown hKK hP hl => ?_)
  have hK := hKK.1
  have hl : lv_has ls 1 [(0, .ref h)] := hl
  refine lv_aload_n hx hb dX0_wornNow_0 rfl (lv_at hl 0 rfl) ?_
  refine va_get (D := D) (ci := 0) (v := .ref hw) (C := RX0) (T := TX0) (N := 6) hx hb hts iX0 hown hK hP 0 rfl rfl 0 (bl rfl) (hts _ qf_X0_9) (fun _ h => h) f0 dX0_wornNow_1 ?_
  refine lv_aload_n hx hb dX0_wornNow_4 rfl (lv_at hl 0 rfl) ?_
  refine va_get (D := D) (ci := 0) (v := .int (iZ w)) (C := RX0) (T := TX0) (N := 6) hx hb hts iX0 hown hK hP 0 rfl rfl 4 (bl rfl) (hts _ qf_X0_24) (fun _ h => h) f4 dX0_wornNow_5 ?_
  refine va_iald hx hb hK hP 1 1 rfl rfl (zin (e := w) (n := 401) ⟨by omega, by omega⟩ (bl rfl)) dX0_wornNow_8 ?_
  refine lv_topi (fun x_1 ex_1 => ?_)
  obtain rfl : x_1 = iZ (gz f w) := ex_1.trans (gz_eq ⟨by omega, by omega⟩)
  have h_2 := gz_rg f w
  exact ERi hx hb hr hlocks rfl dX0_wornNow_9
set_option maxHeartbeats 4000000 in
set_option maxRecDepth 100000 in
theorem k_firstKnown (l : Launch) (D : va_G) (k : Nat → ClassId) (h hk : Nat) (fs : List Value) (f3 : fs[3]? = some (.ref hk)) (f : Nat → Int32) (o r : Int) (ho : 0 ≤ o ∧ o < 20) (hr0 : 0 ≤ r ∧ r < 6) : RD l yX0_firstKnown cX0_firstKnown 3 (some .int) 0 D k [.ref h, .int (iZ o), .int (iZ r)] [(h, .inr (0, fs)), (hk, .inl (k 1, 120, .inl f))] (iZ (gz f ((o * 6) + r))) := by
  refine MR (by decide) (Nat.le_of_ble_eq_true rfl) (fun p e s m below meth c ls hx hb hml hr hlocks hts hown hKK hP hl => ?_)
  have hK := hKK.1
  have hl : lv_has ls 3 [(0, .ref h), (1, .int (iZ o)), (2, .int (iZ r))] := hl
  refine lv_aload_n hx hb dX0_firstKnown_0 rfl (lv_at hl 0 rfl) ?_
  refine va_get (D := D) (ci := 0) (v := .ref hk) (C := RX0) (T := TX0) (N := 6) hx hb hts iX0 hown hK hP 0 rfl rfl 3 (bl rfl) (hts _ qf_X0_21) (fun _ h => h) f3 dX0_firstKnown_1 ?_
  refine lv_iload_n hx hb dX0_firstKnown_4 rfl (lv_at hl 1 rfl) ?_
  refine lv_bipush (v := iZ 6) hx hb dX0_firstKnown_5 bip_6 ?_
  refine lv_imul hx hb dX0_firstKnown_7 ?_
  refine lv_topi (fun x_1 ex_1 => ?_)
  obtain rfl : x_1 = iZ (o * 6) := ex_1.trans (iZ_mul o 6)
  refine lv_iload_n hx hb dX0_firstKnown_8 rfl (lv_at hl 2 rfl) ?_
  refine lv_iadd hx hb dX0_firstKnown_9 ?_
  refine lv_topi (fun x_2 ex_2 => ?_)
  obtain rfl : x_2 = iZ ((o * 6) + r) := ex_2.trans (iZ_add (o * 6) r)
  refine va_iald hx hb hK hP 1 1 rfl rfl (zin (e := ((o * 6) + r)) (n := 120) ⟨by omega, by omega⟩ (bl rfl)) dX0_firstKnown_10 ?_
  refine lv_topi (fun x_3 ex_3 => ?_)
  obtain rfl : x_3 = iZ (gz f ((o * 6) + r)) := ex_3.trans (gz_eq ⟨by omega, by omega⟩)
  have h_4 := gz_rg f ((o * 6) + r)
  exact ERi hx hb hr hlocks rfl dX0_firstKnown_11
set_option maxHeartbeats 4000000 in
set_option maxRecDepth 100000 in
theorem k_knownAhead (l : Launch) (D : va_G) (k : Nat → ClassId) (h hk : Nat) (fs : List Value) (f3 : fs[3]? = some (.ref hk)) (f : Nat → Int32) (n : Int) (f5 : fs[5]? = some (.int (iZ n))) (hn : 0 ≤ n ∧ n ≤ 20) (o r : Int) (ho : 0 ≤ o ∧ o < 20) (hr0 : 0 ≤ r ∧ r < 6) : RP l yX0_knownAhead cX0_knownAhead 7 (some .int) 1 D k [.ref h, .int (iZ o), .int (iZ r)] [(h, .inr (0, fs)), (hk, .inl (k 1, 120, .inl f))] (fun z => 0 ≤ z ∧ z ≤ 20) := by
  refine MRP (by decide) (Nat.le_of_ble_eq_true rfl) (fun p e s m below meth c ls hx hb hml hr hlocks hts hown hKK hP hl => ?_)
  have hK := hKK.1
  have hl : lv_has ls 7 [(0, .ref h), (1, .int (iZ o)), (2, .int (iZ r))] := hl
  refine lv_aload_n hx hb dX0_knownAhead_0 rfl (lv_at hl 0 rfl) ?_
  refine lv_iload_n hx hb dX0_knownAhead_1 rfl (lv_at hl 1 rfl) ?_
  refine lv_iload_n hx hb dX0_knownAhead_2 rfl (lv_at hl 2 rfl) ?_
  refine CRV (As := [.int (iZ o), .int (iZ r)]) (rest := []) hx hb hml hown hts hKK hP (k_firstKnown l D k h hk fs f3 f o r ⟨by omega, by omega⟩ ⟨by omega, by omega⟩) ci_X0_firstKnown qm_X0_37 ⟨Nat.le_of_ble_eq_true rfl, Nat.le_of_ble_eq_true rfl⟩ ⟨Nat.le_of_ble_eq_true rfl, Nat.le_of_ble_eq_true rfl⟩ 0 rfl rfl rfl hl.1 rfl (Nat.le_of_ble_eq_true rfl) dX0_knownAhead_3 ?_
  have hg_h_1 := gz_rg f ((o * 6) + r)
  refine lv_istore_n (lv' := [(3, .int (iZ (gz f ((o * 6) + r)))), (0, .ref h), (1, .int (iZ o)), (2, .int (iZ r))]) hx hb dX0_knownAhead_6 rfl hl (bl rfl) rfl (fun ls hl => ?_)
  refine lv_iconst (v := iZ 0) hx hb dX0_knownAhead_7 rfl ?_
  refine lv_istore (lv' := [(4, .int (iZ 0)), (3, .int (iZ (gz f ((o * 6) + r)))), (0, .ref h), (1, .int (iZ o)), (2, .int (iZ r))]) hx hb dX0_knownAhead_8 hl (bl rfl) rfl (fun ls hl => ?_)
  refine lv_iconst (v := iZ 0) hx hb dX0_knownAhead_10 rfl ?_
  refine lv_istore (lv' := [(5, .int (iZ 0)), (4, .int (iZ 0)), (3, .int (iZ (gz f ((o * 6) + r)))), (0, .ref h), (1, .int (iZ o)), (2, .int (iZ r))]) hx hb dX0_knownAhead_11 hl (bl rfl) rfl (fun ls hl => ?_)
  have HL1 : ∀ (fu : Nat) (i m1 : Int) (ls : Array Slot), (n + 1 - i) < (fu : Int) → 0 ≤ i → i ≤ n → 0 ≤ m1 → m1 ≤ i → lv_has ls 7 [(5, .int (iZ i)), (4, .int (iZ m1)), (3, .int (iZ (gz f ((o * 6) + r)))), (0, .ref h), (1, .int (iZ o)), (2, .int (iZ r))] → W p l e (rj 1 0 0) s m [.ref h, .int (iZ o), .int (iZ r)].toArray below meth c s.heap [] 0 0 (MQ below (QcP (fun z => 0 ≤ z ∧ z ≤ 20)) [.ref h, .int (iZ o), .int (iZ r)].toArray s 0 0 (fun _ => False)) (F0 m 13 ls []) := by
    intro fu
    induction fu with
    | zero => intro i m1 ls hμ1 hi1 hi2 hm1 hm2 hl; exact absurd hμ1 (by omega)
    | succ fu ih1 =>
      intro i m1 ls hμ1 hi1 hi2 hm1 hm2 hl
      refine lv_iload hx hb dX0_knownAhead_13 (lv_at hl 0 rfl) ?_
      refine lv_aload_n hx hb dX0_knownAhead_15 rfl (lv_at hl 3 rfl) ?_
      refine va_get (D := D) (ci := 0) (v := .int (iZ n)) (C := RX0) (T := TX0) (N := 6) hx hb hts iX0 hown hK hP 0 rfl rfl 5 (bl rfl) (hts _ qf_X0_28) (fun _ h => h) f5 dX0_knownAhead_16 ?_
      refine lv_icmp_ge (tgt := 64) hx hb dX0_knownAhead_19 rfl (fun c_2 => ?_) (fun c_2 => ?_)
      ·
        have c_2 := (zle (x := iZ n) (y := iZ i) rfl rfl ⟨by omega, by omega⟩ ⟨by omega, by omega⟩).mp c_2
        refine lv_iload hx hb dX0_knownAhead_64 (lv_at hl 1 rfl) ?_
        exact EPi hx hb hr hlocks (by omega) dX0_knownAhead_66
      ·
        have c_2 := mt (zle (x := iZ n) (y := iZ i) rfl rfl ⟨by omega, by omega⟩ ⟨by omega, by omega⟩).mpr c_2
        refine lv_aload_n hx hb dX0_knownAhead_22 rfl (lv_at hl 3 rfl) ?_
        refine lv_iload hx hb dX0_knownAhead_23 (lv_at hl 0 rfl) ?_
        refine lv_iload_n hx hb dX0_knownAhead_25 rfl (lv_at hl 5 rfl) ?_
        refine CRV (As := [.int (iZ i), .int (iZ r)]) (rest := []) hx hb hml hown hts hKK hP (k_firstKnown l D k h hk fs f3 f i r ⟨by omega, by omega⟩ ⟨by omega, by omega⟩) ci_X0_firstKnown qm_X0_37 ⟨Nat.le_of_ble_eq_true rfl, Nat.le_of_ble_eq_true rfl⟩ ⟨Nat.le_of_ble_eq_true rfl, Nat.le_of_ble_eq_true rfl⟩ 0 rfl rfl rfl hl.1 rfl (Nat.le_of_ble_eq_true rfl) dX0_knownAhead_26 ?_
        have hg_h_3 := gz_rg f ((i * 6) + r)
        refine lv_istore (lv' := [(6, .int (iZ (gz f ((i * 6) + r)))), (5, .int (iZ i)), (4, .int (iZ m1)), (3, .int (iZ (gz f ((o * 6) + r)))), (0, .ref h), (1, .int (iZ o)), (2, .int (iZ r))]) hx hb dX0_knownAhead_29 hl (bl rfl) rfl (fun ls hl => ?_)
        refine lv_iload hx hb dX0_knownAhead_31 (lv_at hl 0 rfl) ?_
        refine lv_iconst (v := iZ (-1)) hx hb dX0_knownAhead_33 rfl ?_
        refine lv_icmp_eq (tgt := 58) hx hb dX0_knownAhead_34 rfl (fun c_4 => ?_) (fun c_4 => ?_)
        ·
          have c_4 := (zeq (x := iZ (gz f ((i * 6) + r))) (y := iZ (-1)) rfl rfl (gz_rg f ((i * 6) + r)) wn_m1).mp c_4
          refine lv_iinc (v := iZ (i + 1)) (lv' := [(5, .int (iZ (i + 1))), (6, .int (iZ (gz f ((i * 6) + r)))), (4, .int (iZ m1)), (3, .int (iZ (gz f ((o * 6) + r)))), (0, .ref h), (1, .int (iZ o)), (2, .int (iZ r))]) hx hb dX0_knownAhead_58 hl (k := 1) rfl (iZ_add i 1) (by decide) rfl (fun ls hl => ?_)
          refine lv_goto (tgt := 13) hx hb dX0_knownAhead_61 rfl ?_
          exact ih1  (i + 1) m1 _ (by omega) (by omega) (by omega) (by omega) (by omega) (lv_sub hl [0, 2, 3, 4, 5, 6] rfl)
        ·
          have c_4 := mt (zeq (x := iZ (gz f ((i * 6) + r))) (y := iZ (-1)) rfl rfl (gz_rg f ((i * 6) + r)) wn_m1).mpr c_4
          refine lv_iload hx hb dX0_knownAhead_37 (lv_at hl 0 rfl) ?_
          refine lv_iload_n hx hb dX0_knownAhead_39 rfl (lv_at hl 3 rfl) ?_
          refine lv_icmp_lt (tgt := 55) hx hb dX0_knownAhead_40 rfl (fun c_5 => ?_) (fun c_5 => ?_)
          ·
            have c_5 := (zlt (x := iZ (gz f ((i * 6) + r))) (y := iZ (gz f ((o * 6) + r))) rfl rfl (gz_rg f ((i * 6) + r)) (gz_rg f ((o * 6) + r))).mp c_5
            refine lv_iinc (v := iZ (m1 + 1)) (lv' := [(4, .int (iZ (m1 + 1))), (6, .int (iZ (gz f ((i * 6) + r)))), (5, .int (iZ i)), (3, .int (iZ (gz f ((o * 6) + r)))), (0, .ref h), (1, .int (iZ o)), (2, .int (iZ r))]) hx hb dX0_knownAhead_55 hl (k := 2) rfl (iZ_add m1 1) (by decide) rfl (fun ls hl => ?_)
            refine lv_iinc (v := iZ (i + 1)) (lv' := [(5, .int (iZ (i + 1))), (4, .int (iZ (m1 + 1))), (6, .int (iZ (gz f ((i * 6) + r)))), (3, .int (iZ (gz f ((o * 6) + r)))), (0, .ref h), (1, .int (iZ o)), (2, .int (iZ r))]) hx hb dX0_knownAhead_58 hl (k := 2) rfl (iZ_add i 1) (by decide) rfl (fun ls hl => ?_)
            refine lv_goto (tgt := 13) hx hb dX0_knownAhead_61 rfl ?_
            exact ih1  (i + 1) (m1 + 1) _ (by omega) (by omega) (by omega) (by omega) (by omega) (lv_sub hl [0, 1, 3, 4, 5, 6] rfl)
          ·
            have c_5 := mt (zlt (x := iZ (gz f ((i * 6) + r))) (y := iZ (gz f ((o * 6) + r))) rfl rfl (gz_rg f ((i * 6) + r)) (gz_rg f ((o * 6) + r))).mpr c_5
            refine lv_iload hx hb dX0_knownAhead_43 (lv_at hl 0 rfl) ?_
            refine lv_iload_n hx hb dX0_knownAhead_45 rfl (lv_at hl 3 rfl) ?_
            refine lv_icmp_ne (tgt := 58) hx hb dX0_knownAhead_46 rfl (fun c_6 => ?_) (fun c_6 => ?_)
            ·
              have c_6 := mt (zeq (x := iZ (gz f ((i * 6) + r))) (y := iZ (gz f ((o * 6) + r))) rfl rfl (gz_rg f ((i * 6) + r)) (gz_rg f ((o * 6) + r))).mpr c_6
              refine lv_iinc (v := iZ (i + 1)) (lv' := [(5, .int (iZ (i + 1))), (6, .int (iZ (gz f ((i * 6) + r)))), (4, .int (iZ m1)), (3, .int (iZ (gz f ((o * 6) + r)))), (0, .ref h), (1, .int (iZ o)), (2, .int (iZ r))]) hx hb dX0_knownAhead_58 hl (k := 1) rfl (iZ_add i 1) (by decide) rfl (fun ls hl => ?_)
              refine lv_goto (tgt := 13) hx hb dX0_knownAhead_61 rfl ?_
              exact ih1  (i + 1) m1 _ (by omega) (by omega) (by omega) (by omega) (by omega) (lv_sub hl [0, 2, 3, 4, 5, 6] rfl)
            ·
              have c_6 := (zeq (x := iZ (gz f ((i * 6) + r))) (y := iZ (gz f ((o * 6) + r))) rfl rfl (gz_rg f ((i * 6) + r)) (gz_rg f ((o * 6) + r))).mp c_6
              refine lv_iload hx hb dX0_knownAhead_49 (lv_at hl 1 rfl) ?_
              refine lv_iload_n hx hb dX0_knownAhead_51 rfl (lv_at hl 5 rfl) ?_
              refine lv_icmp_ge (tgt := 58) hx hb dX0_knownAhead_52 rfl (fun c_7 => ?_) (fun c_7 => ?_)
              ·
                have c_7 := (zle (x := iZ o) (y := iZ i) rfl rfl ⟨by omega, by omega⟩ ⟨by omega, by omega⟩).mp c_7
                refine lv_iinc (v := iZ (i + 1)) (lv' := [(5, .int (iZ (i + 1))), (6, .int (iZ (gz f ((i * 6) + r)))), (4, .int (iZ m1)), (3, .int (iZ (gz f ((o * 6) + r)))), (0, .ref h), (1, .int (iZ o)), (2, .int (iZ r))]) hx hb dX0_knownAhead_58 hl (k := 1) rfl (iZ_add i 1) (by decide) rfl (fun ls hl => ?_)
                refine lv_goto (tgt := 13) hx hb dX0_knownAhead_61 rfl ?_
                exact ih1  (i + 1) m1 _ (by omega) (by omega) (by omega) (by omega) (by omega) (lv_sub hl [0, 2, 3, 4, 5, 6] rfl)
              ·
                have c_7 := mt (zle (x := iZ o) (y := iZ i) rfl rfl ⟨by omega, by omega⟩ ⟨by omega, by omega⟩).mpr c_7
                refine lv_iinc (v := iZ (m1 + 1)) (lv' := [(4, .int (iZ (m1 + 1))), (6, .int (iZ (gz f ((i * 6) + r)))), (5, .int (iZ i)), (3, .int (iZ (gz f ((o * 6) + r)))), (0, .ref h), (1, .int (iZ o)), (2, .int (iZ r))]) hx hb dX0_knownAhead_55 hl (k := 2) rfl (iZ_add m1 1) (by decide) rfl (fun ls hl => ?_)
                refine lv_iinc (v := iZ (i + 1)) (lv' := [(5, .int (iZ (i + 1))), (4, .int (iZ (m1 + 1))), (6, .int (iZ (gz f ((i * 6) + r)))), (3, .int (iZ (gz f ((o * 6) + r)))), (0, .ref h), (1, .int (iZ o)), (2, .int (iZ r))]) hx hb dX0_knownAhead_58 hl (k := 2) rfl (iZ_add i 1) (by decide) rfl (fun ls hl => ?_)
                refine lv_goto (tgt := 13) hx hb dX0_knownAhead_61 rfl ?_
                exact ih1  (i + 1) (m1 + 1) _ (by omega) (by omega) (by omega) (by omega) (by omega) (lv_sub hl [0, 1, 3, 4, 5, 6] rfl)
  exact HL1 22 0 0 _ (by omega) (by omega) (by omega) (by omega) (by omega) (lv_sub hl [0, 1, 2, 3, 4, 5] rfl)
set_option maxHeartbeats 4000000 in
set_option maxRecDepth 100000 in
theorem k_hasPlaces (l : Launch) (D : va_G) (k : Nat → ClassId) (h : Nat) (fs : List Value) (n : Int) (f2 : fs[2]? = some (.int (iZ n))) (hn : -1 ≤ n ∧ n ≤ 60) (a b : Int) (ha : 0 ≤ a ∧ a < 2147483648) (hb0 : 0 ≤ b ∧ b < 2147483648) : RP l yX7_hasPlaces cX7_hasPlaces 3 (some .boolean) 0 D k [.ref h, .int (iZ a), .int (iZ b)] [(h, .inr (7, fs))] (fun z => (z = 1 ∧ b ≤ n ∧ a ≤ n - b) ∨ (z = 0 ∧ ¬ (b ≤ n ∧ a ≤ n - b))) := by
  refine MRP (by decide) (Nat.le_of_ble_eq_true rfl) (fun p e s m below meth c ls hx hb hml hr hlocks hts hown hKK hP hl => ?_)
  have hK := hKK.1
  have hl : lv_has ls 3 [(0, .ref h), (1, .int (iZ a)), (2, .int (iZ b))] := hl
  refine lv_iload_n hx hb dX7_hasPlaces_0 rfl (lv_at hl 2 rfl) ?_
  refine lv_aload_n hx hb dX7_hasPlaces_1 rfl (lv_at hl 0 rfl) ?_
  refine va_get (D := D) (ci := 7) (v := .int (iZ n)) (C := RX7) (T := TX7) (N := 3) hx hb hts iX7 hown hK hP 0 rfl rfl 2 (bl rfl) (hts _ qf_X7_15) (fun _ h => h) f2 dX7_hasPlaces_2 ?_
  refine lv_icmp_gt (tgt := 22) hx hb dX7_hasPlaces_5 rfl (fun c_1 => ?_) (fun c_1 => ?_)
  ·
    have c_1 := (zlt (x := iZ n) (y := iZ b) rfl rfl ⟨by omega, by omega⟩ ⟨by omega, by omega⟩).mp c_1
    refine lv_iconst (v := iZ 0) hx hb dX7_hasPlaces_22 rfl ?_
    exact EPz hx hb hr hlocks (by omega) (by omega) dX7_hasPlaces_23
  ·
    have c_1 := mt (zlt (x := iZ n) (y := iZ b) rfl rfl ⟨by omega, by omega⟩ ⟨by omega, by omega⟩).mpr c_1
    refine lv_iload_n hx hb dX7_hasPlaces_8 rfl (lv_at hl 1 rfl) ?_
    refine lv_aload_n hx hb dX7_hasPlaces_9 rfl (lv_at hl 0 rfl) ?_
    refine va_get (D := D) (ci := 7) (v := .int (iZ n)) (C := RX7) (T := TX7) (N := 3) hx hb hts iX7 hown hK hP 0 rfl rfl 2 (bl rfl) (hts _ qf_X7_15) (fun _ h => h) f2 dX7_hasPlaces_10 ?_
    refine lv_iload_n hx hb dX7_hasPlaces_13 rfl (lv_at hl 2 rfl) ?_
    refine lv_isub hx hb dX7_hasPlaces_14 ?_
    refine lv_topi (fun x_2 ex_2 => ?_)
    obtain rfl : x_2 = iZ (n - b) := ex_2.trans (iZ_sub n b)
    refine lv_icmp_gt (tgt := 22) hx hb dX7_hasPlaces_15 rfl (fun c_3 => ?_) (fun c_3 => ?_)
    ·
      have c_3 := (zlt (x := iZ (n - b)) (y := iZ a) rfl rfl ⟨by omega, by omega⟩ ⟨by omega, by omega⟩).mp c_3
      refine lv_iconst (v := iZ 0) hx hb dX7_hasPlaces_22 rfl ?_
      exact EPz hx hb hr hlocks (by omega) (by omega) dX7_hasPlaces_23
    ·
      have c_3 := mt (zlt (x := iZ (n - b)) (y := iZ a) rfl rfl ⟨by omega, by omega⟩ ⟨by omega, by omega⟩).mpr c_3
      refine lv_iconst (v := iZ 1) hx hb dX7_hasPlaces_18 rfl ?_
      refine lv_goto (tgt := 23) hx hb dX7_hasPlaces_19 rfl ?_
      exact EPz hx hb hr hlocks (by omega) (by omega) dX7_hasPlaces_23
set_option maxHeartbeats 4000000 in
set_option maxRecDepth 100000 in
theorem k_put (l : Launch) (D : va_G) (k : Nat → ClassId) (h hg : Nat) (fs : List Value) (f0 : fs[0]? = some (.ref hg)) (g : Nat → Int64) (t : Int) (f1 : fs[1]? = some (.int (iZ t))) (ht : 0 ≤ t ∧ t ≤ 3) (a : Int) (ha : 0 ≤ a ∧ a < 60) (v : Int64) : WD (σ := (Nat → Int64)) l yX7_put cX7_put 4 none 0 0 0 D k [.ref h, .int (iZ a), .long v] [(h, .inr (7, fs)), (hg, .inl (k 2, 60, .inr (.inl g)))] (fun _ => none) (fun _ => True) (fun g2 => [(h, .inr (7, fs)), (hg, .inl (k 2, 60, .inr (.inl g2)))]) := by
  refine MW (by decide) (Nat.le_of_ble_eq_true rfl) (fun p e s m below meth c ls A hx hb hml hr hlocks hin hts hown hKK hP hD hS hA hl => ?_)
  have hK := hKK.1
  have hl : lv_has ls 4 [(0, .ref h), (1, .int (iZ a)), (2, .long v)] := hl
  refine lv_aload_n hx hb dX7_put_0 rfl (lv_at hl 0 rfl) ?_
  refine va_get (D := D) (ci := 7) (v := .int (iZ t)) (C := RX7) (T := TX7) (N := 3) hx hb hts iX7 hown hK hP 0 rfl rfl 1 (bl rfl) (hts _ qf_X7_19) (fun _ h => h) f1 dX7_put_1 ?_
  refine lv_if_ne (tgt := 20) hx hb dX7_put_4 rfl (fun c_1 => ?_) (fun c_1 => ?_)
  ·
    have c_1 := mt (zeq (x := iZ t) (y := iZ 0) rfl rfl ⟨by omega, by omega⟩ wn_0).mpr c_1
    refine lv_aload_n hx hb dX7_put_20 rfl (lv_at hl 0 rfl) ?_
    refine va_get (D := D) (ci := 7) (v := .int (iZ t)) (C := RX7) (T := TX7) (N := 3) hx hb hts iX7 hown hK hP 0 rfl rfl 1 (bl rfl) (hts _ qf_X7_19) (fun _ h => h) f1 dX7_put_21 ?_
    refine lv_iconst (v := iZ 1) hx hb dX7_put_24 rfl ?_
    refine lv_icmp_ne (tgt := 41) hx hb dX7_put_25 rfl (fun c_2 => ?_) (fun c_2 => ?_)
    ·
      have c_2 := mt (zeq (x := iZ t) (y := iZ 1) rfl rfl ⟨by omega, by omega⟩ wn_1).mpr c_2
      refine lv_aload_n hx hb dX7_put_41 rfl (lv_at hl 0 rfl) ?_
      refine va_get (D := D) (ci := 7) (v := .int (iZ t)) (C := RX7) (T := TX7) (N := 3) hx hb hts iX7 hown hK hP 0 rfl rfl 1 (bl rfl) (hts _ qf_X7_19) (fun _ h => h) f1 dX7_put_42 ?_
      refine lv_iconst (v := iZ 2) hx hb dX7_put_45 rfl ?_
      refine lv_icmp_ne (tgt := 61) hx hb dX7_put_46 rfl (fun c_3 => ?_) (fun c_3 => ?_)
      ·
        have c_3 := mt (zeq (x := iZ t) (y := iZ 2) rfl rfl ⟨by omega, by omega⟩ wn_2).mpr c_3
        refine lv_aload_n hx hb dX7_put_61 rfl (lv_at hl 0 rfl) ?_
        refine va_get (D := D) (ci := 7) (v := .ref hg) (C := RX7) (T := TX7) (N := 3) hx hb hts iX7 hown hK hP 0 rfl rfl 0 (bl rfl) (hts _ qf_X7_9) (fun _ h => h) f0 dX7_put_62 ?_
        refine lv_iload_n hx hb dX7_put_65 rfl (lv_at hl 1 rfl) ?_
        refine lv_lload_n hx hb dX7_put_66 rfl (lv_at hl 2 rfl) ?_
        refine va_last hx hb hK hP hD hS 1 2 rfl rfl (zin (e := a) (n := 60) ⟨by omega, by omega⟩ (bl rfl)) dX7_put_67 (fun H locs hP hD hS => ?_)
        obtain ⟨f_4, hf_4⟩ : ∃ gg9, gg9 = vp_updL g (iZ a).toNatClampNeg v := ⟨_, rfl⟩
        rw [← hf_4] at hP hD
        exact EWv hx hb hr hlocks hS f_4 rfl trivial (hP.sub [0, 1] rfl) (hD.sub [0, 1] rfl rfl) dX7_put_68
      ·
        have c_3 := (zeq (x := iZ t) (y := iZ 2) rfl rfl ⟨by omega, by omega⟩ wn_2).mp c_3
        refine lv_aload_n hx hb dX7_put_49 rfl (lv_at hl 0 rfl) ?_
        refine va_get (D := D) (ci := 7) (v := .ref hg) (C := RX7) (T := TX7) (N := 3) hx hb hts iX7 hown hK hP 0 rfl rfl 0 (bl rfl) (hts _ qf_X7_9) (fun _ h => h) f0 dX7_put_50 ?_
        refine lv_iload_n hx hb dX7_put_53 rfl (lv_at hl 1 rfl) ?_
        refine lv_lload_n hx hb dX7_put_54 rfl (lv_at hl 2 rfl) ?_
        refine lv_l2i (v := _) hx hb dX7_put_55 rfl ?_
        refine lv_topi (fun x_6 ex_6 => ?_)
        obtain ⟨z_5, hz_5, hz_5a, hz_5b⟩ := i32_z x_6
        subst hz_5
        refine lv_i2l (v := (iZ z_5).toInt64) hx hb dX7_put_56 rfl ?_
        refine va_last hx hb hK hP hD hS 1 2 rfl rfl (zin (e := a) (n := 60) ⟨by omega, by omega⟩ (bl rfl)) dX7_put_57 (fun H locs hP hD hS => ?_)
        obtain ⟨f_7, hf_7⟩ : ∃ gg9, gg9 = vp_updL g (iZ a).toNatClampNeg ((iZ z_5).toInt64) := ⟨_, rfl⟩
        rw [← hf_7] at hP hD
        refine lv_goto (tgt := 68) hx hb dX7_put_58 rfl ?_
        exact EWv hx hb hr hlocks hS f_7 rfl trivial (hP.sub [0, 1] rfl) (hD.sub [0, 1] rfl rfl) dX7_put_68
    ·
      have c_2 := (zeq (x := iZ t) (y := iZ 1) rfl rfl ⟨by omega, by omega⟩ wn_1).mp c_2
      refine lv_aload_n hx hb dX7_put_28 rfl (lv_at hl 0 rfl) ?_
      refine va_get (D := D) (ci := 7) (v := .ref hg) (C := RX7) (T := TX7) (N := 3) hx hb hts iX7 hown hK hP 0 rfl rfl 0 (bl rfl) (hts _ qf_X7_9) (fun _ h => h) f0 dX7_put_29 ?_
      refine lv_iload_n hx hb dX7_put_32 rfl (lv_at hl 1 rfl) ?_
      refine lv_lload_n hx hb dX7_put_33 rfl (lv_at hl 2 rfl) ?_
      refine lv_l2i (v := _) hx hb dX7_put_34 rfl ?_
      refine lv_topi (fun x_9 ex_9 => ?_)
      obtain ⟨z_8, hz_8, hz_8a, hz_8b⟩ := i32_z x_9
      subst hz_8
      refine lv_i2s (v := _) hx hb dX7_put_35 rfl ?_
      refine lv_topi (fun x_11 ex_11 => ?_)
      obtain ⟨z_10, hz_10, hz_10a, hz_10b⟩ := i32_z x_11
      subst hz_10
      refine lv_i2l (v := (iZ z_10).toInt64) hx hb dX7_put_36 rfl ?_
      refine va_last hx hb hK hP hD hS 1 2 rfl rfl (zin (e := a) (n := 60) ⟨by omega, by omega⟩ (bl rfl)) dX7_put_37 (fun H locs hP hD hS => ?_)
      obtain ⟨f_12, hf_12⟩ : ∃ gg9, gg9 = vp_updL g (iZ a).toNatClampNeg ((iZ z_10).toInt64) := ⟨_, rfl⟩
      rw [← hf_12] at hP hD
      refine lv_goto (tgt := 68) hx hb dX7_put_38 rfl ?_
      exact EWv hx hb hr hlocks hS f_12 rfl trivial (hP.sub [0, 1] rfl) (hD.sub [0, 1] rfl rfl) dX7_put_68
  ·
    have c_1 := (zeq (x := iZ t) (y := iZ 0) rfl rfl ⟨by omega, by omega⟩ wn_0).mp c_1
    refine lv_aload_n hx hb dX7_put_7 rfl (lv_at hl 0 rfl) ?_
    refine va_get (D := D) (ci := 7) (v := .ref hg) (C := RX7) (T := TX7) (N := 3) hx hb hts iX7 hown hK hP 0 rfl rfl 0 (bl rfl) (hts _ qf_X7_9) (fun _ h => h) f0 dX7_put_8 ?_
    refine lv_iload_n hx hb dX7_put_11 rfl (lv_at hl 1 rfl) ?_
    refine lv_lload_n hx hb dX7_put_12 rfl (lv_at hl 2 rfl) ?_
    refine lv_l2i (v := _) hx hb dX7_put_13 rfl ?_
    refine lv_topi (fun x_14 ex_14 => ?_)
    obtain ⟨z_13, hz_13, hz_13a, hz_13b⟩ := i32_z x_14
    subst hz_13
    refine lv_i2b (v := _) hx hb dX7_put_14 rfl ?_
    refine lv_topi (fun x_16 ex_16 => ?_)
    obtain ⟨z_15, hz_15, hz_15a, hz_15b⟩ := i32_z x_16
    subst hz_15
    refine lv_i2l (v := (iZ z_15).toInt64) hx hb dX7_put_15 rfl ?_
    refine va_last hx hb hK hP hD hS 1 2 rfl rfl (zin (e := a) (n := 60) ⟨by omega, by omega⟩ (bl rfl)) dX7_put_16 (fun H locs hP hD hS => ?_)
    obtain ⟨f_17, hf_17⟩ : ∃ gg9, gg9 = vp_updL g (iZ a).toNatClampNeg ((iZ z_15).toInt64) := ⟨_, rfl⟩
    rw [← hf_17] at hP hD
    refine lv_goto (tgt := 68) hx hb dX7_put_17 rfl ?_
    exact EWv hx hb hr hlocks hS f_17 rfl trivial (hP.sub [0, 1] rfl) (hD.sub [0, 1] rfl rfl) dX7_put_68
set_option maxHeartbeats 4000000 in
set_option maxRecDepth 100000 in
theorem k_holdsWithin (l : Launch) (D : va_G) (k : Nat → ClassId) (h hg : Nat) (fs : List Value) (f0 : fs[0]? = some (.ref hg)) (g : Nat → Int64) (n w : Int) (hn : 0 ≤ n ∧ n ≤ 60) (hw : 0 ≤ w ∧ w ≤ 1000) : RP l yX7_holdsWithin cX7_holdsWithin 4 (some .boolean) 0 D k [.ref h, .int (iZ n), .int (iZ w)] [(h, .inr (7, fs)), (hg, .inl (k 2, 60, .inr (.inl g)))] (fun z => z = 0 ∨ z = 1) := by
  refine MRP (by decide) (Nat.le_of_ble_eq_true rfl) (fun p e s m below meth c ls hx hb hml hr hlocks hts hown hKK hP hl => ?_)
  have hK := hKK.1
  have hl : lv_has ls 4 [(0, .ref h), (1, .int (iZ n)), (2, .int (iZ w))] := hl
  refine lv_iconst (v := iZ 0) hx hb dX7_holdsWithin_0 rfl ?_
  refine lv_istore_n (lv' := [(3, .int (iZ 0)), (0, .ref h), (1, .int (iZ n)), (2, .int (iZ w))]) hx hb dX7_holdsWithin_1 rfl hl (bl rfl) rfl (fun ls hl => ?_)
  have HL1 : ∀ (fu : Nat) (i : Int) (ls : Array Slot), (n + 1 - i) < (fu : Int) → 0 ≤ i → i ≤ n → lv_has ls 4 [(3, .int (iZ i)), (0, .ref h), (1, .int (iZ n)), (2, .int (iZ w))] → W p l e (rj 0 0 0) s m [.ref h, .int (iZ n), .int (iZ w)].toArray below meth c s.heap [] 0 0 (MQ below (QcP (fun z => z = 0 ∨ z = 1)) [.ref h, .int (iZ n), .int (iZ w)].toArray s 0 0 (fun _ => False)) (F0 m 2 ls []) := by
    intro fu
    induction fu with
    | zero => intro i ls hμ1 hi1 hi2 hl; exact absurd hμ1 (by omega)
    | succ fu ih1 =>
      intro i ls hμ1 hi1 hi2 hl
      refine lv_iload_n hx hb dX7_holdsWithin_2 rfl (lv_at hl 0 rfl) ?_
      refine lv_iload_n hx hb dX7_holdsWithin_3 rfl (lv_at hl 2 rfl) ?_
      refine lv_icmp_ge (tgt := 38) hx hb dX7_holdsWithin_4 rfl (fun c_1 => ?_) (fun c_1 => ?_)
      ·
        have c_1 := (zle (x := iZ n) (y := iZ i) rfl rfl ⟨by omega, by omega⟩ ⟨by omega, by omega⟩).mp c_1
        refine lv_iconst (v := iZ 1) hx hb dX7_holdsWithin_38 rfl ?_
        exact EPz hx hb hr hlocks (by omega) (by omega) dX7_holdsWithin_39
      ·
        have c_1 := mt (zle (x := iZ n) (y := iZ i) rfl rfl ⟨by omega, by omega⟩ ⟨by omega, by omega⟩).mpr c_1
        refine lv_aload_n hx hb dX7_holdsWithin_7 rfl (lv_at hl 1 rfl) ?_
        refine va_get (D := D) (ci := 7) (v := .ref hg) (C := RX7) (T := TX7) (N := 3) hx hb hts iX7 hown hK hP 0 rfl rfl 0 (bl rfl) (hts _ qf_X7_9) (fun _ h => h) f0 dX7_holdsWithin_8 ?_
        refine lv_iload_n hx hb dX7_holdsWithin_11 rfl (lv_at hl 0 rfl) ?_
        refine va_lald hx hb hK hP 1 2 rfl rfl (zin (e := i) (n := 60) ⟨by omega, by omega⟩ (bl rfl)) dX7_holdsWithin_12 ?_
        refine lv_topl (fun y_2 ey_2 => ?_)
        refine lv_lconst (v := 0) hx hb dX7_holdsWithin_13 rfl ?_
        refine W.lcmp hx hb dX7_holdsWithin_14 ?_
        refine lv_if_lt (tgt := 30) hx hb dX7_holdsWithin_15 rfl (fun c_3 => ?_) (fun c_3 => ?_)
        ·
          refine lv_iconst (v := iZ 0) hx hb dX7_holdsWithin_30 rfl ?_
          exact EPz hx hb hr hlocks (by omega) (by omega) dX7_holdsWithin_31
        ·
          refine lv_aload_n hx hb dX7_holdsWithin_18 rfl (lv_at hl 1 rfl) ?_
          refine va_get (D := D) (ci := 7) (v := .ref hg) (C := RX7) (T := TX7) (N := 3) hx hb hts iX7 hown hK hP 0 rfl rfl 0 (bl rfl) (hts _ qf_X7_9) (fun _ h => h) f0 dX7_holdsWithin_19 ?_
          refine lv_iload_n hx hb dX7_holdsWithin_22 rfl (lv_at hl 0 rfl) ?_
          refine va_lald hx hb hK hP 1 2 rfl rfl (zin (e := i) (n := 60) ⟨by omega, by omega⟩ (bl rfl)) dX7_holdsWithin_23 ?_
          refine lv_topl (fun y_4 ey_4 => ?_)
          refine lv_iload_n hx hb dX7_holdsWithin_24 rfl (lv_at hl 3 rfl) ?_
          refine lv_i2l (v := (iZ w).toInt64) hx hb dX7_holdsWithin_25 rfl ?_
          refine W.lcmp hx hb dX7_holdsWithin_26 ?_
          refine lv_if_le (tgt := 32) hx hb dX7_holdsWithin_27 rfl (fun c_5 => ?_) (fun c_5 => ?_)
          ·
            refine lv_iinc (v := iZ (i + 1)) (lv' := [(3, .int (iZ (i + 1))), (0, .ref h), (1, .int (iZ n)), (2, .int (iZ w))]) hx hb dX7_holdsWithin_32 hl (k := 0) rfl (iZ_add i 1) (by decide) rfl (fun ls hl => ?_)
            refine lv_goto (tgt := 2) hx hb dX7_holdsWithin_35 rfl ?_
            exact ih1  (i + 1) _ (by omega) (by omega) (by omega) (lv_sub hl [0, 1, 2, 3] rfl)
          ·
            refine lv_iconst (v := iZ 0) hx hb dX7_holdsWithin_30 rfl ?_
            exact EPz hx hb hr hlocks (by omega) (by omega) dX7_holdsWithin_31
  exact HL1 62 0 _ (by omega) (by omega) (by omega) (lv_sub hl [0, 1, 2, 3] rfl)
set_option maxHeartbeats 4000000 in
set_option maxRecDepth 100000 in
theorem k_addRow (l : Launch) (D : va_G) (k : Nat → ClassId) (h hg a1 a2 a3 a4 : Nat) (g : Nat → Int32) (t st n x : Int) (hn : 0 ≤ n ∧ n < 60) : WD (σ := Unit) l yX9_addRow cX9_addRow 3 (some .int) 0 0 0 D k [.ref h, .int (iZ x)] [(h, .inr (9, [.ref hg, .ref a1, .ref a2, .ref a3, .ref a4, .int (iZ t), .int (iZ st), .int (iZ n)])), (hg, .inl (k 1, 60, .inl g))] (fun _ => some (.int (iZ n))) (fun _ => True) (fun _ => [(h, .inr (9, [.ref hg, .ref a1, .ref a2, .ref a3, .ref a4, .int (iZ t), .int (iZ st), .int (iZ (n + 1))])), (hg, .inl (k 1, 60, .inl (upd g (iZ n).toNatClampNeg (iZ x))))]) := by
  refine MW (by decide) (Nat.le_of_ble_eq_true rfl) (fun p e s m below meth c ls A hx hb hml hr hlocks hin hts hown hKK hP hD hS hA hl => ?_)
  have hK := hKK.1
  have hl : lv_has ls 3 [(0, .ref h), (1, .int (iZ x))] := hl
  refine lv_aload_n hx hb dX9_addRow_0 rfl (lv_at hl 0 rfl) ?_
  refine va_get (D := D) (ci := 9) (v := .int (iZ n)) (C := RX9) (T := TX9) (N := 8) hx hb hts iX9 hown hK hP 0 rfl rfl 7 (bl rfl) (hts _ qf_X9_35) (fun _ h => h) rfl dX9_addRow_1 ?_
  refine lv_istore_n (lv' := [(2, .int (iZ n)), (0, .ref h), (1, .int (iZ x))]) hx hb dX9_addRow_4 rfl hl (bl rfl) rfl (fun ls hl => ?_)
  refine lv_aload_n hx hb dX9_addRow_5 rfl (lv_at hl 1 rfl) ?_
  refine va_get (D := D) (ci := 9) (v := .ref hg) (C := RX9) (T := TX9) (N := 8) hx hb hts iX9 hown hK hP 0 rfl rfl 0 (bl rfl) (hts _ qf_X9_11) (fun _ h => h) rfl dX9_addRow_6 ?_
  refine lv_iload_n hx hb dX9_addRow_9 rfl (lv_at hl 0 rfl) ?_
  refine lv_iload_n hx hb dX9_addRow_10 rfl (lv_at hl 2 rfl) ?_
  refine va_iast hx hb hK hP hD hS 1 1 rfl rfl (zin (e := n) (n := 60) ⟨by omega, by omega⟩ (bl rfl)) dX9_addRow_11 (fun H locs hP hD hS => ?_)
  obtain ⟨f_1, hf_1⟩ : ∃ gg9, gg9 = upd g (iZ n).toNatClampNeg (iZ x) := ⟨_, rfl⟩
  rw [← hf_1] at hP hD
  refine lv_aload_n hx hb dX9_addRow_12 rfl (lv_at hl 1 rfl) ?_
  refine lv_dup hx hb dX9_addRow_13 rfl ?_
  refine va_get (D := D) (ci := 9) (v := .int (iZ n)) (C := RX9) (T := TX9) (N := 8) hx hb hts iX9 hown hK hP 0 rfl rfl 7 (bl rfl) (hts _ qf_X9_35) (fun _ h => h) rfl dX9_addRow_14 ?_
  refine lv_iconst (v := iZ 1) hx hb dX9_addRow_17 rfl ?_
  refine lv_iadd hx hb dX9_addRow_18 ?_
  refine lv_topi (fun x_2 ex_2 => ?_)
  obtain rfl : x_2 = iZ (n + 1) := ex_2.trans (iZ_add n 1)
  refine va_put (D := D) (ci := 9) (v := .int (iZ (n + 1))) (ty := .int) (C := RX9) (T := TX9) (N := 8) hx hb hts iX9 tyX9 tyX9_ok nmX9 hown hK hP hD hS 0 rfl rfl 7 (bl rfl) (hts _ qf_X9_35) (fun _ h => h) rfl (by decide +kernel) rfl rfl (Nat.le_of_ble_eq_true rfl) dX9_addRow_19 (fun H locs hP hD hS => ?_)
  refine lv_iload_n hx hb dX9_addRow_22 rfl (lv_at hl 0 rfl) ?_
  subst hf_1
  exact EWi hx hb hr hlocks hS () rfl trivial hP hD dX9_addRow_23
end
