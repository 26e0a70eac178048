/-- a long by its number -/
def lZ (z : Int) : Int64 := Int64.ofInt z
theorem lZ_ti {z : Int} (h : -9223372036854775808 ≤ z ∧ z < 9223372036854775808) : (lZ z).toInt = z := by
  have hb : z.bmod (2 ^ 64) = z := by rw [Int.bmod_eq_of_le (by omega) (by omega)]
  show (Int64.ofInt z).toInt = z
  rw [Int64.toInt_ofInt]
  exact hb
theorem lZ_inj {a b : Int} (ha : -9223372036854775808 ≤ a ∧ a < 9223372036854775808) (hb : -9223372036854775808 ≤ b ∧ b < 9223372036854775808) : lZ a = lZ b ↔ a = b := by
  rw [← Int64.toInt_inj, lZ_ti ha, lZ_ti hb]
abbrev smB (c : Int) : Prop := 97 ≤ c ∧ c ≤ 122
def xCd (T : Int → Int) (a : Int) : Nat → Int
  | 0 => 0
  | k + 1 => xCd T a k * 32 + (T (a + k) - 96)
def xN8 (T : Int → Int) (a : Int) : Nat → Int
  | 0 => 0
  | k + 1 => xN8 T a k * 256 + T (a + k)
def xLet (T : Int → Int) (a : Int) (n : Nat) : Prop := ∀ j : Int, a ≤ j → j < a + n → smB (T j)
theorem xLet.pred {T : Int → Int} {a : Int} {n : Nat} (h : xLet T a (n + 1)) : xLet T a n ∧ smB (T (a + n)) := ⟨fun j h1 h2 => h j h1 (by omega), h _ (by omega) (by omega)⟩
theorem xCd_b {T : Int → Int} {a : Int} : ∀ n : Nat, xLet T a n → 0 ≤ xCd T a n ∧ xCd T a n < 32 ^ n
  | 0, _ => ⟨Int.le_refl 0, by show (0 : Int) < 1; omega⟩
  | n + 1, h => by
    obtain ⟨h1, h2⟩ := h.pred
    have ih := xCd_b n h1
    have e : (32 : Int) ^ (n + 1) = 32 ^ n * 32 := Int.pow_succ 32 n
    show 0 ≤ xCd T a n * 32 + (T (a + n) - 96) ∧ xCd T a n * 32 + (T (a + n) - 96) < 32 ^ (n + 1)
    rw [e]
    omega
theorem xN8_b {T : Int → Int} {a : Int} : ∀ n : Nat, xLet T a n → 0 ≤ xN8 T a n ∧ 2 * xN8 T a n < 256 ^ n
  | 0, _ => ⟨Int.le_refl 0, by show (2 * 0 : Int) < 1; omega⟩
  | n + 1, h => by
    obtain ⟨h1, h2⟩ := h.pred
    have ih := xN8_b n h1
    have e : (256 : Int) ^ (n + 1) = 256 ^ n * 256 := Int.pow_succ 256 n
    show 0 ≤ xN8 T a n * 256 + T (a + n) ∧ 2 * (xN8 T a n * 256 + T (a + n)) < 256 ^ (n + 1)
    rw [e]
    omega
theorem pow_le8 {b : Int} (hb : 1 ≤ b) : ∀ {n m : Nat}, n ≤ m → b ^ n ≤ b ^ m := fun {n m} h => by
  obtain ⟨d, rfl⟩ := Nat.exists_eq_add_of_le h
  clear h
  induction d with
  | zero => exact Int.le_refl _
  | succ d ih =>
    have p : 0 ≤ b ^ (n + d) := Int.pow_nonneg (by omega)
    rw [show n + (d + 1) = (n + d) + 1 by omega, Int.pow_succ]
    have : b ^ (n + d) * 1 ≤ b ^ (n + d) * b := Int.mul_le_mul_of_nonneg_left hb p
    omega
theorem xCd_inj {T K : Int → Int} {a b : Int} : ∀ n m : Nat, xLet T a n → xLet K b m → xCd T a n = xCd K b m → n = m ∧ ∀ i : Nat, i < n → T (a + i) = K (b + i)
  | 0, 0, _, _, _ => ⟨rfl, fun i h => absurd h (by omega)⟩
  | 0, m + 1, _, h2, h => by
    obtain ⟨g1, g2⟩ := h2.pred
    have := (xCd_b m g1).1
    have h : (0 : Int) = xCd K b m * 32 + (K (b + m) - 96) := h
    omega
  | n + 1, 0, h1, _, h => by
    obtain ⟨g1, g2⟩ := h1.pred
    have := (xCd_b n g1).1
    have h : xCd T a n * 32 + (T (a + n) - 96) = (0 : Int) := h
    omega
  | n + 1, m + 1, h1, h2, h => by
    obtain ⟨f1, f2⟩ := h1.pred
    obtain ⟨g1, g2⟩ := h2.pred
    have h : xCd T a n * 32 + (T (a + n) - 96) = xCd K b m * 32 + (K (b + m) - 96) := h
    obtain ⟨rfl, ih⟩ := xCd_inj n m f1 g1 (by omega)
    refine ⟨rfl, fun i hi => ?_⟩
    rcases Nat.lt_or_eq_of_le (show i ≤ n by omega) with q | q
    · exact ih i q
    · rw [q]; omega
theorem xN8_inj {T K : Int → Int} {a b : Int} : ∀ n m : Nat, xLet T a n → xLet K b m → xN8 T a n = xN8 K b m → n = m ∧ ∀ i : Nat, i < n → T (a + i) = K (b + i)
  | 0, 0, _, _, _ => ⟨rfl, fun i h => absurd h (by omega)⟩
  | 0, m + 1, _, h2, h => by
    obtain ⟨g1, g2⟩ := h2.pred
    have := (xN8_b m g1).1
    have h : (0 : Int) = xN8 K b m * 256 + K (b + m) := h
    omega
  | n + 1, 0, h1, _, h => by
    obtain ⟨g1, g2⟩ := h1.pred
    have := (xN8_b n g1).1
    have h : xN8 T a n * 256 + T (a + n) = (0 : Int) := h
    omega
  | n + 1, m + 1, h1, h2, h => by
    obtain ⟨f1, f2⟩ := h1.pred
    obtain ⟨g1, g2⟩ := h2.pred
    have h : xN8 T a n * 256 + T (a + n) = xN8 K b m * 256 + K (b + m) := h
    obtain ⟨rfl, ih⟩ := xN8_inj n m f1 g1 (by omega)
    refine ⟨rfl, fun i hi => ?_⟩
    rcases Nat.lt_or_eq_of_le (show i ≤ n by omega) with q | q
    · exact ih i q
    · rw [q]; omega
theorem xCd_like {T K : Int → Int} {a b : Int} : ∀ n : Nat, (∀ i : Nat, i < n → T (a + i) = K (b + i)) → xCd T a n = xCd K b n
  | 0, _ => rfl
  | n + 1, h => by
    show xCd T a n * 32 + (T (a + n) - 96) = xCd K b n * 32 + (K (b + n) - 96)
    rw [xCd_like n (fun i hi => h i (by omega)), h n (by omega)]
theorem xN8_like {T K : Int → Int} {a b : Int} : ∀ n : Nat, (∀ i : Nat, i < n → T (a + i) = K (b + i)) → xN8 T a n = xN8 K b n
  | 0, _ => rfl
  | n + 1, h => by
    show xN8 T a n * 256 + T (a + n) = xN8 K b n * 256 + K (b + n)
    rw [xN8_like n (fun i hi => h i (by omega)), h n (by omega)]
/-- a name's code and the reference's long of it belong together -/
def xNR (c : Int) (v : Int64) : Prop := ∃ (T : Int → Int) (a : Int) (n : Nat), n ≤ 8 ∧ xLet T a n ∧ c = xCd T a n ∧ v = lZ (xN8 T a n)
theorem xN8_8 {T : Int → Int} {a : Int} {n : Nat} (hn : n ≤ 8) (h : xLet T a n) : -9223372036854775808 ≤ xN8 T a n ∧ xN8 T a n < 9223372036854775808 := by
  have := xN8_b n h
  have := pow_le8 (b := 256) (by omega) hn
  have e : (256 : Int) ^ 8 = 18446744073709551616 := by decide
  omega
theorem xNR.eq {c d : Int} {v w : Int64} (h : xNR c v) (g : xNR d w) : c = d ↔ v = w := by
  obtain ⟨T, a, n, h1, h2, rfl, rfl⟩ := h
  obtain ⟨K, b, m, g1, g2, rfl, rfl⟩ := g
  rw [lZ_inj (xN8_8 h1 h2) (xN8_8 g1 g2)]
  constructor
  · intro e
    obtain ⟨rfl, q⟩ := xCd_inj n m h2 g2 e
    exact xN8_like n q
  · intro e
    obtain ⟨rfl, q⟩ := xN8_inj n m h2 g2 e
    exact xCd_like n q