theorem bl {k N : Nat} (h : Nat.ble (k + 1) N = true) : k < N := Nat.le_of_ble_eq_true h
def disj (a b : List Nat) : Bool := a.all (fun i => !(b.contains i))
theorem dj {a b : List Nat} (h : disj a b = true) : ∀ i ∈ a, i ∉ b := by
  intro i hi hb
  have q : (!(b.contains i)) = true := List.all_eq_true.mp (show a.all (fun i => !(b.contains i)) = true from h) i hi
  rw [List.contains_iff_mem.mpr hb] at q
  exact absurd q (by decide)
theorem s1p {x : UInt8} {n : Nat} (hx : x.toNat = n) (hn : n < 128) : Jvm.ClassFile.Reader.signed 8 x.toNat = (n : Int) := by
  rw [hx]
  unfold Jvm.ClassFile.Reader.signed
  rw [if_pos (by omega)]
theorem s2p {x y : UInt8} {n : Nat} (hx : x.toNat * 256 + y.toNat = n) (hn : n < 32768) : Jvm.ClassFile.Reader.signed 16 (x.toNat * 256 + y.toNat) = (n : Int) := by
  rw [hx]
  unfold Jvm.ClassFile.Reader.signed
  rw [if_pos (by omega)]
theorem bip_m2 : (Int8.ofInt (-2)).toInt32 = iZ (-2) := by decide
theorem bip_10 : (Int8.ofInt 10).toInt32 = iZ 10 := by decide
theorem bip_12 : (Int8.ofInt 12).toInt32 = iZ 12 := by decide
theorem bip_20 : (Int8.ofInt 20).toInt32 = iZ 20 := by decide
theorem bip_46 : (Int8.ofInt 46).toInt32 = iZ 46 := by decide
theorem bip_6 : (Int8.ofInt 6).toInt32 = iZ 6 := by decide
theorem sip_14436 : (Int16.ofInt 14436).toInt32 = iZ 14436 := by decide
theorem sip_400 : (Int16.ofInt 400).toInt32 = iZ 400 := by decide
theorem sip_401 : (Int16.ofInt 401).toInt32 = iZ 401 := by decide
theorem sip_500 : (Int16.ofInt 500).toInt32 = iZ 500 := by decide
theorem wn_m1 : -2147483648 ≤ ((-1) : Int) ∧ ((-1) : Int) < 2147483648 := by decide
theorem wn_m2 : -2147483648 ≤ ((-2) : Int) ∧ ((-2) : Int) < 2147483648 := by decide
theorem wn_0 : -2147483648 ≤ (0 : Int) ∧ (0 : Int) < 2147483648 := by decide
theorem wn_1 : -2147483648 ≤ (1 : Int) ∧ (1 : Int) < 2147483648 := by decide
theorem wn_1000000 : -2147483648 ≤ (1000000 : Int) ∧ (1000000 : Int) < 2147483648 := by decide
theorem wn_400 : -2147483648 ≤ (400 : Int) ∧ (400 : Int) < 2147483648 := by decide
theorem wn_500 : -2147483648 ≤ (500 : Int) ∧ (500 : Int) < 2147483648 := by decide
theorem wn_6 : -2147483648 ≤ (6 : Int) ∧ (6 : Int) < 2147483648 := by decide