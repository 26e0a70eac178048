theorem nw_two {f g F G : Nat → Int32} {n ni x w : Int} {K L B K' L' B' : Int → Int} (hx : FXI f n) (hn : n ≤ 6) (h : ∀ e : Int, 0 ≤ e → e < 36 → gz f e = gz F e) (k : ∀ e : Int, 0 ≤ e → e < ni * 4 → gz g e = gz G e) (q : isNW (arF f g ni) n x w K L B) (q' : isNW (arF F G ni) n x w K' L' B') {o : Int} (a : 0 ≤ o) (b : o < n) : K' o = K o ∧ L' o = L o ∧ (K o < 1000000 → B' o = B o) :=
  nw_eq (later_ar hx) q (isNW_like q' (fun r t u h1 h2 h3 h4 => (arF_like h k ⟨h1, by omega⟩ ⟨h3, by omega⟩).symm)) a b
theorem nwk_eq {f g F G : Nat → Int32} {n ni x w o z z' : Int} (hx : FXI f n) (hn : n ≤ 6) (h : ∀ e : Int, 0 ≤ e → e < 36 → gz f e = gz F e) (k : ∀ e : Int, 0 ≤ e → e < ni * 4 → gz g e = gz G e) (a : 0 ≤ o) (b : o < n) (v : (∃ K L B : Int → Int, isNW (arF f g ni) n x w K L B ∧ ((K o = 1000000 ∧ (z : Int) = -1) ∨ (K o < 1000000 ∧ (z : Int) = K o)))) (u : (∃ K L B : Int → Int, isNW (arF F G ni) n x w K L B ∧ ((K o = 1000000 ∧ (z' : Int) = -1) ∨ (K o < 1000000 ∧ (z' : Int) = K o)))) : z = z' := by
  obtain ⟨K, L, B, q, c⟩ := v
  obtain ⟨K', L', B', q', c'⟩ := u
  obtain ⟨e1, e2, e3⟩ := nw_two hx hn h k q q' a b
  omega
theorem nwl_eq {f g F G : Nat → Int32} {n ni x w o z z' : Int} (hx : FXI f n) (hn : n ≤ 6) (h : ∀ e : Int, 0 ≤ e → e < 36 → gz f e = gz F e) (k : ∀ e : Int, 0 ≤ e → e < ni * 4 → gz g e = gz G e) (a : 0 ≤ o) (b : o < n) (v : (∃ K L B : Int → Int, isNW (arF f g ni) n x w K L B ∧ (z : Int) = L o)) (u : (∃ K L B : Int → Int, isNW (arF F G ni) n x w K L B ∧ (z' : Int) = L o)) : z = z' := by
  obtain ⟨K, L, B, q, c⟩ := v
  obtain ⟨K', L', B', q', c'⟩ := u
  obtain ⟨e1, e2, e3⟩ := nw_two hx hn h k q q' a b
  omega
theorem nwb_eq {f g F G : Nat → Int32} {n ni x w o z z' : Int} (hx : FXI f n) (hn : n ≤ 6) (h : ∀ e : Int, 0 ≤ e → e < 36 → gz f e = gz F e) (k : ∀ e : Int, 0 ≤ e → e < ni * 4 → gz g e = gz G e) (a : 0 ≤ o) (b : o < n) (v : (∃ K L B : Int → Int, isNW (arF f g ni) n x w K L B ∧ ((K o = 1000000 ∧ (z : Int) = -1) ∨ (K o < 1000000 ∧ (z : Int) = B o)))) (u : (∃ K L B : Int → Int, isNW (arF F G ni) n x w K L B ∧ ((K o = 1000000 ∧ (z' : Int) = -1) ∨ (K o < 1000000 ∧ (z' : Int) = B o)))) : z = z' := by
  obtain ⟨K, L, B, q, c⟩ := v
  obtain ⟨K', L', B', q', c'⟩ := u
  obtain ⟨e1, e2, e3⟩ := nw_two hx hn h k q q' a b
  by_cases y : K o < 1000000
  · have := e3 y
    omega
  · omega
theorem nwK_sk {f g F G : Nat → Int32} {n ni x w : Int} (hn : n ≤ 6) (h : ∀ e : Int, 0 ≤ e → e < 36 → gz f e = gz F e) (k : ∀ e : Int, 0 ≤ e → e < ni * 4 → gz g e = gz G e) : nwK (arF f g ni) n x w = nwK (arF F G ni) n x w := nwK_like (fun r t o a b c d => arF_like h k ⟨a, by omega⟩ ⟨c, by omega⟩)
theorem bS_xy {P Q : Int → Prop} {n x y : Int} (h : iZ x = bS P n.toNat ∧ (-2147483648 ≤ x ∧ x < 2147483648)) (k : iZ y = bS Q n.toNat ∧ (-2147483648 ≤ y ∧ y < 2147483648)) (e : ∀ r : Int, 0 ≤ r → r < n → (P r ↔ Q r)) : x = y := by
  refine iz_eq (h.1.trans (Eq.trans ?_ k.1.symm)) h.2 k.2
  by_cases c : 0 ≤ n
  · exact bS_like (fun r a b => e r a (by omega))
  · rw [show n.toNat = 0 by omega]; rfl
theorem ov_iff {K K' a b : Int} (e : K = K') (e2 : a = b) : (K < a ↔ K' < b) := by rw [e, e2]
theorem cn_xy {f g F G : Nat → Int32} {n ni w x y : Int} (hn : n ≤ 6) (h : ∀ e : Int, 0 ≤ e → e < 36 → gz f e = gz F e) (k : ∀ e : Int, 0 ≤ e → e < ni * 4 → gz g e = gz G e) (v : isCn (fun r => mxF (nwK (arF f g ni) n r w) n.toNat) n x) (u : isCn (fun r => mxF (nwK (arF F G ni) n r w) n.toNat) n y) : x = y := by
  have e : (fun r : Int => mxF (nwK (arF f g ni) n r w) n.toNat) = fun r : Int => mxF (nwK (arF F G ni) n r w) n.toNat := funext (fun r => by rw [nwK_sk hn h k])
  rw [← e] at u
  exact isCn_eq v u
theorem hb_xy {f g F G : Nat → Int32} {n ni x w z z' : Int} (hn : n ≤ 6) (h : ∀ e : Int, 0 ≤ e → e < 36 → gz f e = gz F e) (k : ∀ e : Int, 0 ≤ e → e < ni * 4 → gz g e = gz G e) (hx : 0 ≤ x ∧ x < n) (v : (mnF (fun r => arF f g ni r (nwK (arF f g ni) n x w r) x) x n.toNat = 1000000 ∧ z = -1) ∨ (mnF (fun r => arF f g ni r (nwK (arF f g ni) n x w r) x) x n.toNat < 1000000 ∧ z = mnF (fun r => arF f g ni r (nwK (arF f g ni) n x w r) x) x n.toNat)) (u : (mnF (fun r => arF F G ni r (nwK (arF F G ni) n x w r) x) x n.toNat = 1000000 ∧ z' = -1) ∨ (mnF (fun r => arF F G ni r (nwK (arF F G ni) n x w r) x) x n.toNat < 1000000 ∧ z' = mnF (fun r => arF F G ni r (nwK (arF F G ni) n x w r) x) x n.toNat)) : z = z' := by
  have e : mnF (fun r => arF f g ni r (nwK (arF f g ni) n x w r) x) x n.toNat = mnF (fun r => arF F G ni r (nwK (arF F G ni) n x w r) x) x n.toNat := mnF_like (fun j a b _ => by
    show arF f g ni j (nwK (arF f g ni) n x w j) x = arF F G ni j (nwK (arF F G ni) n x w j) x
    rw [nwK_sk hn h k]
    exact arF_like h k ⟨a, by omega⟩ ⟨hx.1, by omega⟩)
  omega
theorem rm_xy {f g F G : Nat → Int32} {n ni w x y : Int} (hn : n ≤ 6) (h : ∀ e : Int, 0 ≤ e → e < 36 → gz f e = gz F e) (k : ∀ e : Int, 0 ≤ e → e < ni * 4 → gz g e = gz G e) (v : ∃ m : Int, isMx (fun r => smF (fun o => nwK (arF f g ni) n o w r) n.toNat) n x m) (u : ∃ m : Int, isMx (fun r => smF (fun o => nwK (arF F G ni) n o w r) n.toNat) n y m) : x = y := by
  have e : (fun r : Int => smF (fun o => nwK (arF f g ni) n o w r) n.toNat) = fun r : Int => smF (fun o => nwK (arF F G ni) n o w r) n.toNat := by
    funext r
    congr 1
    funext o
    rw [nwK_sk hn h k]
  rw [← e] at u
  obtain ⟨m, v⟩ := v
  obtain ⟨m', u⟩ := u
  exact isMx_eq v u
theorem ecF_like {f F g G : Nat → Int32} {ni a w b : Int} (h : ∀ e : Int, 0 ≤ e → e < 36 → gz f e = gz F e) (k : ∀ e : Int, 0 ≤ e → e < ni * 4 → gz g e = gz G e) (ha : 0 ≤ a ∧ a < 6) (hb : 0 ≤ b ∧ b < 6) : ecF f g ni a w b = ecF F G ni a w b := by
  unfold ecF
  rw [arF_like h k ha hb, arF_like h k hb ha]