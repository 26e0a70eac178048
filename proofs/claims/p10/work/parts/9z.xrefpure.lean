theorem bA_tX {f : Nat → Int32} {sz x : Int} (hx : 0 ≤ x) : bA f sz x = tX f sz x := by
  unfold bA tX
  by_cases h : x < sz
  · rw [if_pos h, if_pos ⟨hx, h⟩]; exact and255 _
  · rw [if_neg h, if_neg (fun g => h g.2)]
/-- the reference's number of a keyword -/
def pmL : List Int := [0, 3, 4, 5, 6, 7, 8, 9, 1, 10, 11, 2, 12, 13, 14, 15, 16, 17, 18, 19, 23, 24, 20, 21, 22]
def xPm (k : Int) : Int := if k = -1 then -1 else pmL.getD k.toNat (-1)
theorem xPm_inj0 : ∀ i j : Fin 26, xPm ((i.val : Int) - 1) = xPm ((j.val : Int) - 1) → i = j := by decide +kernel
theorem xPm_inj {a b : Int} (ha : -1 ≤ a ∧ a ≤ 24) (hb : -1 ≤ b ∧ b ≤ 24) : xPm a = xPm b ↔ a = b := by
  constructor
  · intro h
    have q := xPm_inj0 ⟨(a + 1).toNat, by omega⟩ ⟨(b + 1).toNat, by omega⟩ (by
      show xPm (((a + 1).toNat : Int) - 1) = xPm (((b + 1).toNat : Int) - 1)
      rw [show ((a + 1).toNat : Int) - 1 = a by omega, show ((b + 1).toNat : Int) - 1 = b by omega]
      exact h)
    have q2 : (a + 1).toNat = (b + 1).toNat := congrArg Fin.val q
    omega
  · intro h; rw [h]
theorem xPm_rg0 : ∀ i : Fin 26, -1 ≤ xPm ((i.val : Int) - 1) ∧ xPm ((i.val : Int) - 1) ≤ 24 := by decide +kernel
theorem xPm_rg {a : Int} (ha : -1 ≤ a ∧ a ≤ 24) : -1 ≤ xPm a ∧ xPm a ≤ 24 := by
  have q := xPm_rg0 ⟨(a + 1).toNat, by omega⟩
  have q : -1 ≤ xPm (((a + 1).toNat : Int) - 1) ∧ xPm (((a + 1).toNat : Int) - 1) ≤ 24 := q
  rw [show ((a + 1).toNat : Int) - 1 = a by omega] at q
  exact q
/-- where the reference's words begin and end -/
def ksL : List Int := [1, 6, 10, 14, 18, 24, 27, 32, 38, 44, 50, 55, 58, 64, 69, 74, 79, 84, 90, 97, 102, 107, 111, 116, 122]
def keL : List Int := [5, 9, 13, 17, 23, 26, 31, 37, 43, 49, 54, 57, 63, 68, 73, 78, 83, 89, 96, 101, 106, 110, 115, 121, 124]
def clL : List Int := [0, 8, 11, 1, 2, 3, 4, 5, 6, 7, 9, 10, 12, 13, 14, 15, 16, 17, 18, 19, 22, 23, 24, 20, 21]
def kS (w : Int) : Int := ksL.getD w.toNat 125
def kE (w : Int) : Int := keL.getD w.toNat 125
def kC (w : Int) : Int := clL.getD w.toNat 0
theorem kk_a0 : ∀ w : Fin 25, gz keyF (kE (w.val : Int)) = 32 ∧ (1 ≤ kS (w.val : Int) ∧ kS (w.val : Int) < kE (w.val : Int)) ∧ kE (w.val : Int) ≤ 124 ∧ kE (w.val : Int) - kS (w.val : Int) ≤ 6 ∧ kS ((w.val : Int) + 1) = kE (w.val : Int) + 1 ∧ xPm (kC (w.val : Int)) = (w.val : Int) ∧ (0 ≤ kC (w.val : Int) ∧ kC (w.val : Int) < 25) ∧ xCd (gz keyF) (kS (w.val : Int)) (kE (w.val : Int) - kS (w.val : Int)).toNat = kwC (kC (w.val : Int)).toNat := by decide +kernel
theorem kk_a {w : Int} (hw : 0 ≤ w ∧ w < 25) : gz keyF (kE w) = 32 ∧ (1 ≤ kS w ∧ kS w < kE w) ∧ kE w ≤ 124 ∧ kE w - kS w ≤ 6 ∧ kS (w + 1) = kE w + 1 ∧ xPm (kC w) = w ∧ (0 ≤ kC w ∧ kC w < 25) ∧ xCd (gz keyF) (kS w) (kE w - kS w).toNat = kwC (kC w).toNat := by
  obtain ⟨n, rfl⟩ := Int.eq_ofNat_of_zero_le hw.1
  exact kk_a0 ⟨n, by omega⟩
theorem kk_b0 : ∀ (w : Fin 25) (d : Fin 6), kS (w.val : Int) + (d.val : Int) < kE (w.val : Int) → 97 ≤ gz keyF (kS (w.val : Int) + (d.val : Int)) ∧ gz keyF (kS (w.val : Int) + (d.val : Int)) ≤ 122 := by decide +kernel
theorem kk_b {w e : Int} (hw : 0 ≤ w ∧ w < 25) (h1 : kS w ≤ e) (h2 : e < kE w) : 97 ≤ gz keyF e ∧ gz keyF e ≤ 122 := by
  have a := kk_a hw
  obtain ⟨n, rfl⟩ := Int.eq_ofNat_of_zero_le hw.1
  have q := kk_b0 ⟨n, by omega⟩ ⟨(e - kS (n : Int)).toNat, by omega⟩
  have q : kS (n : Int) + ((e - kS (n : Int)).toNat : Int) < kE (n : Int) → 97 ≤ gz keyF (kS (n : Int) + ((e - kS (n : Int)).toNat : Int)) ∧ gz keyF (kS (n : Int) + ((e - kS (n : Int)).toNat : Int)) ≤ 122 := q
  rw [show kS (n : Int) + ((e - kS (n : Int)).toNat : Int) = e by omega] at q
  exact q h2
theorem kk_c0 : ∀ j : Fin 25, 0 ≤ xPm (j.val : Int) ∧ xPm (j.val : Int) < 25 ∧ kC (xPm (j.val : Int)) = (j.val : Int) := by decide +kernel
theorem kS25 : kS 25 = 125 := by decide
/-- the word here is the reference's w-th one -/
def xMt (T : Int → Int) (a e w : Int) : Prop := kE w - kS w = e - a ∧ ∀ i : Nat, (i : Int) < e - a → gz keyF (kS w + i) = T (a + i)
theorem kd_sm {T : Int → Int} {p : Int} (h : xKd T p = 1) : smB (xCh T p) := by
  by_cases g : smB (xCh T p)
  · exact g
  · exfalso
    unfold xKd at h
    rw [if_neg g] at h
    split at h
    · omega
    · split at h
      · split at h <;> omega
      · split at h <;> omega
theorem xMt_kw {T : Int → Int} {p w : Int} (hw : 0 ≤ w ∧ w < 25) (hk : xKd T p = 1) (hle : xPl T p ≤ xEn T p) (h : xMt T (xPl T p) (xEn T p) w) : xPm (xKw T p) = w := by
  obtain ⟨a1, a2, a3, a4, a5, a6, a7, a8⟩ := kk_a hw
  obtain ⟨m1, m2⟩ := h
  have e : xNm T p = kwC (kC w).toNat := by
    unfold xNm xCw
    rw [if_pos (by omega), ← a8, m1]
    exact xCd_like _ (fun i hi => (m2 i (by omega)).symm)
  have e2 : xKw T p = kC w := by
    unfold xKw
    rw [if_pos (kd_sm hk), kwu_hit (w := (kC w).toNat) (by omega) e.symm]
    omega
  rw [e2, a6]
theorem xMt_no {T : Int → Int} {p : Int} (hl : xKd T p = 1 → xLet T (xPl T p) (xLn T p)) (hle : xPl T p ≤ xEn T p) (h : xKd T p = 1 → ∀ w : Int, 0 ≤ w → w < 25 → ¬ xMt T (xPl T p) (xEn T p) w) : xPm (xKw T p) = -1 := by
  rcases Classical.em (xKw T p = -1) with c | c
  · rw [c]; rfl
  · exfalso
    have hk := kw_kd c
    have hs := kd_sm hk
    have e : xKw T p = kwu (xNm T p) 25 := by unfold xKw; rw [if_pos hs]
    rcases kwu_or (xNm T p) 25 with q | ⟨j, q1, q2, q3⟩
    · exact c (e.trans q)
    · obtain ⟨b1, b2, b3⟩ := kk_c0 ⟨j, q1⟩
      have b1 : 0 ≤ xPm (j : Int) := b1
      have b2 : xPm (j : Int) < 25 := b2
      have b3 : kC (xPm (j : Int)) = (j : Int) := b3
      obtain ⟨a1, a2, a3, a4, a5, a6, a7, a8⟩ := kk_a ⟨b1, b2⟩
      have p0 : 0 < kwC j := (kw_pos ⟨j, q1⟩).1
      have n0 : xNm T p = xCd T (xPl T p) (xLn T p) := by
        by_cases g : xEn T p - xPl T p ≤ 8
        · unfold xNm xCw; rw [if_pos g]; rfl
        · exfalso
          have : xNm T p = -1 := by unfold xNm xCw; rw [if_neg g]
          omega
      rw [b3, show ((j : Int)).toNat = j by omega, q2, n0] at a8
      obtain ⟨r1, r2⟩ := xCd_inj _ _ (hl hk) (fun i h1 h2 => kk_b ⟨b1, b2⟩ h1 (by omega)) a8.symm
      have r3 : xLn T p = (xEn T p - xPl T p).toNat := rfl
      exact h hk (xPm (j : Int)) b1 b2 ⟨by omega, fun i hi => (r2 i (by omega)).symm⟩
theorem xNm_m1 {T : Int → Int} {p : Int} (h : xLet T (xPl T p) (xLn T p)) (hl : xPl T p ≤ xEn T p) : xNm T p = -1 ↔ 8 < xEn T p - xPl T p := by
  unfold xNm xCw
  split
  · have := xCd_8 (n := (xEn T p - xPl T p).toNat) (by omega) h
    omega
  · omega
/-- the reference's names by their codes -/
def xNr (g : Nat → Int64) (b : Int) (N : Int → Int) (n : Int) : Prop := ∀ k : Int, 0 ≤ k → k < n → xNR (N k) (g (b + k).toNat)
theorem xNr.up {g h : Nat → Int64} {b : Int} {N : Int → Int} {n c e : Int} {v : Int64} (hN : xNr g b N n) (hb : 0 ≤ b ∧ b < 100) (hn : 0 ≤ n ∧ n < 100) (he : e = b + n) (hh : h = vp_updL g (iZ e).toNatClampNeg v) (hv : xNR c v) : xNr h b (xUp N n c) (n + 1) := fun k h1 h2 => by
  rw [hh, zcl ⟨by omega, by omega⟩]
  unfold xUp vp_updL
  by_cases q : k = n
  · rw [if_pos q, if_pos (by omega)]; exact hv
  · rw [if_neg q, if_neg (by omega)]; exact hN k h1 (by omega)
theorem tk_1 {k t : Int} (h : t = tkm k) (hk : 0 ≤ k ∧ k ≤ 4) : (k = 0 ∧ t = 0) ∨ (k = 1 ∧ t = 2) ∨ (k = 2 ∧ t = 3) ∨ (k = 3 ∧ t = 4) ∨ (k = 4 ∧ t = 1) := by
  have := tkm_c k
  omega

