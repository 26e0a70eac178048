/-- what the reference has read of a sky -/
def MSX (f : Nat → Int32) (n ni lw we : Int) (F G : Int → Int) : Prop := gz f 3560 = n ∧ gz f 3561 = ni ∧ gz f 3562 = lw ∧ gz f 3678 = we ∧ xRw (sh f 3570) F 36 ∧ xRw (sh f 3606) G (ni * 4)
theorem MSX.keep {f g : Nat → Int32} {n ni lw we e v : Int} {F G : Int → Int} (h : MSX f n ni lw we F G) (hg : g = upd f (iZ e).toNatClampNeg (iZ v)) (hv : -2147483648 ≤ v ∧ v < 2147483648) (hni : 0 ≤ ni ∧ ni ≤ 8) (he : 0 ≤ e ∧ e < 2147483648) : (¬ e = 3560 → gz g 3560 = n) ∧ (¬ e = 3561 → gz g 3561 = ni) ∧ (¬ e = 3562 → gz g 3562 = lw) ∧ (¬ e = 3678 → gz g 3678 = we) ∧ (e < 3570 ∨ 3606 ≤ e → xRw (sh g 3570) F 36) ∧ (e < 3606 ∨ 3606 + ni * 4 ≤ e → xRw (sh g 3606) G (ni * 4)) := by
  obtain ⟨a, b, c, d, hF, hG⟩ := h
  have q := fun j hj => gz_upc (j := j) hg he hv hj
  have q0 := q 3560 (by omega)
  have q1 := q 3561 (by omega)
  have q2 := q 3562 (by omega)
  have q3 := q 3678 (by omega)
  refine ⟨fun _ => by omega, fun _ => by omega, fun _ => by omega, fun _ => by omega, fun h j h1 h2 => ?_, fun h j h1 h2 => ?_⟩
  · have := hF j h1 h2
    rw [gz_sh (by omega) h1] at this ⊢
    have := q (3570 + j) (by omega)
    omega
  · have := hG j h1 h2
    rw [gz_sh (by omega) h1] at this ⊢
    have := q (3606 + j) (by omega)
    omega
theorem MSX.upF {f g : Nat → Int32} {n ni lw we e v w : Int} {F G : Int → Int} (h : MSX f n ni lw we F G) (hg : g = upd f (iZ e).toNatClampNeg (iZ v)) (he : e = 3570 + ((n * 6) + w)) (hn : 0 ≤ n ∧ n < 6) (hw : 0 ≤ w ∧ w < 6) (hv : -2147483648 ≤ v ∧ v < 2147483648) (hni : 0 ≤ ni ∧ ni ≤ 8) : MSX g n ni lw we (xUp F ((n * 6) + w) v) G := by
  obtain ⟨k0, k1, k2, k3, k4, k5⟩ := h.keep hg hv hni ⟨by omega, by omega⟩
  exact ⟨k0 (by omega), k1 (by omega), k2 (by omega), k3 (by omega), xRw.up h.2.2.2.2.1 (sh_up hg (by omega) (by omega) ⟨he, by omega⟩) ⟨by omega, by omega⟩ hv, k5 (by omega)⟩
theorem MSX.we {f g : Nat → Int32} {n ni lw we v : Int} {F G : Int → Int} (h : MSX f n ni lw we F G) (hg : g = upd f (iZ 3678).toNatClampNeg (iZ v)) (hv : -2147483648 ≤ v ∧ v < 2147483648) (hni : 0 ≤ ni ∧ ni ≤ 8) : MSX g n ni lw v F G := by
  obtain ⟨k0, k1, k2, k3, k4, k5⟩ := h.keep hg hv hni ⟨by omega, by omega⟩
  have q := gz_upc (j := 3678) hg (by omega) hv (by omega)
  exact ⟨k0 (by omega), k1 (by omega), k2 (by omega), by omega, k4 (by omega), k5 (by omega)⟩
theorem MSX.n {f g : Nat → Int32} {n ni lw we v : Int} {F G : Int → Int} (h : MSX f n ni lw we F G) (hg : g = upd f (iZ 3560).toNatClampNeg (iZ v)) (hv : -2147483648 ≤ v ∧ v < 2147483648) (hni : 0 ≤ ni ∧ ni ≤ 8) : MSX g v ni lw we F G := by
  obtain ⟨k0, k1, k2, k3, k4, k5⟩ := h.keep hg hv hni ⟨by omega, by omega⟩
  have q := gz_upc (j := 3560) hg (by omega) hv (by omega)
  exact ⟨by omega, k1 (by omega), k2 (by omega), k3 (by omega), k4 (by omega), k5 (by omega)⟩
theorem MSX.lw {f g : Nat → Int32} {n ni lw we v : Int} {F G : Int → Int} (h : MSX f n ni lw we F G) (hg : g = upd f (iZ 3562).toNatClampNeg (iZ v)) (hv : -2147483648 ≤ v ∧ v < 2147483648) (hni : 0 ≤ ni ∧ ni ≤ 8) : MSX g n ni v we F G := by
  obtain ⟨k0, k1, k2, k3, k4, k5⟩ := h.keep hg hv hni ⟨by omega, by omega⟩
  have q := gz_upc (j := 3562) hg (by omega) hv (by omega)
  exact ⟨k0 (by omega), k1 (by omega), by omega, k3 (by omega), k4 (by omega), k5 (by omega)⟩
theorem MSX.ic {f g : Nat → Int32} {n ni lw we e v : Int} {F G : Int → Int} (h : MSX f n ni lw we F G) (hg : g = upd f (iZ e).toNatClampNeg (iZ v)) (hv : -2147483648 ≤ v ∧ v < 2147483648) (hni : 0 ≤ ni ∧ ni ≤ 8) (he : 3606 + ni * 4 ≤ e ∧ e < 3678) : MSX g n ni lw we F G := by
  obtain ⟨k0, k1, k2, k3, k4, k5⟩ := h.keep hg hv hni ⟨by omega, by omega⟩
  exact ⟨k0 (by omega), k1 (by omega), k2 (by omega), k3 (by omega), k4 (by omega), k5 (by omega)⟩
theorem MSX.ni {f g : Nat → Int32} {n ni lw we a b c d : Int} {F G : Int → Int} (h : MSX f n ni lw we F G) (hg : g = upd f (iZ 3561).toNatClampNeg (iZ (ni + 1))) (hni : 0 ≤ ni ∧ ni < 8) (ha : gz f (3606 + (4 * ni)) = a) (hb : gz f ((3606 + (4 * ni)) + 1) = b) (hc : gz f ((3606 + (4 * ni)) + 2) = c) (hd : gz f ((3606 + (4 * ni)) + 3) = d) : MSX g n (ni + 1) lw we F (xUp (xUp (xUp (xUp G ((ni * 4) + 0) a) ((ni * 4) + 1) b) ((ni * 4) + 2) c) ((ni * 4) + 3) d) := by
  obtain ⟨k0, k1, k2, k3, k4, k5⟩ := h.keep hg ⟨by omega, by omega⟩ (by omega) ⟨by omega, by omega⟩
  have q := fun j hj => gz_upc (j := j) hg (by omega) ⟨by omega, by omega⟩ hj
  have q1 := q 3561 (by omega)
  refine ⟨k0 (by omega), by omega, k2 (by omega), k3 (by omega), k4 (by omega), fun j h1 h2 => ?_⟩
  have q2 := q (3606 + j) (by omega)
  have e : gz (sh g 3606) j = gz f (3606 + j) := by rw [gz_sh (by omega) h1]; omega
  rw [e]
  unfold xUp
  by_cases c3 : j = (ni * 4) + 3
  · rw [if_pos c3, ← hd]; congr 1; omega
  · rw [if_neg c3]
    by_cases c2 : j = (ni * 4) + 2
    · rw [if_pos c2, ← hc]; congr 1; omega
    · rw [if_neg c2]
      by_cases c1 : j = (ni * 4) + 1
      · rw [if_pos c1, ← hb]; congr 1; omega
      · rw [if_neg c1]
        by_cases c0 : j = (ni * 4) + 0
        · rw [if_pos c0, ← ha]; congr 1; omega
        · rw [if_neg c0]
          have := h.2.2.2.2.2 j h1 (by omega)
          rw [gz_sh (by omega) h1] at this
          exact this
theorem xTr_no {T : Int → Int} {N : Int → Int} {n a cu : Int} (h : ¬ (xIn T cu ∧ xFn N n (xNm T cu) = a)) (ha : ¬ a = -1) : xTr T N n a cu = xTr T N n (-1) cu := by
  unfold xTr
  by_cases g : xRk T N n cu = -1
  · rw [if_pos g, if_pos g]
  · rw [if_neg g, if_neg g, if_neg g, if_neg]
    intro e
    by_cases i : xIn T cu
    · unfold xRk at e; rw [if_pos i] at e; exact h ⟨i, e⟩
    · exact g (by unfold xRk; rw [if_neg i])
theorem xTr_tw {T : Int → Int} {N : Int → Int} {n a cu : Int} (i : xIn T cu) (h : xFn N n (xNm T cu) = a) (ha : ¬ a = -1) : xTr T N n a cu = .inl (xEr T cu 5) := by
  have e : xRk T N n cu = a := by unfold xRk; rw [if_pos i]; exact h
  unfold xTr
  rw [if_neg (by rw [e]; exact ha), if_pos e]
theorem xTw_1 {T : Int → Int} {w c q : Int} (h : xKw T c = w) (hq : q = xEn T c) : xTw T w c = .inr q := by
  unfold xTw
  rw [if_pos h, hq]
noncomputable def xR2 (T : Int → Int) (n we c : Int) (F : Int → Int) : (Int × Int) ⊕ (Int × Int × (Int → Int)) := xBn (xFF T 3 2 0 11 n c F) fun b => xR3 T n we b.1 b.2
noncomputable def xR1 (T : Int → Int) (n we c : Int) (F : Int → Int) : (Int × Int) ⊕ (Int × Int × (Int → Int)) := xBn (xFF T 2 1 1 99 n c F) fun b => xR2 T n we b.1 b.2
theorem xRock_1 {T : Int → Int} {N F F1 : Int → Int} {n we c q q1 : Int} (hn : ¬ 6 ≤ n) (h0 : xNn T N n (xEn T c) = .inr q) (h1 : xFF T 1 0 0 20 n q F = .inr (q1, F1)) : xRock T N n we F c = xR1 T n we q1 F1 := by
  unfold xRock
  rw [if_neg hn, xBn_r h0, xBn_r h1]
  rfl
theorem xR1_r {T : Int → Int} {n we c q : Int} {F G : Int → Int} (h : xFF T 2 1 1 99 n c F = .inr (q, G)) : xR1 T n we c F = xR2 T n we q G := by
  unfold xR1
  rw [xBn_r h]
theorem xR1_l {T : Int → Int} {n we c : Int} {F : Int → Int} {e : Int × Int} (h : xFF T 2 1 1 99 n c F = .inl e) : xR1 T n we c F = .inl e := by
  unfold xR1
  rw [xBn_l h]
theorem xR2_r {T : Int → Int} {n we c q : Int} {F G : Int → Int} (h : xFF T 3 2 0 11 n c F = .inr (q, G)) : xR2 T n we c F = xR3 T n we q G := by
  unfold xR2
  rw [xBn_r h]
theorem xR2_l {T : Int → Int} {n we c : Int} {F : Int → Int} {e : Int × Int} (h : xFF T 3 2 0 11 n c F = .inl e) : xR2 T n we c F = .inl e := by
  unfold xR2
  rw [xBn_l h]
theorem xWe_1q {T : Int → Int} {n we c q w : Int} (h : xKw T c = 7) (hq : q = xEn T c) (hw : w = xOr we n) : xWe T n we c = (q, w) := by
  unfold xWe
  rw [if_pos h, hq, hw]
theorem xWe_0q {T : Int → Int} {n we c w : Int} (h : ¬ xKw T c = 7) (hw : w = we) : xWe T n we c = (c, w) := by
  unfold xWe
  rw [if_neg h, hw]
