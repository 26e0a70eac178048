/-- only a row of six is written, but for its fifth -/
def RWR (g f : Nat → Int32) (y : Int) : Prop := ∀ e : Int, 0 ≤ e → (e < y ∨ y + 6 ≤ e ∨ e = y + 4) → gz g e = gz f e
theorem RWR.rf (f : Nat → Int32) (y : Int) : RWR f f y := fun _ _ _ => rfl
theorem RWR.tr {h g f : Nat → Int32} {y : Int} (a : RWR h g y) (b : RWR g f y) : RWR h f y := fun e x z => (a e x z).trans (b e x z)
theorem RWR.up {g f : Nat → Int32} {y i v : Int} (hg : g = upd f (iZ i).toNatClampNeg (iZ v)) (hy : 0 ≤ y) (hi : (y ≤ i ∧ i < y + 6 ∧ i < 2147483648) ∧ ¬ i = y + 4) (hv : -2147483648 ≤ v ∧ v < 2147483648) : RWR g f y := fun e x z => by
  have c := gz_upc (j := e) hg (by omega) hv x
  omega
theorem RWR.kp {g f : Nat → Int32} {y : Int} (h : RWR g f y) (hy : 3560 ≤ y) : KP g f := fun e a b => h e a (Or.inl (by omega))
/-- what a row may name -/
def YRO (f : Nat → Int32) (n s y : Int) : Prop := (gz f y = 17 → 0 ≤ gz f (y + 1) ∧ gz f (y + 1) < n) ∧ (gz f y = 1923 → 0 ≤ gz f (y + 2) ∧ gz f (y + 2) < 6) ∧ (0 ≤ gz f (y + 4) ∧ gz f (y + 4) < s)
def NYR (f of0 : Nat → Int32) (dp ct : Int) : Prop := (0 ≤ gz f 3565 ∧ (0 ≤ ct ∧ ct ≤ 30) ∧ (0 ≤ dp ∧ dp ≤ 3) ∧ gz f 3565 + dp ≤ 2 * ct) ∧ (∀ i : Int, 0 ≤ i → i < dp → 0 ≤ gz of0 i ∧ gz of0 i < gz f 3565) ∧ (∀ k : Int, 0 ≤ k → k < gz f 3565 → YRO f (gz f 0) (gz f 3565) (4080 + (6 * k)))
theorem NYR.add {f g of0 og : Nat → Int32} {dp ct dq cq : Int} (h : NYR f of0 dp ct) (hct : ct < 30 ∧ cq = ct + 1) (hA : ∀ e : Int, 0 ≤ e → (e < 3560 ∨ (4080 ≤ e ∧ e < 4080 + 6 * gz f 3565)) → gz g e = gz f e) (h5 : gz g 3565 = gz f 3565 + 1) (hr1 : gz g (4080 + (6 * gz f 3565)) = 17 → 0 ≤ gz g ((4080 + (6 * gz f 3565)) + 1) ∧ gz g ((4080 + (6 * gz f 3565)) + 1) < gz f 0) (hr2 : gz g (4080 + (6 * gz f 3565)) = 1923 → 0 ≤ gz g ((4080 + (6 * gz f 3565)) + 2) ∧ gz g ((4080 + (6 * gz f 3565)) + 2) < 6) (hr4 : gz g ((4080 + (6 * gz f 3565)) + 4) = 0) (ho : (dq = dp ∧ og = of0) ∨ ((dq = dp + 1 ∧ dp < 3) ∧ og = upd of0 (iZ dp).toNatClampNeg (iZ (gz f 3565)))) : NYR g og dq cq := by
  obtain ⟨a, b, c⟩ := h
  have h0 := hA 0 (by omega) (by omega)
  have hs : gz f 3565 ≤ 60 := by omega
  refine ⟨by rcases ho with ho | ho <;> omega, fun i h1 h2 => ?_, fun k h1 h2 => ?_⟩
  · rcases ho with ⟨q1, q2⟩ | ⟨q1, q2⟩
    · rw [q2]; have := b i h1 (by omega); omega
    · have u := gz_upc (j := i) q2 (by omega) (by omega) h1
      rcases u with u | u
      · omega
      · have := b i h1 (by omega); omega
  · rcases Int.lt_or_eq_of_le (show k ≤ gz f 3565 by omega) with q | q
    · have y := c k h1 q
      unfold YRO at y ⊢
      rw [hA (4080 + (6 * k)) (by omega) (by omega), hA (4080 + (6 * k) + 1) (by omega) (by omega), hA (4080 + (6 * k) + 2) (by omega) (by omega), hA (4080 + (6 * k) + 4) (by omega) (by omega), h0, h5]
      exact ⟨y.1, y.2.1, y.2.2.1, by omega⟩
    · rw [q]
      unfold YRO
      rw [hr4, h0]
      exact ⟨hr1, hr2, by omega, by omega⟩
theorem NYR.close {f g g1 g2 of0 : Nat → Int32} {dp ct e1 e2 v1 v2 dq cq : Int} (h : NYR f of0 dp ct) (hd : 0 < dp ∧ dq = dp - 1 ∧ cq = ct) (hA : ∀ e : Int, 0 ≤ e → (e < 3560 ∨ (4080 ≤ e ∧ e < 4080 + 6 * gz f 3565)) → gz g e = gz f e) (h5 : gz g 3565 = gz f 3565 + 1) (hw : gz g (4080 + (6 * gz f 3565)) = 21) (hg1 : g1 = upd g (iZ e1).toNatClampNeg (iZ v1)) (he1 : e1 = (4080 + (6 * gz f 3565)) + 4) (hv1 : v1 = gz of0 (dp - 1)) (hg2 : g2 = upd g1 (iZ e2).toNatClampNeg (iZ v2)) (he2 : e2 = (4080 + (6 * gz of0 (dp - 1))) + 4) (hv2 : v2 = gz f 3565) : NYR g2 of0 dq cq := by
  obtain ⟨a, b, c⟩ := h
  have h0 := hA 0 (by omega) (by omega)
  have hs : gz f 3565 ≤ 60 := by omega
  have ho := b (dp - 1) (by omega) (by omega)
  have u1 := fun j hj => gz_upc (j := j) hg1 (by omega) (by omega) hj
  have u2 := fun j hj => gz_upc (j := j) hg2 (by omega) (by omega) hj
  have z0 := u1 0 (by omega)
  have z1 := u2 0 (by omega)
  have y0 := u1 3565 (by omega)
  have y1 := u2 3565 (by omega)
  have s5 : gz g2 3565 = gz f 3565 + 1 := by omega
  refine ⟨by omega, fun i h1 h2 => by have := b i h1 (by omega); omega, fun k h1 h2 => ?_⟩
  have r0 := u1 (4080 + (6 * k)) (by omega)
  have r0' := u2 (4080 + (6 * k)) (by omega)
  have r1 := u1 (4080 + (6 * k) + 1) (by omega)
  have r1' := u2 (4080 + (6 * k) + 1) (by omega)
  have r2 := u1 (4080 + (6 * k) + 2) (by omega)
  have r2' := u2 (4080 + (6 * k) + 2) (by omega)
  have r4 := u1 (4080 + (6 * k) + 4) (by omega)
  have r4' := u2 (4080 + (6 * k) + 4) (by omega)
  rcases Int.lt_or_eq_of_le (show k ≤ gz f 3565 by omega) with q | q
  · have y := c k h1 q
    have w0 := hA (4080 + (6 * k)) (by omega) (by omega)
    have w1 := hA (4080 + (6 * k) + 1) (by omega) (by omega)
    have w2 := hA (4080 + (6 * k) + 2) (by omega) (by omega)
    have w4 := hA (4080 + (6 * k) + 4) (by omega) (by omega)
    unfold YRO at y ⊢
    obtain ⟨y1, y2, y3⟩ := y
    refine ⟨fun t => ?_, fun t => ?_, ?_⟩
    · have := y1 (by omega); omega
    · have := y2 (by omega); omega
    · omega
  · rw [q] at r0 r0' r1 r1' r2 r2' r4 r4' ⊢
    unfold YRO
    exact ⟨fun t => by omega, fun t => by omega, by omega⟩
theorem NYR.m0 {f g h of0 : Nat → Int32} {ct : Int} (hN : NYR f of0 0 ct) (hM : M0 g) (h0 : gz g 0 = gz f 0) (h5 : gz h 5 = gz f 3565) (hc : ∀ e : Int, 520 ≤ e → e < 884 → gz h e = gz f (3560 + e)) (hk : ∀ e : Int, 0 ≤ e → e < 520 → ¬ e = 5 → gz h e = gz g e) : M0 h := by
  obtain ⟨a, b, c⟩ := hN
  obtain ⟨a0, a1, a3, a4, a5, aF, aO, aS⟩ := hM
  have k0 := hk 0 (by omega) (by omega) (by omega)
  have k1 := hk 1 (by omega) (by omega) (by omega)
  have k3 := hk 3 (by omega) (by omega) (by omega)
  have k4 := hk 4 (by omega) (by omega) (by omega)
  refine ⟨by omega, by omega, by omega, by omega, by omega, ?_, ?_, ?_⟩
  · rw [k0]
    intro r h1 h2
    have e : ∀ w : Int, 0 ≤ w → w < 6 → gz (sh h 10) ((r * 6) + w) = gz (sh g 10) ((r * 6) + w) := fun w g1 g2 => by
      rw [gz_sh (by omega) (by omega), gz_sh (by omega) (by omega)]
      exact hk _ (by omega) (by omega) (by omega)
    rw [e 0 (by omega) (by omega), e 1 (by omega) (by omega), e 2 (by omega) (by omega), e 3 (by omega) (by omega), e 4 (by omega) (by omega), e 5 (by omega) (by omega)]
    exact aF r h1 h2
  · rw [k0, k4]
    intro o h1 h2
    rw [hk _ (by omega) (by omega) (by omega), hk _ (by omega) (by omega) (by omega)]
    exact aO o h1 h2
  · rw [k0, h5]
    intro q h1 h2
    have y := c q h1 h2
    unfold YRO at y
    rw [hc (520 + (6 * q)) (by omega) (by omega), hc (520 + (6 * q) + 1) (by omega) (by omega), hc (520 + (6 * q) + 2) (by omega) (by omega), hc (520 + (6 * q) + 4) (by omega) (by omega), h0]
    rw [show 3560 + (520 + 6 * q) = 4080 + 6 * q by omega, show 3560 + (520 + 6 * q + 1) = 4080 + 6 * q + 1 by omega, show 3560 + (520 + 6 * q + 2) = 4080 + 6 * q + 2 by omega, show 3560 + (520 + 6 * q + 4) = 4080 + 6 * q + 4 by omega]
    exact y
set_option maxHeartbeats 4000000 in
set_option maxRecDepth 100000 in
theorem m_rockTo (l : Launch) (D : va_G) (k : Nat → ClassId) (sa sv : Nat) (hm : Nat) (Ma : Nat) (Mn : Nat) (Ms : Nat) (My : Nat) (Mt : Nat) (Mp : Nat) (Mx : Nat) (Mo : Nat) (Mk : Nat) (Ml : Nat) (Mb : Nat) (Mh : Nat) (Mc : Nat) (Mz : Nat) (Mr : Nat) (Mq : Nat) (Mst : Int) (Mtd : Int) (Msz : Int) (Mtk : Int) (Mfr : Int) (Men : Int) (Mva : Int) (Mfk : Int) (Mfp : Int) (Mfs : Int) (Mse : Int) (Mlt : Int) (Mdp : Int) (Mct : Int) (Mdr : Int) (Mrs : Int) (Mit : Int) (Mmk : Int) (Mtp : Int64) (Mbt : Int64) (Xf : Nat → Int32) (Af : Nat → Int32) (Nf : Nat → Int64) (w : Int) (hTI : (0 ≤ (Mfr : Int) ∧ (Mfr : Int) ≤ Men) ∧ ((Men : Int) ≤ Msz ∧ (Msz : Int) ≤ 900) ∧ (0 ≤ (Mtk : Int) ∧ (Mtk : Int) ≤ 4) ∧ ((Mtk : Int) = 0 ∨ (Mfr : Int) < Men) ∧ (-1 ≤ (Mva : Int) ∧ (Mva : Int) ≤ 100000)) (hFS : 0 ≤ Mfs ∧ Mfs ≤ 9) (hn0 : 0 ≤ gz Af 0 ∧ gz Af 0 ≤ 6) (h9w : 3560 ≤ w ∧ w < 5340) : SD (σ := ((Nat → Int) × (Nat → Int64) × (Nat → Nat → Int32) × (Nat → Nat → Int64))) sa sv l yX12_rockTo cX12_rockTo 2 (some .boolean) 7 D k [.ref hm, .int (iZ w)] [(hm, .inr (12, [.ref Ma, .ref Mn, .int (iZ Mst), .long Mtp, .long Mbt, .ref Ms, .ref My, .ref Mt, .ref Mp, .ref Mx, .int (iZ Mtd), .int (iZ Msz), .int (iZ Mtk), .int (iZ Mfr), .int (iZ Men), .int (iZ Mva), .int (iZ Mfk), .int (iZ Mfp), .int (iZ Mfs), .int (iZ Mse), .int (iZ Mlt), .ref Mo, .int (iZ Mdp), .int (iZ Mct), .ref Mk, .ref Ml, .ref Mb, .ref Mh, .ref Mc, .int (iZ Mdr), .int (iZ Mrs), .ref Mz, .ref Mr, .ref Mq, .int (iZ Mit), .int (iZ Mmk)])), (Mx, .inl (k 0, 900, .inl Xf)), (Ma, .inl (k 1, 5340, .inl Af)), (Mn, .inl (k 2, 36, .inr (.inl Nf)))] (fun u => some (.int (iZ (u.1 0)))) (fun u => ((0 ≤ ((u.1 2) : Int) ∧ ((u.1 2) : Int) ≤ (u.1 3)) ∧ (((u.1 3) : Int) ≤ Msz ∧ (Msz : Int) ≤ 900) ∧ (0 ≤ ((u.1 1) : Int) ∧ ((u.1 1) : Int) ≤ 4) ∧ (((u.1 1) : Int) = 0 ∨ ((u.1 2) : Int) < (u.1 3)) ∧ (-1 ≤ ((u.1 4) : Int) ∧ ((u.1 4) : Int) ≤ 100000)) ∧ ((0 ≤ ((u.1 5) : Int) ∧ ((u.1 5) : Int) ≤ 9) ∧ (((u.1 0) : Int) = 0 → 1 ≤ ((u.1 5) : Int)) ∧ (((u.1 0) : Int) = 0 ∨ ((u.1 0) : Int) = 1) ∧ Mfr ≤ (u.1 2)) ∧ ((((u.1 0) : Int) = 0 ∧ KP (u.2.2.1 0) Af) ∨ (((u.1 0) : Int) = 1 ∧ ∃ v6 : Int, 0 ≤ v6 ∧ v6 < gz Af 0 ∧ (u.2.2.1 0) = upd Af (iZ w).toNatClampNeg (iZ v6)))) (fun u => [(hm, .inr (12, [.ref Ma, .ref Mn, .int (iZ Mst), .long Mtp, .long Mbt, .ref Ms, .ref My, .ref Mt, .ref Mp, .ref Mx, .int (iZ Mtd), .int (iZ Msz), .int (iZ (u.1 1)), .int (iZ (u.1 2)), .int (iZ (u.1 3)), .int (iZ (u.1 4)), .int (iZ Mfk), .int (iZ (u.1 6)), .int (iZ (u.1 5)), .int (iZ Mse), .int (iZ Mlt), .ref Mo, .int (iZ Mdp), .int (iZ Mct), .ref Mk, .ref Ml, .ref Mb, .ref Mh, .ref Mc, .int (iZ Mdr), .int (iZ Mrs), .ref Mz, .ref Mr, .ref Mq, .int (iZ Mit), .int (iZ Mmk)])), (Mx, .inl (k 0, 900, .inl Xf)), (Ma, .inl (k 1, 5340, .inl (u.2.2.1 0))), (Mn, .inl (k 2, 36, .inr (.inl Nf)))]) := by
  refine MSS (by decide) (Nat.le_of_ble_eq_true rfl) (fun p e s m below meth c ls A hx hb hml hr hlocks hin hts hown hKK hP hD hS hA hSY hRR hl => ?_)
  have hK := hKK.1
  have hl : lv_has ls 2 [(0, .ref hm), (1, .int (iZ w))] := hl
  refine lv_aload_n hx hb dX12_rockTo_0 rfl (lv_at hl 0 rfl) ?_
  refine lv_iconst (v := iZ 0) hx hb dX12_rockTo_1 (by decide) ?_
  refine lv_aload_n hx hb dX12_rockTo_2 rfl (lv_at hl 0 rfl) ?_
  refine va_get (D := D) (ci := 12) (v := .ref Ma) (C := RX12) (T := TX12) (N := 36) hx hb hts iX12 hown hK hP 0 rfl rfl 0 (by decide) (hts _ qf_X12_7) (fun _ h => h) rfl dX12_rockTo_3 ?_
  refine lv_iconst (v := iZ 0) hx hb dX12_rockTo_6 (by decide) ?_
  refine va_iald hx hb hK hP 2 1 rfl rfl (zin (e := 0) (n := 5340) ⟨by omega, by omega⟩ (by decide)) dX12_rockTo_7 ?_
  refine lv_topi (fun x_1 ex_1 => ?_)
  obtain rfl : x_1 = iZ (gz Af 0) := ex_1.trans (gz_eq ⟨by omega, by omega⟩)
  have h_2 := gz_rg Af 0
  refine lv_iload_n hx hb dX12_rockTo_8 rfl (lv_at hl 1 rfl) ?_
  refine CSV (As := [.int (iZ 0), .int (iZ (gz Af 0)), .int (iZ w)]) (rest := []) (wc := [(hm, .inr (12, [.ref Ma, .ref Mn, .int (iZ Mst), .long Mtp, .long Mbt, .ref Ms, .ref My, .ref Mt, .ref Mp, .ref Mx, .int (iZ Mtd), .int (iZ Msz), .int (iZ Mtk), .int (iZ Mfr), .int (iZ Men), .int (iZ Mva), .int (iZ Mfk), .int (iZ Mfp), .int (iZ Mfs), .int (iZ Mse), .int (iZ Mlt), .ref Mo, .int (iZ Mdp), .int (iZ Mct), .ref Mk, .ref Ml, .ref Mb, .ref Mh, .ref Mc, .int (iZ Mdr), .int (iZ Mrs), .ref Mz, .ref Mr, .ref Mq, .int (iZ Mit), .int (iZ Mmk)])), (Mx, .inl (k 0, 900, .inl Xf)), (Ma, .inl (k 1, 5340, .inl Af)), (Mn, .inl (k 2, 36, .inr (.inl Nf)))]) (wr := []) hx hb hml hown hts hKK hP hD hS hA hSY hRR (m_oldOne l D k sa sv hm Ma Mn Ms My Mt Mp Mx Mo Mk Ml Mb Mh Mc Mz Mr Mq Mst Mtd Msz Mtk Mfr Men Mva Mfk Mfp Mfs Mse Mlt Mdp Mct Mdr Mrs Mit Mmk Mtp Mbt Xf Af Nf 0 (gz Af 0) w ⟨⟨by omega, by omega⟩, ⟨by omega, by omega⟩, ⟨by omega, by omega⟩, by omega, by omega, by omega⟩ ⟨by omega, by omega⟩ ⟨by omega, by omega⟩ ⟨by omega, by omega⟩ ⟨by omega, by omega⟩) ci_X12_oldOne qm_X12_195 ⟨Nat.le_of_ble_eq_true rfl, Nat.le_of_ble_eq_true rfl⟩ ⟨Nat.le_of_ble_eq_true rfl, Nat.le_of_ble_eq_true rfl⟩ [0, 1, 2, 3] [] rfl rfl rfl rfl rfl (by decide) 0 rfl rfl rfl hl.1 rfl (Nat.le_of_ble_eq_true rfl) dX12_rockTo_9 (fun u_3 H locs hφ hP hD hS => ?_)
  obtain ⟨I_4, L_5, F_6, G_7⟩ := u_3
  obtain ⟨p_9, p_10, p_11⟩ : ((0 ≤ ((I_4 2) : Int) ∧ ((I_4 2) : Int) ≤ (I_4 3)) ∧ (((I_4 3) : Int) ≤ Msz ∧ (Msz : Int) ≤ 900) ∧ (0 ≤ ((I_4 1) : Int) ∧ ((I_4 1) : Int) ≤ 4) ∧ (((I_4 1) : Int) = 0 ∨ ((I_4 2) : Int) < (I_4 3)) ∧ (-1 ≤ ((I_4 4) : Int) ∧ ((I_4 4) : Int) ≤ 100000)) ∧ ((0 ≤ ((I_4 5) : Int) ∧ ((I_4 5) : Int) ≤ 9) ∧ (((I_4 0) : Int) = 0 → 1 ≤ ((I_4 5) : Int)) ∧ (((I_4 0) : Int) = 0 ∨ ((I_4 0) : Int) = 1) ∧ Mfr ≤ (I_4 2)) ∧ ((((I_4 0) : Int) = 0 ∧ KP (F_6 0) Af) ∨ (((I_4 0) : Int) = 1 ∧ ∃ v6 : Int, 0 ≤ v6 ∧ v6 < (gz Af 0) ∧ (F_6 0) = upd Af (iZ w).toNatClampNeg (iZ v6))) := hφ
  refine W.eq (g2 := F0 m 12 ls [.int (iZ (I_4 0))]) rfl ?_
  rcases p_11 with ⟨qt_12, et_12⟩ | ⟨qt_12, vt_12, g1t_12, g2t_12, ht_12⟩
  ·
    rw [qt_12]
    exact EWz hx hb hr hlocks hS (fun i => [0, (I_4 1), (I_4 2), (I_4 3), (I_4 4), (I_4 5), (I_4 6)].getD i 0, fun i => [0].getD i 0, fun i => [(F_6 0)].getD i (fun _ => 0), fun i => [].getD i (fun _ => 0)) rfl rfl ⟨(show (0 ≤ ((I_4 2) : Int) ∧ ((I_4 2) : Int) ≤ (I_4 3)) ∧ (((I_4 3) : Int) ≤ Msz ∧ (Msz : Int) ≤ 900) ∧ (0 ≤ ((I_4 1) : Int) ∧ ((I_4 1) : Int) ≤ 4) ∧ (((I_4 1) : Int) = 0 ∨ ((I_4 2) : Int) < (I_4 3)) ∧ (-1 ≤ ((I_4 4) : Int) ∧ ((I_4 4) : Int) ≤ 100000) from ⟨⟨by omega, by omega⟩, ⟨by omega, by omega⟩, ⟨by omega, by omega⟩, by omega, by omega, by omega⟩), (show (0 ≤ ((I_4 5) : Int) ∧ ((I_4 5) : Int) ≤ 9) ∧ ((0 : Int) = 0 → 1 ≤ ((I_4 5) : Int)) ∧ ((0 : Int) = 0 ∨ (0 : Int) = 1) ∧ Mfr ≤ (I_4 2) from ⟨⟨by omega, by omega⟩, fun _ => by omega, by omega, by omega⟩), (show ((0 : Int) = 0 ∧ KP (F_6 0) Af) ∨ ((0 : Int) = 1 ∧ ∃ v6 : Int, 0 ≤ v6 ∧ v6 < gz Af 0 ∧ (F_6 0) = upd Af (iZ w).toNatClampNeg (iZ v6)) from (Or.inl ⟨rfl, et_12⟩))⟩ (hP.sub [0, 1, 2, 3] rfl) (hD.sub [0, 1, 2, 3] rfl rfl) dX12_rockTo_12
  ·
    rw [qt_12]
    exact EWz hx hb hr hlocks hS (fun i => [1, (I_4 1), (I_4 2), (I_4 3), (I_4 4), (I_4 5), (I_4 6)].getD i 0, fun i => [0].getD i 0, fun i => [(F_6 0)].getD i (fun _ => 0), fun i => [].getD i (fun _ => 0)) rfl rfl ⟨(show (0 ≤ ((I_4 2) : Int) ∧ ((I_4 2) : Int) ≤ (I_4 3)) ∧ (((I_4 3) : Int) ≤ Msz ∧ (Msz : Int) ≤ 900) ∧ (0 ≤ ((I_4 1) : Int) ∧ ((I_4 1) : Int) ≤ 4) ∧ (((I_4 1) : Int) = 0 ∨ ((I_4 2) : Int) < (I_4 3)) ∧ (-1 ≤ ((I_4 4) : Int) ∧ ((I_4 4) : Int) ≤ 100000) from ⟨⟨by omega, by omega⟩, ⟨by omega, by omega⟩, ⟨by omega, by omega⟩, by omega, by omega, by omega⟩), (show (0 ≤ ((I_4 5) : Int) ∧ ((I_4 5) : Int) ≤ 9) ∧ ((1 : Int) = 0 → 1 ≤ ((I_4 5) : Int)) ∧ ((1 : Int) = 0 ∨ (1 : Int) = 1) ∧ Mfr ≤ (I_4 2) from ⟨⟨by omega, by omega⟩, fun _ => by omega, by omega, by omega⟩), (show ((1 : Int) = 0 ∧ KP (F_6 0) Af) ∨ ((1 : Int) = 1 ∧ ∃ v6 : Int, 0 ≤ v6 ∧ v6 < gz Af 0 ∧ (F_6 0) = upd Af (iZ w).toNatClampNeg (iZ v6)) from (Or.inr ⟨rfl, vt_12, g1t_12, g2t_12, ht_12⟩))⟩ (hP.sub [0, 1, 2, 3] rfl) (hD.sub [0, 1, 2, 3] rfl rfl) dX12_rockTo_12
set_option maxHeartbeats 4000000 in
set_option maxRecDepth 100000 in
theorem m_test (l : Launch) (D : va_G) (k : Nat → ClassId) (sa sv : Nat) (hm : Nat) (Ma : Nat) (Mn : Nat) (Ms : Nat) (My : Nat) (Mt : Nat) (Mp : Nat) (Mx : Nat) (Mo : Nat) (Mk : Nat) (Ml : Nat) (Mb : Nat) (Mh : Nat) (Mc : Nat) (Mz : Nat) (Mr : Nat) (Mq : Nat) (Mst : Int) (Mtd : Int) (Msz : Int) (Mtk : Int) (Mfr : Int) (Men : Int) (Mva : Int) (Mfk : Int) (Mfp : Int) (Mfs : Int) (Mse : Int) (Mlt : Int) (Mdp : Int) (Mct : Int) (Mdr : Int) (Mrs : Int) (Mit : Int) (Mmk : Int) (Mtp : Int64) (Mbt : Int64) (Xf : Nat → Int32) (Af : Nat → Int32) (Nf : Nat → Int64) (y : Int) (hTI : (0 ≤ (Mfr : Int) ∧ (Mfr : Int) ≤ Men) ∧ ((Men : Int) ≤ Msz ∧ (Msz : Int) ≤ 900) ∧ (0 ≤ (Mtk : Int) ∧ (Mtk : Int) ≤ 4) ∧ ((Mtk : Int) = 0 ∨ (Mfr : Int) < Men) ∧ (-1 ≤ (Mva : Int) ∧ (Mva : Int) ≤ 100000)) (hFS : 0 ≤ Mfs ∧ Mfs ≤ 9) (hn0 : 0 ≤ gz Af 0 ∧ gz Af 0 ≤ 6) (h9y : 4080 ≤ y ∧ y ≤ 4434) : SD (σ := ((Nat → Int) × (Nat → Int64) × (Nat → Nat → Int32) × (Nat → Nat → Int64))) sa sv l yX12_test cX12_test 3 (some .boolean) 8 D k [.ref hm, .int (iZ y)] [(hm, .inr (12, [.ref Ma, .ref Mn, .int (iZ Mst), .long Mtp, .long Mbt, .ref Ms, .ref My, .ref Mt, .ref Mp, .ref Mx, .int (iZ Mtd), .int (iZ Msz), .int (iZ Mtk), .int (iZ Mfr), .int (iZ Men), .int (iZ Mva), .int (iZ Mfk), .int (iZ Mfp), .int (iZ Mfs), .int (iZ Mse), .int (iZ Mlt), .ref Mo, .int (iZ Mdp), .int (iZ Mct), .ref Mk, .ref Ml, .ref Mb, .ref Mh, .ref Mc, .int (iZ Mdr), .int (iZ Mrs), .ref Mz, .ref Mr, .ref Mq, .int (iZ Mit), .int (iZ Mmk)])), (Mx, .inl (k 0, 900, .inl Xf)), (Ma, .inl (k 1, 5340, .inl Af)), (Mn, .inl (k 2, 36, .inr (.inl Nf)))] (fun u => some (.int (iZ (u.1 0)))) (fun u => ((0 ≤ ((u.1 2) : Int) ∧ ((u.1 2) : Int) ≤ (u.1 3)) ∧ (((u.1 3) : Int) ≤ Msz ∧ (Msz : Int) ≤ 900) ∧ (0 ≤ ((u.1 1) : Int) ∧ ((u.1 1) : Int) ≤ 4) ∧ (((u.1 1) : Int) = 0 ∨ ((u.1 2) : Int) < (u.1 3)) ∧ (-1 ≤ ((u.1 4) : Int) ∧ ((u.1 4) : Int) ≤ 100000)) ∧ ((0 ≤ ((u.1 5) : Int) ∧ ((u.1 5) : Int) ≤ 9) ∧ (((u.1 0) : Int) = 0 → 1 ≤ ((u.1 5) : Int)) ∧ (((u.1 0) : Int) = 0 ∨ ((u.1 0) : Int) = 1) ∧ Mfr ≤ (u.1 2)) ∧ ((((u.1 0) : Int) = 0 ∧ KP (u.2.2.1 0) Af) ∨ (((u.1 0) : Int) = 1 ∧ RWR (u.2.2.1 0) Af y ∧ (gz (u.2.2.1 0) y = 17 → 0 ≤ gz (u.2.2.1 0) (y + 1) ∧ gz (u.2.2.1 0) (y + 1) < gz Af 0) ∧ (gz (u.2.2.1 0) y = 1923 → 0 ≤ gz (u.2.2.1 0) (y + 2) ∧ gz (u.2.2.1 0) (y + 2) < 6)))) (fun u => [(hm, .inr (12, [.ref Ma, .ref Mn, .int (iZ Mst), .long Mtp, .long Mbt, .ref Ms, .ref My, .ref Mt, .ref Mp, .ref Mx, .int (iZ Mtd), .int (iZ Msz), .int (iZ (u.1 1)), .int (iZ (u.1 2)), .int (iZ (u.1 3)), .int (iZ (u.1 4)), .int (iZ Mfk), .int (iZ (u.1 6)), .int (iZ (u.1 5)), .int (iZ Mse), .int (iZ Mlt), .ref Mo, .int (iZ Mdp), .int (iZ Mct), .ref Mk, .ref Ml, .ref Mb, .ref Mh, .ref Mc, .int (iZ Mdr), .int (iZ Mrs), .ref Mz, .ref Mr, .ref Mq, .int (iZ Mit), .int (iZ Mmk)])), (Mx, .inl (k 0, 900, .inl Xf)), (Ma, .inl (k 1, 5340, .inl (u.2.2.1 0))), (Mn, .inl (k 2, 36, .inr (.inl Nf)))]) := by
  refine MSS (by decide) (Nat.le_of_ble_eq_true rfl) (fun p e s m below meth c ls A hx hb hml hr hlocks hin hts hown hKK hP hD hS hA hSY hRR hl => ?_)
  have hK := hKK.1
  have hl : lv_has ls 3 [(0, .ref hm), (1, .int (iZ y))] := hl
  refine lv_aload_n hx hb dX12_test_0 rfl (lv_at hl 0 rfl) ?_
  refine va_ldcS hx hb hown hRR dX12_test_1 ?_
  refine CSV (As := [.ref sa]) (rest := []) (wc := [(hm, .inr (12, [.ref Ma, .ref Mn, .int (iZ Mst), .long Mtp, .long Mbt, .ref Ms, .ref My, .ref Mt, .ref Mp, .ref Mx, .int (iZ Mtd), .int (iZ Msz), .int (iZ Mtk), .int (iZ Mfr), .int (iZ Men), .int (iZ Mva), .int (iZ Mfk), .int (iZ Mfp), .int (iZ Mfs), .int (iZ Mse), .int (iZ Mlt), .ref Mo, .int (iZ Mdp), .int (iZ Mct), .ref Mk, .ref Ml, .ref Mb, .ref Mh, .ref Mc, .int (iZ Mdr), .int (iZ Mrs), .ref Mz, .ref Mr, .ref Mq, .int (iZ Mit), .int (iZ Mmk)])), (Mx, .inl (k 0, 900, .inl Xf))]) (wr := [(Ma, .inl (k 1, 5340, .inl Af)), (Mn, .inl (k 2, 36, .inr (.inl Nf)))]) hx hb hml hown hts hKK hP hD hS hA hSY hRR (m_inWords l D k sa sv ([.ref Ma, .ref Mn, .int (iZ Mst), .long Mtp, .long Mbt, .ref Ms, .ref My, .ref Mt, .ref Mp, .ref Mx, .int (iZ Mtd), .int (iZ Msz), .int (iZ Mtk), .int (iZ Mfr), .int (iZ Men), .int (iZ Mva), .int (iZ Mfk), .int (iZ Mfp), .int (iZ Mfs), .int (iZ Mse), .int (iZ Mlt), .ref Mo, .int (iZ Mdp), .int (iZ Mct), .ref Mk, .ref Ml, .ref Mb, .ref Mh, .ref Mc, .int (iZ Mdr), .int (iZ Mrs), .ref Mz, .ref Mr, .ref Mq, .int (iZ Mit), .int (iZ Mmk)]) hm Mx Msz Mtk Mfr Men Xf rfl rfl rfl rfl rfl ⟨⟨⟨by omega, by omega⟩, by omega, by omega⟩, by omega, by omega⟩) ci_X12_inWords qm_X12_167 ⟨Nat.le_of_ble_eq_true rfl, Nat.le_of_ble_eq_true rfl⟩ ⟨Nat.le_of_ble_eq_true rfl, Nat.le_of_ble_eq_true rfl⟩ [0, 1] [2, 3] rfl rfl rfl rfl rfl (by decide) 0 rfl rfl rfl hl.1 rfl (Nat.le_of_ble_eq_true rfl) dX12_test_3 (fun u_1 H locs hφ hP hD hS => ?_)
  obtain ⟨I_2, L_3, F_4, G_5⟩ := u_1
  have p_7 : ((I_2 0) : Int) = -1 ∨ ((0 ≤ ((I_2 0) : Int) ∧ ((I_2 0) : Int) ≤ 125) ∧ Mtk = 2) := hφ
  refine W.eq (g2 := F0 m 6 ls [.int (iZ (I_2 0))]) rfl ?_
  refine lv_istore_n (lv' := [(2, .int (iZ (I_2 0))), (0, .ref hm), (1, .int (iZ y))]) hx hb dX12_test_6 rfl hl (by decide) rfl (fun ls hl => ?_)
  refine lv_iload_n hx hb dX12_test_7 rfl (lv_at hl 0 rfl) ?_
  refine lv_bipush (v := iZ 15) hx hb dX12_test_8 (by decide) ?_
  refine lv_icmp_eq (tgt := 31) hx hb dX12_test_10 (by decide) (fun c_8 => ?_) (fun c_8 => ?_)
  ·
    have c_8 := (zeq (x := iZ (I_2 0)) (y := iZ 15) rfl rfl ⟨by omega, by omega⟩ ⟨by omega, by omega⟩).mp c_8
    refine lv_aload_n hx hb dX12_test_31 rfl (lv_at hl 1 rfl) ?_
    refine va_get (D := D) (ci := 12) (v := .ref Ma) (C := RX12) (T := TX12) (N := 36) hx hb hts iX12 hown hK hP 2 rfl rfl 0 (by decide) (hts _ qf_X12_7) (fun _ h => h) rfl dX12_test_32 ?_
    refine lv_iload_n hx hb dX12_test_35 rfl (lv_at hl 2 rfl) ?_
    refine lv_sipush (v := iZ 1900) hx hb dX12_test_36 (by decide) ?_
    refine lv_iload_n hx hb dX12_test_39 rfl (lv_at hl 0 rfl) ?_
    refine lv_iadd hx hb dX12_test_40 ?_
    refine lv_topi (fun x_9 ex_9 => ?_)
    obtain rfl : x_9 = iZ (1900 + (I_2 0)) := ex_9.trans (iZ_add 1900 (I_2 0))
    refine va_iast hx hb hK hP hD hS 0 1 rfl rfl (zin (e := y) (n := 5340) ⟨by omega, by omega⟩ (by decide)) dX12_test_41 (fun H locs hP hD hS => ?_)
    obtain ⟨f_10, hf_10⟩ : ∃ gg9, gg9 = upd Af (iZ y).toNatClampNeg (iZ (1900 + (I_2 0))) := ⟨_, rfl⟩
    rw [← hf_10] at hP hD
    have w_11 := RWR.up (y := y) hf_10 (by omega) (by omega) ⟨by omega, by omega⟩
    have uu_12 := gz_upc (j := y) hf_10 ⟨by omega, by omega⟩ ⟨by omega, by omega⟩ (by omega)
    have uu_13 := gz_upc (j := (y + 1)) hf_10 ⟨by omega, by omega⟩ ⟨by omega, by omega⟩ (by omega)
    have uu_14 := gz_upc (j := (y + 2)) hf_10 ⟨by omega, by omega⟩ ⟨by omega, by omega⟩ (by omega)
    have uu_15 := gz_upc (j := 0) hf_10 ⟨by omega, by omega⟩ ⟨by omega, by omega⟩ (by omega)
    refine lv_aload_n hx hb dX12_test_42 rfl (lv_at hl 1 rfl) ?_
    refine CWV (As := []) (rest := []) (wc := [(hm, .inr (12, [.ref Ma, .ref Mn, .int (iZ Mst), .long Mtp, .long Mbt, .ref Ms, .ref My, .ref Mt, .ref Mp, .ref Mx, .int (iZ Mtd), .int (iZ Msz), .int (iZ Mtk), .int (iZ Mfr), .int (iZ Men), .int (iZ Mva), .int (iZ Mfk), .int (iZ Mfp), .int (iZ Mfs), .int (iZ Mse), .int (iZ Mlt), .ref Mo, .int (iZ Mdp), .int (iZ Mct), .ref Mk, .ref Ml, .ref Mb, .ref Mh, .ref Mc, .int (iZ Mdr), .int (iZ Mrs), .ref Mz, .ref Mr, .ref Mq, .int (iZ Mit), .int (iZ Mmk)])), (Mx, .inl (k 0, 900, .inl Xf))]) (wr := [(Ma, .inl (k 1, 5340, .inl f_10)), (Mn, .inl (k 2, 36, .inr (.inl Nf)))]) hx hb hml hown hts hKK hP hD hS hA (m_onward l D k hm Ma Mn Ms My Mt Mp Mx Mo Mk Ml Mb Mh Mc Mz Mr Mq Mst Mtd Msz Mtk Mfr Men Mva Mfk Mfp Mfs Mse Mlt Mdp Mct Mdr Mrs Mit Mmk Mtp Mbt Xf ⟨⟨by omega, by omega⟩, by omega⟩) ci_X12_onward qm_X12_158 ⟨Nat.le_of_ble_eq_true rfl, Nat.le_of_ble_eq_true rfl⟩ ⟨Nat.le_of_ble_eq_true rfl, Nat.le_of_ble_eq_true rfl⟩ [2, 3] [0, 1] rfl rfl rfl rfl rfl (by decide) 0 rfl rfl rfl hl.1 rfl (Nat.le_of_ble_eq_true rfl) dX12_test_43 (fun u_16 H locs hφ hP hD hS => ?_)
    obtain ⟨I_17, L_18, F_19, G_20⟩ := u_16
    obtain ⟨p_22, p_23⟩ : ((0 ≤ ((I_17 2) : Int) ∧ ((I_17 2) : Int) ≤ (I_17 3)) ∧ (((I_17 3) : Int) ≤ Msz ∧ (Msz : Int) ≤ 900) ∧ (0 ≤ ((I_17 1) : Int) ∧ ((I_17 1) : Int) ≤ 4) ∧ (((I_17 1) : Int) = 0 ∨ ((I_17 2) : Int) < (I_17 3)) ∧ (-1 ≤ ((I_17 4) : Int) ∧ ((I_17 4) : Int) ≤ 100000)) ∧ (Men ≤ (I_17 2)) := hφ
    refine W.eq (g2 := F0 m 46 ls []) rfl ?_
    refine lv_iload_n hx hb dX12_test_46 rfl (lv_at hl 0 rfl) ?_
    refine lv_bipush (v := iZ 9) hx hb dX12_test_47 (by decide) ?_
    refine lv_icmp_ne (tgt := 60) hx hb dX12_test_49 (by decide) (fun c_24 => ?_) (fun c_24 => ?_)
    ·
      have c_24 := mt (zeq (x := iZ (I_2 0)) (y := iZ 9) rfl rfl ⟨by omega, by omega⟩ ⟨by omega, by omega⟩).mpr c_24
      refine lv_iload_n hx hb dX12_test_60 rfl (lv_at hl 0 rfl) ?_
      refine lv_bipush (v := iZ 23) hx hb dX12_test_61 (by decide) ?_
      refine lv_icmp_ne (tgt := 103) hx hb dX12_test_63 (by decide) (fun c_25 => ?_) (fun c_25 => ?_)
      ·
        have c_25 := mt (zeq (x := iZ (I_2 0)) (y := iZ 23) rfl rfl ⟨by omega, by omega⟩ ⟨by omega, by omega⟩).mpr c_25
        refine lv_aload_n hx hb dX12_test_103 rfl (lv_at hl 1 rfl) ?_
        refine lv_bipush (v := iZ 60) hx hb dX12_test_104 (by decide) ?_
        refine CPV (As := [.int (iZ 60)]) (rest := []) hx hb hml hown hts hKK (hP.sub (ws' := [(hm, .inr (12, [.ref Ma, .ref Mn, .int (iZ Mst), .long Mtp, .long Mbt, .ref Ms, .ref My, .ref Mt, .ref Mp, .ref Mx, .int (iZ Mtd), .int (iZ Msz), .int (iZ (I_17 1)), .int (iZ (I_17 2)), .int (iZ (I_17 3)), .int (iZ (I_17 4)), .int (iZ Mfk), .int (iZ Mfp), .int (iZ Mfs), .int (iZ Mse), .int (iZ Mlt), .ref Mo, .int (iZ Mdp), .int (iZ Mct), .ref Mk, .ref Ml, .ref Mb, .ref Mh, .ref Mc, .int (iZ Mdr), .int (iZ Mrs), .ref Mz, .ref Mr, .ref Mq, .int (iZ Mit), .int (iZ Mmk)]))]) [2] rfl) (m_isSign l D k ([.ref Ma, .ref Mn, .int (iZ Mst), .long Mtp, .long Mbt, .ref Ms, .ref My, .ref Mt, .ref Mp, .ref Mx, .int (iZ Mtd), .int (iZ Msz), .int (iZ (I_17 1)), .int (iZ (I_17 2)), .int (iZ (I_17 3)), .int (iZ (I_17 4)), .int (iZ Mfk), .int (iZ Mfp), .int (iZ Mfs), .int (iZ Mse), .int (iZ Mlt), .ref Mo, .int (iZ Mdp), .int (iZ Mct), .ref Mk, .ref Ml, .ref Mb, .ref Mh, .ref Mc, .int (iZ Mdr), .int (iZ Mrs), .ref Mz, .ref Mr, .ref Mq, .int (iZ Mit), .int (iZ Mmk)]) hm (I_17 1) (I_17 4) 60 rfl rfl ⟨by omega, by omega⟩ ⟨by omega, by omega⟩ ⟨by omega, by omega⟩) ci_X12_isSign qm_X12_161 ⟨Nat.le_of_ble_eq_true rfl, Nat.le_of_ble_eq_true rfl⟩ ⟨Nat.le_of_ble_eq_true rfl, Nat.le_of_ble_eq_true rfl⟩ 0 rfl rfl rfl hl.1 rfl (Nat.le_of_ble_eq_true rfl) dX12_test_106 (fun z_26 hz_26 => ?_)
        rcases hz_26 with ⟨qz_26, hz_26⟩ | ⟨qz_26, hz_26⟩
        ·
          subst qz_26
          refine lv_if_ne (tgt := 136) hx hb dX12_test_109 (by decide) (fun _ => ?_) (fun c => absurd c (by decide))
          refine lv_aload_n hx hb dX12_test_136 rfl (lv_at hl 1 rfl) ?_
          refine va_get (D := D) (ci := 12) (v := .ref Ma) (C := RX12) (T := TX12) (N := 36) hx hb hts iX12 hown hK hP 2 rfl rfl 0 (by decide) (hts _ qf_X12_7) (fun _ h => h) rfl dX12_test_137 ?_
          refine lv_iload_n hx hb dX12_test_140 rfl (lv_at hl 2 rfl) ?_
          refine lv_iconst (v := iZ 5) hx hb dX12_test_141 (by decide) ?_
          refine lv_iadd hx hb dX12_test_142 ?_
          refine lv_topi (fun x_28 ex_28 => ?_)
          obtain rfl : x_28 = iZ (y + 5) := ex_28.trans (iZ_add y 5)
          refine lv_aload_n hx hb dX12_test_143 rfl (lv_at hl 1 rfl) ?_
          refine va_get (D := D) (ci := 12) (v := .int (iZ (I_17 4))) (C := RX12) (T := TX12) (N := 36) hx hb hts iX12 hown hK hP 2 rfl rfl 15 (by decide) (hts _ qf_X12_124) (fun _ h => h) rfl dX12_test_144 ?_
          refine va_iast hx hb hK hP hD hS 0 1 rfl rfl (zin (e := (y + 5)) (n := 5340) ⟨by omega, by omega⟩ (by decide)) dX12_test_147 (fun H locs hP hD hS => ?_)
          obtain ⟨f_29, hf_29⟩ : ∃ gg9, gg9 = upd f_10 (iZ (y + 5)).toNatClampNeg (iZ (I_17 4)) := ⟨_, rfl⟩
          rw [← hf_29] at hP hD
          have w_30 := RWR.up (y := y) hf_29 (by omega) (by omega) ⟨by omega, by omega⟩
          have uu_31 := gz_upc (j := y) hf_29 ⟨by omega, by omega⟩ ⟨by omega, by omega⟩ (by omega)
          have uu_32 := gz_upc (j := (y + 1)) hf_29 ⟨by omega, by omega⟩ ⟨by omega, by omega⟩ (by omega)
          have uu_33 := gz_upc (j := (y + 2)) hf_29 ⟨by omega, by omega⟩ ⟨by omega, by omega⟩ (by omega)
          have uu_34 := gz_upc (j := 0) hf_29 ⟨by omega, by omega⟩ ⟨by omega, by omega⟩ (by omega)
          refine lv_aload_n hx hb dX12_test_148 rfl (lv_at hl 1 rfl) ?_
          refine CWV (As := []) (rest := []) (wc := [(hm, .inr (12, [.ref Ma, .ref Mn, .int (iZ Mst), .long Mtp, .long Mbt, .ref Ms, .ref My, .ref Mt, .ref Mp, .ref Mx, .int (iZ Mtd), .int (iZ Msz), .int (iZ (I_17 1)), .int (iZ (I_17 2)), .int (iZ (I_17 3)), .int (iZ (I_17 4)), .int (iZ Mfk), .int (iZ Mfp), .int (iZ Mfs), .int (iZ Mse), .int (iZ Mlt), .ref Mo, .int (iZ Mdp), .int (iZ Mct), .ref Mk, .ref Ml, .ref Mb, .ref Mh, .ref Mc, .int (iZ Mdr), .int (iZ Mrs), .ref Mz, .ref Mr, .ref Mq, .int (iZ Mit), .int (iZ Mmk)])), (Mx, .inl (k 0, 900, .inl Xf))]) (wr := [(Ma, .inl (k 1, 5340, .inl f_29)), (Mn, .inl (k 2, 36, .inr (.inl Nf)))]) hx hb hml hown hts hKK hP hD hS hA (m_onward l D k hm Ma Mn Ms My Mt Mp Mx Mo Mk Ml Mb Mh Mc Mz Mr Mq Mst Mtd Msz (I_17 1) (I_17 2) (I_17 3) (I_17 4) Mfk Mfp Mfs Mse Mlt Mdp Mct Mdr Mrs Mit Mmk Mtp Mbt Xf ⟨⟨by omega, by omega⟩, by omega⟩) ci_X12_onward qm_X12_158 ⟨Nat.le_of_ble_eq_true rfl, Nat.le_of_ble_eq_true rfl⟩ ⟨Nat.le_of_ble_eq_true rfl, Nat.le_of_ble_eq_true rfl⟩ [2, 3] [0, 1] rfl rfl rfl rfl rfl (by decide) 0 rfl rfl rfl hl.1 rfl (Nat.le_of_ble_eq_true rfl) dX12_test_149 (fun u_35 H locs hφ hP hD hS => ?_)
          obtain ⟨I_36, L_37, F_38, G_39⟩ := u_35
          obtain ⟨p_41, p_42⟩ : ((0 ≤ ((I_36 2) : Int) ∧ ((I_36 2) : Int) ≤ (I_36 3)) ∧ (((I_36 3) : Int) ≤ Msz ∧ (Msz : Int) ≤ 900) ∧ (0 ≤ ((I_36 1) : Int) ∧ ((I_36 1) : Int) ≤ 4) ∧ (((I_36 1) : Int) = 0 ∨ ((I_36 2) : Int) < (I_36 3)) ∧ (-1 ≤ ((I_36 4) : Int) ∧ ((I_36 4) : Int) ≤ 100000)) ∧ ((I_17 3) ≤ (I_36 2)) := hφ
          refine W.eq (g2 := F0 m 152 ls []) rfl ?_
          refine lv_aload_n hx hb dX12_test_152 rfl (lv_at hl 1 rfl) ?_
          refine lv_iload_n hx hb dX12_test_153 rfl (lv_at hl 2 rfl) ?_
          refine lv_iconst (v := iZ 1) hx hb dX12_test_154 (by decide) ?_
          refine lv_iadd hx hb dX12_test_155 ?_
          refine lv_topi (fun x_43 ex_43 => ?_)
          obtain rfl : x_43 = iZ (y + 1) := ex_43.trans (iZ_add y 1)
          refine lv_iconst (v := iZ 0) hx hb dX12_test_156 (by decide) ?_
          refine lv_sipush (v := iZ 400) hx hb dX12_test_157 (by decide) ?_
          refine CWV (As := [.int (iZ (y + 1)), .int (iZ 0), .int (iZ 400)]) (rest := []) (wc := [(hm, .inr (12, [.ref Ma, .ref Mn, .int (iZ Mst), .long Mtp, .long Mbt, .ref Ms, .ref My, .ref Mt, .ref Mp, .ref Mx, .int (iZ Mtd), .int (iZ Msz), .int (iZ (I_36 1)), .int (iZ (I_36 2)), .int (iZ (I_36 3)), .int (iZ (I_36 4)), .int (iZ Mfk), .int (iZ Mfp), .int (iZ Mfs), .int (iZ Mse), .int (iZ Mlt), .ref Mo, .int (iZ Mdp), .int (iZ Mct), .ref Mk, .ref Ml, .ref Mb, .ref Mh, .ref Mc, .int (iZ Mdr), .int (iZ Mrs), .ref Mz, .ref Mr, .ref Mq, .int (iZ Mit), .int (iZ Mmk)])), (Mx, .inl (k 0, 900, .inl Xf)), (Ma, .inl (k 1, 5340, .inl f_29))]) (wr := [(Mn, .inl (k 2, 36, .inr (.inl Nf)))]) hx hb hml hown hts hKK hP hD hS hA (m_number l D k hm Ma Mn Ms My Mt Mp Mx Mo Mk Ml Mb Mh Mc Mz Mr Mq Mst Mtd Msz (I_36 1) (I_36 2) (I_36 3) (I_36 4) Mfk Mfp Mfs Mse Mlt Mdp Mct Mdr Mrs Mit Mmk Mtp Mbt Xf f_29 (y + 1) 0 400 ⟨⟨by omega, by omega⟩, ⟨by omega, by omega⟩, ⟨by omega, by omega⟩, by omega, by omega, by omega⟩ ⟨by omega, by omega⟩ ⟨by omega, by omega⟩ ⟨by omega, by omega⟩ ⟨by omega, by omega⟩) ci_X12_number qm_X12_188 ⟨Nat.le_of_ble_eq_true rfl, Nat.le_of_ble_eq_true rfl⟩ ⟨Nat.le_of_ble_eq_true rfl, Nat.le_of_ble_eq_true rfl⟩ [2, 3, 0] [1] rfl rfl rfl rfl rfl (by decide) 0 rfl rfl rfl hl.1 rfl (Nat.le_of_ble_eq_true rfl) dX12_test_160 (fun u_44 H locs hφ hP hD hS => ?_)
          obtain ⟨I_45, L_46, F_47, G_48⟩ := u_44
          obtain ⟨p_50, p_51, p_52⟩ : ((0 ≤ ((I_45 2) : Int) ∧ ((I_45 2) : Int) ≤ (I_45 3)) ∧ (((I_45 3) : Int) ≤ Msz ∧ (Msz : Int) ≤ 900) ∧ (0 ≤ ((I_45 1) : Int) ∧ ((I_45 1) : Int) ≤ 4) ∧ (((I_45 1) : Int) = 0 ∨ ((I_45 2) : Int) < (I_45 3)) ∧ (-1 ≤ ((I_45 4) : Int) ∧ ((I_45 4) : Int) ≤ 100000)) ∧ ((0 ≤ ((I_45 5) : Int) ∧ ((I_45 5) : Int) ≤ 9) ∧ (((I_45 0) : Int) = 0 → 1 ≤ ((I_45 5) : Int)) ∧ (((I_45 0) : Int) = 0 ∨ ((I_45 0) : Int) = 1) ∧ (I_36 2) ≤ (I_45 2)) ∧ ((((I_45 0) : Int) = 0 ∧ (F_47 0) = f_29) ∨ (((I_45 0) : Int) = 1 ∧ ∃ v6 : Int, 0 ≤ v6 ∧ v6 ≤ 400 ∧ (F_47 0) = upd f_29 (iZ (y + 1)).toNatClampNeg (iZ v6))) := hφ
          refine W.eq (g2 := F0 m 163 ls [.int (iZ (I_45 0))]) rfl ?_
          rcases p_52 with ⟨qt_53, et_53⟩ | ⟨qt_53, vt_53, g1t_53, g2t_53, ht_53⟩
          ·
            rw [qt_53]
            have kp_54 : KP (F_47 0) f_29 := by first | exact et_53 | (rw [et_53]; exact KP.rf _)
            exact EWz hx hb hr hlocks hS (fun i => [0, (I_45 1), (I_45 2), (I_45 3), (I_45 4), (I_45 5), (I_45 6)].getD i 0, fun i => [0].getD i 0, fun i => [(F_47 0)].getD i (fun _ => 0), fun i => [].getD i (fun _ => 0)) rfl rfl ⟨(show (0 ≤ ((I_45 2) : Int) ∧ ((I_45 2) : Int) ≤ (I_45 3)) ∧ (((I_45 3) : Int) ≤ Msz ∧ (Msz : Int) ≤ 900) ∧ (0 ≤ ((I_45 1) : Int) ∧ ((I_45 1) : Int) ≤ 4) ∧ (((I_45 1) : Int) = 0 ∨ ((I_45 2) : Int) < (I_45 3)) ∧ (-1 ≤ ((I_45 4) : Int) ∧ ((I_45 4) : Int) ≤ 100000) from ⟨⟨by omega, by omega⟩, ⟨by omega, by omega⟩, ⟨by omega, by omega⟩, by omega, by omega, by omega⟩), (show (0 ≤ ((I_45 5) : Int) ∧ ((I_45 5) : Int) ≤ 9) ∧ ((0 : Int) = 0 → 1 ≤ ((I_45 5) : Int)) ∧ ((0 : Int) = 0 ∨ (0 : Int) = 1) ∧ Mfr ≤ (I_45 2) from ⟨⟨by omega, by omega⟩, fun _ => by omega, by omega, by omega⟩), (show ((0 : Int) = 0 ∧ KP (F_47 0) Af) ∨ ((0 : Int) = 1 ∧ RWR (F_47 0) Af y ∧ (gz (F_47 0) y = 17 → 0 ≤ gz (F_47 0) (y + 1) ∧ gz (F_47 0) (y + 1) < gz Af 0) ∧ (gz (F_47 0) y = 1923 → 0 ≤ gz (F_47 0) (y + 2) ∧ gz (F_47 0) (y + 2) < 6)) from (Or.inl ⟨rfl, (KP.tr kp_54 (RWR.kp (RWR.tr w_30 w_11) (by omega)))⟩))⟩ (hP.sub [1, 2, 3, 0] rfl) (hD.sub [1, 2, 3, 0] rfl rfl) dX12_test_163
          ·
            rw [qt_53]
            have w_55 := RWR.up (y := y) ht_53 (by omega) (by omega) ⟨by omega, by omega⟩
            have uu_56 := gz_upc (j := y) ht_53 ⟨by omega, by omega⟩ ⟨by omega, by omega⟩ (by omega)
            have uu_57 := gz_upc (j := (y + 1)) ht_53 ⟨by omega, by omega⟩ ⟨by omega, by omega⟩ (by omega)
            have uu_58 := gz_upc (j := (y + 2)) ht_53 ⟨by omega, by omega⟩ ⟨by omega, by omega⟩ (by omega)
            have uu_59 := gz_upc (j := 0) ht_53 ⟨by omega, by omega⟩ ⟨by omega, by omega⟩ (by omega)
            exact EWz hx hb hr hlocks hS (fun i => [1, (I_45 1), (I_45 2), (I_45 3), (I_45 4), (I_45 5), (I_45 6)].getD i 0, fun i => [0].getD i 0, fun i => [(F_47 0)].getD i (fun _ => 0), fun i => [].getD i (fun _ => 0)) rfl rfl ⟨(show (0 ≤ ((I_45 2) : Int) ∧ ((I_45 2) : Int) ≤ (I_45 3)) ∧ (((I_45 3) : Int) ≤ Msz ∧ (Msz : Int) ≤ 900) ∧ (0 ≤ ((I_45 1) : Int) ∧ ((I_45 1) : Int) ≤ 4) ∧ (((I_45 1) : Int) = 0 ∨ ((I_45 2) : Int) < (I_45 3)) ∧ (-1 ≤ ((I_45 4) : Int) ∧ ((I_45 4) : Int) ≤ 100000) from ⟨⟨by omega, by omega⟩, ⟨by omega, by omega⟩, ⟨by omega, by omega⟩, by omega, by omega, by omega⟩), (show (0 ≤ ((I_45 5) : Int) ∧ ((I_45 5) : Int) ≤ 9) ∧ ((1 : Int) = 0 → 1 ≤ ((I_45 5) : Int)) ∧ ((1 : Int) = 0 ∨ (1 : Int) = 1) ∧ Mfr ≤ (I_45 2) from ⟨⟨by omega, by omega⟩, fun _ => by omega, by omega, by omega⟩), (show ((1 : Int) = 0 ∧ KP (F_47 0) Af) ∨ ((1 : Int) = 1 ∧ RWR (F_47 0) Af y ∧ (gz (F_47 0) y = 17 → 0 ≤ gz (F_47 0) (y + 1) ∧ gz (F_47 0) (y + 1) < gz Af 0) ∧ (gz (F_47 0) y = 1923 → 0 ≤ gz (F_47 0) (y + 2) ∧ gz (F_47 0) (y + 2) < 6)) from (Or.inr ⟨rfl, (RWR.tr w_55 (RWR.tr w_30 w_11)), fun h9 => by omega, fun h9 => by omega⟩))⟩ (hP.sub [1, 2, 3, 0] rfl) (hD.sub [1, 2, 3, 0] rfl rfl) dX12_test_163
        ·
          subst qz_26
          refine lv_if_ne (tgt := 136) hx hb dX12_test_109 (by decide) (fun c => absurd (by decide) c) (fun _ => ?_)
          refine lv_aload_n hx hb dX12_test_112 rfl (lv_at hl 1 rfl) ?_
          refine lv_bipush (v := iZ 62) hx hb dX12_test_113 (by decide) ?_
          refine CPV (As := [.int (iZ 62)]) (rest := []) hx hb hml hown hts hKK (hP.sub (ws' := [(hm, .inr (12, [.ref Ma, .ref Mn, .int (iZ Mst), .long Mtp, .long Mbt, .ref Ms, .ref My, .ref Mt, .ref Mp, .ref Mx, .int (iZ Mtd), .int (iZ Msz), .int (iZ (I_17 1)), .int (iZ (I_17 2)), .int (iZ (I_17 3)), .int (iZ (I_17 4)), .int (iZ Mfk), .int (iZ Mfp), .int (iZ Mfs), .int (iZ Mse), .int (iZ Mlt), .ref Mo, .int (iZ Mdp), .int (iZ Mct), .ref Mk, .ref Ml, .ref Mb, .ref Mh, .ref Mc, .int (iZ Mdr), .int (iZ Mrs), .ref Mz, .ref Mr, .ref Mq, .int (iZ Mit), .int (iZ Mmk)]))]) [2] rfl) (m_isSign l D k ([.ref Ma, .ref Mn, .int (iZ Mst), .long Mtp, .long Mbt, .ref Ms, .ref My, .ref Mt, .ref Mp, .ref Mx, .int (iZ Mtd), .int (iZ Msz), .int (iZ (I_17 1)), .int (iZ (I_17 2)), .int (iZ (I_17 3)), .int (iZ (I_17 4)), .int (iZ Mfk), .int (iZ Mfp), .int (iZ Mfs), .int (iZ Mse), .int (iZ Mlt), .ref Mo, .int (iZ Mdp), .int (iZ Mct), .ref Mk, .ref Ml, .ref Mb, .ref Mh, .ref Mc, .int (iZ Mdr), .int (iZ Mrs), .ref Mz, .ref Mr, .ref Mq, .int (iZ Mit), .int (iZ Mmk)]) hm (I_17 1) (I_17 4) 62 rfl rfl ⟨by omega, by omega⟩ ⟨by omega, by omega⟩ ⟨by omega, by omega⟩) ci_X12_isSign qm_X12_161 ⟨Nat.le_of_ble_eq_true rfl, Nat.le_of_ble_eq_true rfl⟩ ⟨Nat.le_of_ble_eq_true rfl, Nat.le_of_ble_eq_true rfl⟩ 0 rfl rfl rfl hl.1 rfl (Nat.le_of_ble_eq_true rfl) dX12_test_115 (fun z_61 hz_61 => ?_)
          rcases hz_61 with ⟨qz_61, hz_61⟩ | ⟨qz_61, hz_61⟩
          ·
            subst qz_61
            refine lv_if_ne (tgt := 136) hx hb dX12_test_118 (by decide) (fun _ => ?_) (fun c => absurd c (by decide))
            refine lv_aload_n hx hb dX12_test_136 rfl (lv_at hl 1 rfl) ?_
            refine va_get (D := D) (ci := 12) (v := .ref Ma) (C := RX12) (T := TX12) (N := 36) hx hb hts iX12 hown hK hP 2 rfl rfl 0 (by decide) (hts _ qf_X12_7) (fun _ h => h) rfl dX12_test_137 ?_
            refine lv_iload_n hx hb dX12_test_140 rfl (lv_at hl 2 rfl) ?_
            refine lv_iconst (v := iZ 5) hx hb dX12_test_141 (by decide) ?_
            refine lv_iadd hx hb dX12_test_142 ?_
            refine lv_topi (fun x_63 ex_63 => ?_)
            obtain rfl : x_63 = iZ (y + 5) := ex_63.trans (iZ_add y 5)
            refine lv_aload_n hx hb dX12_test_143 rfl (lv_at hl 1 rfl) ?_
            refine va_get (D := D) (ci := 12) (v := .int (iZ (I_17 4))) (C := RX12) (T := TX12) (N := 36) hx hb hts iX12 hown hK hP 2 rfl rfl 15 (by decide) (hts _ qf_X12_124) (fun _ h => h) rfl dX12_test_144 ?_
            refine va_iast hx hb hK hP hD hS 0 1 rfl rfl (zin (e := (y + 5)) (n := 5340) ⟨by omega, by omega⟩ (by decide)) dX12_test_147 (fun H locs hP hD hS => ?_)
            obtain ⟨f_64, hf_64⟩ : ∃ gg9, gg9 = upd f_10 (iZ (y + 5)).toNatClampNeg (iZ (I_17 4)) := ⟨_, rfl⟩
            rw [← hf_64] at hP hD
            have w_65 := RWR.up (y := y) hf_64 (by omega) (by omega) ⟨by omega, by omega⟩
            have uu_66 := gz_upc (j := y) hf_64 ⟨by omega, by omega⟩ ⟨by omega, by omega⟩ (by omega)
            have uu_67 := gz_upc (j := (y + 1)) hf_64 ⟨by omega, by omega⟩ ⟨by omega, by omega⟩ (by omega)
            have uu_68 := gz_upc (j := (y + 2)) hf_64 ⟨by omega, by omega⟩ ⟨by omega, by omega⟩ (by omega)
            have uu_69 := gz_upc (j := 0) hf_64 ⟨by omega, by omega⟩ ⟨by omega, by omega⟩ (by omega)
            refine lv_aload_n hx hb dX12_test_148 rfl (lv_at hl 1 rfl) ?_
            refine CWV (As := []) (rest := []) (wc := [(hm, .inr (12, [.ref Ma, .ref Mn, .int (iZ Mst), .long Mtp, .long Mbt, .ref Ms, .ref My, .ref Mt, .ref Mp, .ref Mx, .int (iZ Mtd), .int (iZ Msz), .int (iZ (I_17 1)), .int (iZ (I_17 2)), .int (iZ (I_17 3)), .int (iZ (I_17 4)), .int (iZ Mfk), .int (iZ Mfp), .int (iZ Mfs), .int (iZ Mse), .int (iZ Mlt), .ref Mo, .int (iZ Mdp), .int (iZ Mct), .ref Mk, .ref Ml, .ref Mb, .ref Mh, .ref Mc, .int (iZ Mdr), .int (iZ Mrs), .ref Mz, .ref Mr, .ref Mq, .int (iZ Mit), .int (iZ Mmk)])), (Mx, .inl (k 0, 900, .inl Xf))]) (wr := [(Ma, .inl (k 1, 5340, .inl f_64)), (Mn, .inl (k 2, 36, .inr (.inl Nf)))]) hx hb hml hown hts hKK hP hD hS hA (m_onward l D k hm Ma Mn Ms My Mt Mp Mx Mo Mk Ml Mb Mh Mc Mz Mr Mq Mst Mtd Msz (I_17 1) (I_17 2) (I_17 3) (I_17 4) Mfk Mfp Mfs Mse Mlt Mdp Mct Mdr Mrs Mit Mmk Mtp Mbt Xf ⟨⟨by omega, by omega⟩, by omega⟩) ci_X12_onward qm_X12_158 ⟨Nat.le_of_ble_eq_true rfl, Nat.le_of_ble_eq_true rfl⟩ ⟨Nat.le_of_ble_eq_true rfl, Nat.le_of_ble_eq_true rfl⟩ [2, 3] [0, 1] rfl rfl rfl rfl rfl (by decide) 0 rfl rfl rfl hl.1 rfl (Nat.le_of_ble_eq_true rfl) dX12_test_149 (fun u_70 H locs hφ hP hD hS => ?_)
            obtain ⟨I_71, L_72, F_73, G_74⟩ := u_70
            obtain ⟨p_76, p_77⟩ : ((0 ≤ ((I_71 2) : Int) ∧ ((I_71 2) : Int) ≤ (I_71 3)) ∧ (((I_71 3) : Int) ≤ Msz ∧ (Msz : Int) ≤ 900) ∧ (0 ≤ ((I_71 1) : Int) ∧ ((I_71 1) : Int) ≤ 4) ∧ (((I_71 1) : Int) = 0 ∨ ((I_71 2) : Int) < (I_71 3)) ∧ (-1 ≤ ((I_71 4) : Int) ∧ ((I_71 4) : Int) ≤ 100000)) ∧ ((I_17 3) ≤ (I_71 2)) := hφ
            refine W.eq (g2 := F0 m 152 ls []) rfl ?_
            refine lv_aload_n hx hb dX12_test_152 rfl (lv_at hl 1 rfl) ?_
            refine lv_iload_n hx hb dX12_test_153 rfl (lv_at hl 2 rfl) ?_
            refine lv_iconst (v := iZ 1) hx hb dX12_test_154 (by decide) ?_
            refine lv_iadd hx hb dX12_test_155 ?_
            refine lv_topi (fun x_78 ex_78 => ?_)
            obtain rfl : x_78 = iZ (y + 1) := ex_78.trans (iZ_add y 1)
            refine lv_iconst (v := iZ 0) hx hb dX12_test_156 (by decide) ?_
            refine lv_sipush (v := iZ 400) hx hb dX12_test_157 (by decide) ?_
            refine CWV (As := [.int (iZ (y + 1)), .int (iZ 0), .int (iZ 400)]) (rest := []) (wc := [(hm, .inr (12, [.ref Ma, .ref Mn, .int (iZ Mst), .long Mtp, .long Mbt, .ref Ms, .ref My, .ref Mt, .ref Mp, .ref Mx, .int (iZ Mtd), .int (iZ Msz), .int (iZ (I_71 1)), .int (iZ (I_71 2)), .int (iZ (I_71 3)), .int (iZ (I_71 4)), .int (iZ Mfk), .int (iZ Mfp), .int (iZ Mfs), .int (iZ Mse), .int (iZ Mlt), .ref Mo, .int (iZ Mdp), .int (iZ Mct), .ref Mk, .ref Ml, .ref Mb, .ref Mh, .ref Mc, .int (iZ Mdr), .int (iZ Mrs), .ref Mz, .ref Mr, .ref Mq, .int (iZ Mit), .int (iZ Mmk)])), (Mx, .inl (k 0, 900, .inl Xf)), (Ma, .inl (k 1, 5340, .inl f_64))]) (wr := [(Mn, .inl (k 2, 36, .inr (.inl Nf)))]) hx hb hml hown hts hKK hP hD hS hA (m_number l D k hm Ma Mn Ms My Mt Mp Mx Mo Mk Ml Mb Mh Mc Mz Mr Mq Mst Mtd Msz (I_71 1) (I_71 2) (I_71 3) (I_71 4) Mfk Mfp Mfs Mse Mlt Mdp Mct Mdr Mrs Mit Mmk Mtp Mbt Xf f_64 (y + 1) 0 400 ⟨⟨by omega, by omega⟩, ⟨by omega, by omega⟩, ⟨by omega, by omega⟩, by omega, by omega, by omega⟩ ⟨by omega, by omega⟩ ⟨by omega, by omega⟩ ⟨by omega, by omega⟩ ⟨by omega, by omega⟩) ci_X12_number qm_X12_188 ⟨Nat.le_of_ble_eq_true rfl, Nat.le_of_ble_eq_true rfl⟩ ⟨Nat.le_of_ble_eq_true rfl, Nat.le_of_ble_eq_true rfl⟩ [2, 3, 0] [1] rfl rfl rfl rfl rfl (by decide) 0 rfl rfl rfl hl.1 rfl (Nat.le_of_ble_eq_true rfl) dX12_test_160 (fun u_79 H locs hφ hP hD hS => ?_)
            obtain ⟨I_80, L_81, F_82, G_83⟩ := u_79
            obtain ⟨p_85, p_86, p_87⟩ : ((0 ≤ ((I_80 2) : Int) ∧ ((I_80 2) : Int) ≤ (I_80 3)) ∧ (((I_80 3) : Int) ≤ Msz ∧ (Msz : Int) ≤ 900) ∧ (0 ≤ ((I_80 1) : Int) ∧ ((I_80 1) : Int) ≤ 4) ∧ (((I_80 1) : Int) = 0 ∨ ((I_80 2) : Int) < (I_80 3)) ∧ (-1 ≤ ((I_80 4) : Int) ∧ ((I_80 4) : Int) ≤ 100000)) ∧ ((0 ≤ ((I_80 5) : Int) ∧ ((I_80 5) : Int) ≤ 9) ∧ (((I_80 0) : Int) = 0 → 1 ≤ ((I_80 5) : Int)) ∧ (((I_80 0) : Int) = 0 ∨ ((I_80 0) : Int) = 1) ∧ (I_71 2) ≤ (I_80 2)) ∧ ((((I_80 0) : Int) = 0 ∧ (F_82 0) = f_64) ∨ (((I_80 0) : Int) = 1 ∧ ∃ v6 : Int, 0 ≤ v6 ∧ v6 ≤ 400 ∧ (F_82 0) = upd f_64 (iZ (y + 1)).toNatClampNeg (iZ v6))) := hφ
            refine W.eq (g2 := F0 m 163 ls [.int (iZ (I_80 0))]) rfl ?_
            rcases p_87 with ⟨qt_88, et_88⟩ | ⟨qt_88, vt_88, g1t_88, g2t_88, ht_88⟩
            ·
              rw [qt_88]
              have kp_89 : KP (F_82 0) f_64 := by first | exact et_88 | (rw [et_88]; exact KP.rf _)
              exact EWz hx hb hr hlocks hS (fun i => [0, (I_80 1), (I_80 2), (I_80 3), (I_80 4), (I_80 5), (I_80 6)].getD i 0, fun i => [0].getD i 0, fun i => [(F_82 0)].getD i (fun _ => 0), fun i => [].getD i (fun _ => 0)) rfl rfl ⟨(show (0 ≤ ((I_80 2) : Int) ∧ ((I_80 2) : Int) ≤ (I_80 3)) ∧ (((I_80 3) : Int) ≤ Msz ∧ (Msz : Int) ≤ 900) ∧ (0 ≤ ((I_80 1) : Int) ∧ ((I_80 1) : Int) ≤ 4) ∧ (((I_80 1) : Int) = 0 ∨ ((I_80 2) : Int) < (I_80 3)) ∧ (-1 ≤ ((I_80 4) : Int) ∧ ((I_80 4) : Int) ≤ 100000) from ⟨⟨by omega, by omega⟩, ⟨by omega, by omega⟩, ⟨by omega, by omega⟩, by omega, by omega, by omega⟩), (show (0 ≤ ((I_80 5) : Int) ∧ ((I_80 5) : Int) ≤ 9) ∧ ((0 : Int) = 0 → 1 ≤ ((I_80 5) : Int)) ∧ ((0 : Int) = 0 ∨ (0 : Int) = 1) ∧ Mfr ≤ (I_80 2) from ⟨⟨by omega, by omega⟩, fun _ => by omega, by omega, by omega⟩), (show ((0 : Int) = 0 ∧ KP (F_82 0) Af) ∨ ((0 : Int) = 1 ∧ RWR (F_82 0) Af y ∧ (gz (F_82 0) y = 17 → 0 ≤ gz (F_82 0) (y + 1) ∧ gz (F_82 0) (y + 1) < gz Af 0) ∧ (gz (F_82 0) y = 1923 → 0 ≤ gz (F_82 0) (y + 2) ∧ gz (F_82 0) (y + 2) < 6)) from (Or.inl ⟨rfl, (KP.tr kp_89 (RWR.kp (RWR.tr w_65 w_11) (by omega)))⟩))⟩ (hP.sub [1, 2, 3, 0] rfl) (hD.sub [1, 2, 3, 0] rfl rfl) dX12_test_163
            ·
              rw [qt_88]
              have w_90 := RWR.up (y := y) ht_88 (by omega) (by omega) ⟨by omega, by omega⟩
              have uu_91 := gz_upc (j := y) ht_88 ⟨by omega, by omega⟩ ⟨by omega, by omega⟩ (by omega)
              have uu_92 := gz_upc (j := (y + 1)) ht_88 ⟨by omega, by omega⟩ ⟨by omega, by omega⟩ (by omega)
              have uu_93 := gz_upc (j := (y + 2)) ht_88 ⟨by omega, by omega⟩ ⟨by omega, by omega⟩ (by omega)
              have uu_94 := gz_upc (j := 0) ht_88 ⟨by omega, by omega⟩ ⟨by omega, by omega⟩ (by omega)
              exact EWz hx hb hr hlocks hS (fun i => [1, (I_80 1), (I_80 2), (I_80 3), (I_80 4), (I_80 5), (I_80 6)].getD i 0, fun i => [0].getD i 0, fun i => [(F_82 0)].getD i (fun _ => 0), fun i => [].getD i (fun _ => 0)) rfl rfl ⟨(show (0 ≤ ((I_80 2) : Int) ∧ ((I_80 2) : Int) ≤ (I_80 3)) ∧ (((I_80 3) : Int) ≤ Msz ∧ (Msz : Int) ≤ 900) ∧ (0 ≤ ((I_80 1) : Int) ∧ ((I_80 1) : Int) ≤ 4) ∧ (((I_80 1) : Int) = 0 ∨ ((I_80 2) : Int) < (I_80 3)) ∧ (-1 ≤ ((I_80 4) : Int) ∧ ((I_80 4) : Int) ≤ 100000) from ⟨⟨by omega, by omega⟩, ⟨by omega, by omega⟩, ⟨by omega, by omega⟩, by omega, by omega, by omega⟩), (show (0 ≤ ((I_80 5) : Int) ∧ ((I_80 5) : Int) ≤ 9) ∧ ((1 : Int) = 0 → 1 ≤ ((I_80 5) : Int)) ∧ ((1 : Int) = 0 ∨ (1 : Int) = 1) ∧ Mfr ≤ (I_80 2) from ⟨⟨by omega, by omega⟩, fun _ => by omega, by omega, by omega⟩), (show ((1 : Int) = 0 ∧ KP (F_82 0) Af) ∨ ((1 : Int) = 1 ∧ RWR (F_82 0) Af y ∧ (gz (F_82 0) y = 17 → 0 ≤ gz (F_82 0) (y + 1) ∧ gz (F_82 0) (y + 1) < gz Af 0) ∧ (gz (F_82 0) y = 1923 → 0 ≤ gz (F_82 0) (y + 2) ∧ gz (F_82 0) (y + 2) < 6)) from (Or.inr ⟨rfl, (RWR.tr w_90 (RWR.tr w_65 w_11)), fun h9 => by omega, fun h9 => by omega⟩))⟩ (hP.sub [1, 2, 3, 0] rfl) (hD.sub [1, 2, 3, 0] rfl rfl) dX12_test_163
          ·
            subst qz_61
            refine lv_if_ne (tgt := 136) hx hb dX12_test_118 (by decide) (fun c => absurd (by decide) c) (fun _ => ?_)
            refine lv_aload_n hx hb dX12_test_121 rfl (lv_at hl 1 rfl) ?_
            refine lv_bipush (v := iZ 61) hx hb dX12_test_122 (by decide) ?_
            refine CPV (As := [.int (iZ 61)]) (rest := []) hx hb hml hown hts hKK (hP.sub (ws' := [(hm, .inr (12, [.ref Ma, .ref Mn, .int (iZ Mst), .long Mtp, .long Mbt, .ref Ms, .ref My, .ref Mt, .ref Mp, .ref Mx, .int (iZ Mtd), .int (iZ Msz), .int (iZ (I_17 1)), .int (iZ (I_17 2)), .int (iZ (I_17 3)), .int (iZ (I_17 4)), .int (iZ Mfk), .int (iZ Mfp), .int (iZ Mfs), .int (iZ Mse), .int (iZ Mlt), .ref Mo, .int (iZ Mdp), .int (iZ Mct), .ref Mk, .ref Ml, .ref Mb, .ref Mh, .ref Mc, .int (iZ Mdr), .int (iZ Mrs), .ref Mz, .ref Mr, .ref Mq, .int (iZ Mit), .int (iZ Mmk)]))]) [2] rfl) (m_isSign l D k ([.ref Ma, .ref Mn, .int (iZ Mst), .long Mtp, .long Mbt, .ref Ms, .ref My, .ref Mt, .ref Mp, .ref Mx, .int (iZ Mtd), .int (iZ Msz), .int (iZ (I_17 1)), .int (iZ (I_17 2)), .int (iZ (I_17 3)), .int (iZ (I_17 4)), .int (iZ Mfk), .int (iZ Mfp), .int (iZ Mfs), .int (iZ Mse), .int (iZ Mlt), .ref Mo, .int (iZ Mdp), .int (iZ Mct), .ref Mk, .ref Ml, .ref Mb, .ref Mh, .ref Mc, .int (iZ Mdr), .int (iZ Mrs), .ref Mz, .ref Mr, .ref Mq, .int (iZ Mit), .int (iZ Mmk)]) hm (I_17 1) (I_17 4) 61 rfl rfl ⟨by omega, by omega⟩ ⟨by omega, by omega⟩ ⟨by omega, by omega⟩) ci_X12_isSign qm_X12_161 ⟨Nat.le_of_ble_eq_true rfl, Nat.le_of_ble_eq_true rfl⟩ ⟨Nat.le_of_ble_eq_true rfl, Nat.le_of_ble_eq_true rfl⟩ 0 rfl rfl rfl hl.1 rfl (Nat.le_of_ble_eq_true rfl) dX12_test_124 (fun z_96 hz_96 => ?_)
            rcases hz_96 with ⟨qz_96, hz_96⟩ | ⟨qz_96, hz_96⟩
            ·
              subst qz_96
              refine lv_if_ne (tgt := 136) hx hb dX12_test_127 (by decide) (fun _ => ?_) (fun c => absurd c (by decide))
              refine lv_aload_n hx hb dX12_test_136 rfl (lv_at hl 1 rfl) ?_
              refine va_get (D := D) (ci := 12) (v := .ref Ma) (C := RX12) (T := TX12) (N := 36) hx hb hts iX12 hown hK hP 2 rfl rfl 0 (by decide) (hts _ qf_X12_7) (fun _ h => h) rfl dX12_test_137 ?_
              refine lv_iload_n hx hb dX12_test_140 rfl (lv_at hl 2 rfl) ?_
              refine lv_iconst (v := iZ 5) hx hb dX12_test_141 (by decide) ?_
              refine lv_iadd hx hb dX12_test_142 ?_
              refine lv_topi (fun x_98 ex_98 => ?_)
              obtain rfl : x_98 = iZ (y + 5) := ex_98.trans (iZ_add y 5)
              refine lv_aload_n hx hb dX12_test_143 rfl (lv_at hl 1 rfl) ?_
              refine va_get (D := D) (ci := 12) (v := .int (iZ (I_17 4))) (C := RX12) (T := TX12) (N := 36) hx hb hts iX12 hown hK hP 2 rfl rfl 15 (by decide) (hts _ qf_X12_124) (fun _ h => h) rfl dX12_test_144 ?_
              refine va_iast hx hb hK hP hD hS 0 1 rfl rfl (zin (e := (y + 5)) (n := 5340) ⟨by omega, by omega⟩ (by decide)) dX12_test_147 (fun H locs hP hD hS => ?_)
              obtain ⟨f_99, hf_99⟩ : ∃ gg9, gg9 = upd f_10 (iZ (y + 5)).toNatClampNeg (iZ (I_17 4)) := ⟨_, rfl⟩
              rw [← hf_99] at hP hD
              have w_100 := RWR.up (y := y) hf_99 (by omega) (by omega) ⟨by omega, by omega⟩
              have uu_101 := gz_upc (j := y) hf_99 ⟨by omega, by omega⟩ ⟨by omega, by omega⟩ (by omega)
              have uu_102 := gz_upc (j := (y + 1)) hf_99 ⟨by omega, by omega⟩ ⟨by omega, by omega⟩ (by omega)
              have uu_103 := gz_upc (j := (y + 2)) hf_99 ⟨by omega, by omega⟩ ⟨by omega, by omega⟩ (by omega)
              have uu_104 := gz_upc (j := 0) hf_99 ⟨by omega, by omega⟩ ⟨by omega, by omega⟩ (by omega)
              refine lv_aload_n hx hb dX12_test_148 rfl (lv_at hl 1 rfl) ?_
              refine CWV (As := []) (rest := []) (wc := [(hm, .inr (12, [.ref Ma, .ref Mn, .int (iZ Mst), .long Mtp, .long Mbt, .ref Ms, .ref My, .ref Mt, .ref Mp, .ref Mx, .int (iZ Mtd), .int (iZ Msz), .int (iZ (I_17 1)), .int (iZ (I_17 2)), .int (iZ (I_17 3)), .int (iZ (I_17 4)), .int (iZ Mfk), .int (iZ Mfp), .int (iZ Mfs), .int (iZ Mse), .int (iZ Mlt), .ref Mo, .int (iZ Mdp), .int (iZ Mct), .ref Mk, .ref Ml, .ref Mb, .ref Mh, .ref Mc, .int (iZ Mdr), .int (iZ Mrs), .ref Mz, .ref Mr, .ref Mq, .int (iZ Mit), .int (iZ Mmk)])), (Mx, .inl (k 0, 900, .inl Xf))]) (wr := [(Ma, .inl (k 1, 5340, .inl f_99)), (Mn, .inl (k 2, 36, .inr (.inl Nf)))]) hx hb hml hown hts hKK hP hD hS hA (m_onward l D k hm Ma Mn Ms My Mt Mp Mx Mo Mk Ml Mb Mh Mc Mz Mr Mq Mst Mtd Msz (I_17 1) (I_17 2) (I_17 3) (I_17 4) Mfk Mfp Mfs Mse Mlt Mdp Mct Mdr Mrs Mit Mmk Mtp Mbt Xf ⟨⟨by omega, by omega⟩, by omega⟩) ci_X12_onward qm_X12_158 ⟨Nat.le_of_ble_eq_true rfl, Nat.le_of_ble_eq_true rfl⟩ ⟨Nat.le_of_ble_eq_true rfl, Nat.le_of_ble_eq_true rfl⟩ [2, 3] [0, 1] rfl rfl rfl rfl rfl (by decide) 0 rfl rfl rfl hl.1 rfl (Nat.le_of_ble_eq_true rfl) dX12_test_149 (fun u_105 H locs hφ hP hD hS => ?_)
              obtain ⟨I_106, L_107, F_108, G_109⟩ := u_105
              obtain ⟨p_111, p_112⟩ : ((0 ≤ ((I_106 2) : Int) ∧ ((I_106 2) : Int) ≤ (I_106 3)) ∧ (((I_106 3) : Int) ≤ Msz ∧ (Msz : Int) ≤ 900) ∧ (0 ≤ ((I_106 1) : Int) ∧ ((I_106 1) : Int) ≤ 4) ∧ (((I_106 1) : Int) = 0 ∨ ((I_106 2) : Int) < (I_106 3)) ∧ (-1 ≤ ((I_106 4) : Int) ∧ ((I_106 4) : Int) ≤ 100000)) ∧ ((I_17 3) ≤ (I_106 2)) := hφ
              refine W.eq (g2 := F0 m 152 ls []) rfl ?_
              refine lv_aload_n hx hb dX12_test_152 rfl (lv_at hl 1 rfl) ?_
              refine lv_iload_n hx hb dX12_test_153 rfl (lv_at hl 2 rfl) ?_
              refine lv_iconst (v := iZ 1) hx hb dX12_test_154 (by decide) ?_
              refine lv_iadd hx hb dX12_test_155 ?_
              refine lv_topi (fun x_113 ex_113 => ?_)
              obtain rfl : x_113 = iZ (y + 1) := ex_113.trans (iZ_add y 1)
              refine lv_iconst (v := iZ 0) hx hb dX12_test_156 (by decide) ?_
              refine lv_sipush (v := iZ 400) hx hb dX12_test_157 (by decide) ?_
              refine CWV (As := [.int (iZ (y + 1)), .int (iZ 0), .int (iZ 400)]) (rest := []) (wc := [(hm, .inr (12, [.ref Ma, .ref Mn, .int (iZ Mst), .long Mtp, .long Mbt, .ref Ms, .ref My, .ref Mt, .ref Mp, .ref Mx, .int (iZ Mtd), .int (iZ Msz), .int (iZ (I_106 1)), .int (iZ (I_106 2)), .int (iZ (I_106 3)), .int (iZ (I_106 4)), .int (iZ Mfk), .int (iZ Mfp), .int (iZ Mfs), .int (iZ Mse), .int (iZ Mlt), .ref Mo, .int (iZ Mdp), .int (iZ Mct), .ref Mk, .ref Ml, .ref Mb, .ref Mh, .ref Mc, .int (iZ Mdr), .int (iZ Mrs), .ref Mz, .ref Mr, .ref Mq, .int (iZ Mit), .int (iZ Mmk)])), (Mx, .inl (k 0, 900, .inl Xf)), (Ma, .inl (k 1, 5340, .inl f_99))]) (wr := [(Mn, .inl (k 2, 36, .inr (.inl Nf)))]) hx hb hml hown hts hKK hP hD hS hA (m_number l D k hm Ma Mn Ms My Mt Mp Mx Mo Mk Ml Mb Mh Mc Mz Mr Mq Mst Mtd Msz (I_106 1) (I_106 2) (I_106 3) (I_106 4) Mfk Mfp Mfs Mse Mlt Mdp Mct Mdr Mrs Mit Mmk Mtp Mbt Xf f_99 (y + 1) 0 400 ⟨⟨by omega, by omega⟩, ⟨by omega, by omega⟩, ⟨by omega, by omega⟩, by omega, by omega, by omega⟩ ⟨by omega, by omega⟩ ⟨by omega, by omega⟩ ⟨by omega, by omega⟩ ⟨by omega, by omega⟩) ci_X12_number qm_X12_188 ⟨Nat.le_of_ble_eq_true rfl, Nat.le_of_ble_eq_true rfl⟩ ⟨Nat.le_of_ble_eq_true rfl, Nat.le_of_ble_eq_true rfl⟩ [2, 3, 0] [1] rfl rfl rfl rfl rfl (by decide) 0 rfl rfl rfl hl.1 rfl (Nat.le_of_ble_eq_true rfl) dX12_test_160 (fun u_114 H locs hφ hP hD hS => ?_)
              obtain ⟨I_115, L_116, F_117, G_118⟩ := u_114
              obtain ⟨p_120, p_121, p_122⟩ : ((0 ≤ ((I_115 2) : Int) ∧ ((I_115 2) : Int) ≤ (I_115 3)) ∧ (((I_115 3) : Int) ≤ Msz ∧ (Msz : Int) ≤ 900) ∧ (0 ≤ ((I_115 1) : Int) ∧ ((I_115 1) : Int) ≤ 4) ∧ (((I_115 1) : Int) = 0 ∨ ((I_115 2) : Int) < (I_115 3)) ∧ (-1 ≤ ((I_115 4) : Int) ∧ ((I_115 4) : Int) ≤ 100000)) ∧ ((0 ≤ ((I_115 5) : Int) ∧ ((I_115 5) : Int) ≤ 9) ∧ (((I_115 0) : Int) = 0 → 1 ≤ ((I_115 5) : Int)) ∧ (((I_115 0) : Int) = 0 ∨ ((I_115 0) : Int) = 1) ∧ (I_106 2) ≤ (I_115 2)) ∧ ((((I_115 0) : Int) = 0 ∧ (F_117 0) = f_99) ∨ (((I_115 0) : Int) = 1 ∧ ∃ v6 : Int, 0 ≤ v6 ∧ v6 ≤ 400 ∧ (F_117 0) = upd f_99 (iZ (y + 1)).toNatClampNeg (iZ v6))) := hφ
              refine W.eq (g2 := F0 m 163 ls [.int (iZ (I_115 0))]) rfl ?_
              rcases p_122 with ⟨qt_123, et_123⟩ | ⟨qt_123, vt_123, g1t_123, g2t_123, ht_123⟩
              ·
                rw [qt_123]
                have kp_124 : KP (F_117 0) f_99 := by first | exact et_123 | (rw [et_123]; exact KP.rf _)
                exact EWz hx hb hr hlocks hS (fun i => [0, (I_115 1), (I_115 2), (I_115 3), (I_115 4), (I_115 5), (I_115 6)].getD i 0, fun i => [0].getD i 0, fun i => [(F_117 0)].getD i (fun _ => 0), fun i => [].getD i (fun _ => 0)) rfl rfl ⟨(show (0 ≤ ((I_115 2) : Int) ∧ ((I_115 2) : Int) ≤ (I_115 3)) ∧ (((I_115 3) : Int) ≤ Msz ∧ (Msz : Int) ≤ 900) ∧ (0 ≤ ((I_115 1) : Int) ∧ ((I_115 1) : Int) ≤ 4) ∧ (((I_115 1) : Int) = 0 ∨ ((I_115 2) : Int) < (I_115 3)) ∧ (-1 ≤ ((I_115 4) : Int) ∧ ((I_115 4) : Int) ≤ 100000) from ⟨⟨by omega, by omega⟩, ⟨by omega, by omega⟩, ⟨by omega, by omega⟩, by omega, by omega, by omega⟩), (show (0 ≤ ((I_115 5) : Int) ∧ ((I_115 5) : Int) ≤ 9) ∧ ((0 : Int) = 0 → 1 ≤ ((I_115 5) : Int)) ∧ ((0 : Int) = 0 ∨ (0 : Int) = 1) ∧ Mfr ≤ (I_115 2) from ⟨⟨by omega, by omega⟩, fun _ => by omega, by omega, by omega⟩), (show ((0 : Int) = 0 ∧ KP (F_117 0) Af) ∨ ((0 : Int) = 1 ∧ RWR (F_117 0) Af y ∧ (gz (F_117 0) y = 17 → 0 ≤ gz (F_117 0) (y + 1) ∧ gz (F_117 0) (y + 1) < gz Af 0) ∧ (gz (F_117 0) y = 1923 → 0 ≤ gz (F_117 0) (y + 2) ∧ gz (F_117 0) (y + 2) < 6)) from (Or.inl ⟨rfl, (KP.tr kp_124 (RWR.kp (RWR.tr w_100 w_11) (by omega)))⟩))⟩ (hP.sub [1, 2, 3, 0] rfl) (hD.sub [1, 2, 3, 0] rfl rfl) dX12_test_163
              ·
                rw [qt_123]
                have w_125 := RWR.up (y := y) ht_123 (by omega) (by omega) ⟨by omega, by omega⟩
                have uu_126 := gz_upc (j := y) ht_123 ⟨by omega, by omega⟩ ⟨by omega, by omega⟩ (by omega)
                have uu_127 := gz_upc (j := (y + 1)) ht_123 ⟨by omega, by omega⟩ ⟨by omega, by omega⟩ (by omega)
                have uu_128 := gz_upc (j := (y + 2)) ht_123 ⟨by omega, by omega⟩ ⟨by omega, by omega⟩ (by omega)
                have uu_129 := gz_upc (j := 0) ht_123 ⟨by omega, by omega⟩ ⟨by omega, by omega⟩ (by omega)
                exact EWz hx hb hr hlocks hS (fun i => [1, (I_115 1), (I_115 2), (I_115 3), (I_115 4), (I_115 5), (I_115 6)].getD i 0, fun i => [0].getD i 0, fun i => [(F_117 0)].getD i (fun _ => 0), fun i => [].getD i (fun _ => 0)) rfl rfl ⟨(show (0 ≤ ((I_115 2) : Int) ∧ ((I_115 2) : Int) ≤ (I_115 3)) ∧ (((I_115 3) : Int) ≤ Msz ∧ (Msz : Int) ≤ 900) ∧ (0 ≤ ((I_115 1) : Int) ∧ ((I_115 1) : Int) ≤ 4) ∧ (((I_115 1) : Int) = 0 ∨ ((I_115 2) : Int) < (I_115 3)) ∧ (-1 ≤ ((I_115 4) : Int) ∧ ((I_115 4) : Int) ≤ 100000) from ⟨⟨by omega, by omega⟩, ⟨by omega, by omega⟩, ⟨by omega, by omega⟩, by omega, by omega, by omega⟩), (show (0 ≤ ((I_115 5) : Int) ∧ ((I_115 5) : Int) ≤ 9) ∧ ((1 : Int) = 0 → 1 ≤ ((I_115 5) : Int)) ∧ ((1 : Int) = 0 ∨ (1 : Int) = 1) ∧ Mfr ≤ (I_115 2) from ⟨⟨by omega, by omega⟩, fun _ => by omega, by omega, by omega⟩), (show ((1 : Int) = 0 ∧ KP (F_117 0) Af) ∨ ((1 : Int) = 1 ∧ RWR (F_117 0) Af y ∧ (gz (F_117 0) y = 17 → 0 ≤ gz (F_117 0) (y + 1) ∧ gz (F_117 0) (y + 1) < gz Af 0) ∧ (gz (F_117 0) y = 1923 → 0 ≤ gz (F_117 0) (y + 2) ∧ gz (F_117 0) (y + 2) < 6)) from (Or.inr ⟨rfl, (RWR.tr w_125 (RWR.tr w_100 w_11)), fun h9 => by omega, fun h9 => by omega⟩))⟩ (hP.sub [1, 2, 3, 0] rfl) (hD.sub [1, 2, 3, 0] rfl rfl) dX12_test_163
            ·
              subst qz_96
              refine lv_if_ne (tgt := 136) hx hb dX12_test_127 (by decide) (fun c => absurd (by decide) c) (fun _ => ?_)
              refine lv_aload_n hx hb dX12_test_130 rfl (lv_at hl 1 rfl) ?_
              refine lv_iconst (v := iZ 2) hx hb dX12_test_131 (by decide) ?_
              refine CWV (As := [.int (iZ 2)]) (rest := []) (wc := [(hm, .inr (12, [.ref Ma, .ref Mn, .int (iZ Mst), .long Mtp, .long Mbt, .ref Ms, .ref My, .ref Mt, .ref Mp, .ref Mx, .int (iZ Mtd), .int (iZ Msz), .int (iZ (I_17 1)), .int (iZ (I_17 2)), .int (iZ (I_17 3)), .int (iZ (I_17 4)), .int (iZ Mfk), .int (iZ Mfp), .int (iZ Mfs), .int (iZ Mse), .int (iZ Mlt), .ref Mo, .int (iZ Mdp), .int (iZ Mct), .ref Mk, .ref Ml, .ref Mb, .ref Mh, .ref Mc, .int (iZ Mdr), .int (iZ Mrs), .ref Mz, .ref Mr, .ref Mq, .int (iZ Mit), .int (iZ Mmk)]))]) (wr := [(Ma, .inl (k 1, 5340, .inl f_10)), (Mn, .inl (k 2, 36, .inr (.inl Nf))), (Mx, .inl (k 0, 900, .inl Xf))]) hx hb hml hown hts hKK hP hD hS hA (m_fails l D k hm Ma Mn Ms My Mt Mp Mx Mo Mk Ml Mb Mh Mc Mz Mr Mq Mst Mtd Msz (I_17 1) (I_17 2) (I_17 3) (I_17 4) Mfk Mfp Mfs Mse Mlt Mdp Mct Mdr Mrs Mit Mmk Mtp Mbt 2 ⟨by omega, by omega⟩ ⟨by omega, by omega⟩ ⟨by omega, by omega⟩) ci_X12_fails qm_X12_164 ⟨Nat.le_of_ble_eq_true rfl, Nat.le_of_ble_eq_true rfl⟩ ⟨Nat.le_of_ble_eq_true rfl, Nat.le_of_ble_eq_true rfl⟩ [2] [0, 1, 3] rfl rfl rfl rfl rfl (by decide) 0 rfl rfl rfl hl.1 rfl (Nat.le_of_ble_eq_true rfl) dX12_test_132 (fun u_131 H locs hφ hP hD hS => ?_)
              obtain ⟨I_132, L_133, F_134, G_135⟩ := u_131
              have p_137 : 1 ≤ ((I_132 1) : Int) ∧ ((I_132 1) : Int) ≤ 9 := hφ
              refine W.eq (g2 := F0 m 135 ls [.int (iZ 0)]) rfl ?_
              exact EWz hx hb hr hlocks hS (fun i => [0, (I_17 1), (I_17 2), (I_17 3), (I_17 4), (I_132 1), (I_132 2)].getD i 0, fun i => [0].getD i 0, fun i => [f_10].getD i (fun _ => 0), fun i => [].getD i (fun _ => 0)) rfl rfl ⟨(show (0 ≤ ((I_17 2) : Int) ∧ ((I_17 2) : Int) ≤ (I_17 3)) ∧ (((I_17 3) : Int) ≤ Msz ∧ (Msz : Int) ≤ 900) ∧ (0 ≤ ((I_17 1) : Int) ∧ ((I_17 1) : Int) ≤ 4) ∧ (((I_17 1) : Int) = 0 ∨ ((I_17 2) : Int) < (I_17 3)) ∧ (-1 ≤ ((I_17 4) : Int) ∧ ((I_17 4) : Int) ≤ 100000) from ⟨⟨by omega, by omega⟩, ⟨by omega, by omega⟩, ⟨by omega, by omega⟩, by omega, by omega, by omega⟩), (show (0 ≤ ((I_132 1) : Int) ∧ ((I_132 1) : Int) ≤ 9) ∧ ((0 : Int) = 0 → 1 ≤ ((I_132 1) : Int)) ∧ ((0 : Int) = 0 ∨ (0 : Int) = 1) ∧ Mfr ≤ (I_17 2) from ⟨⟨by omega, by omega⟩, fun _ => by omega, by omega, by omega⟩), (show ((0 : Int) = 0 ∧ KP f_10 Af) ∨ ((0 : Int) = 1 ∧ RWR f_10 Af y ∧ (gz f_10 y = 17 → 0 ≤ gz f_10 (y + 1) ∧ gz f_10 (y + 1) < gz Af 0) ∧ (gz f_10 y = 1923 → 0 ≤ gz f_10 (y + 2) ∧ gz f_10 (y + 2) < 6)) from (Or.inl ⟨rfl, (RWR.kp w_11 (by omega))⟩))⟩ (hP.sub [3, 2, 0, 1] rfl) (hD.sub [3, 2, 0, 1] rfl rfl) dX12_test_135
      ·
        have c_25 := (zeq (x := iZ (I_2 0)) (y := iZ 23) rfl rfl ⟨by omega, by omega⟩ ⟨by omega, by omega⟩).mp c_25
        refine lv_aload_n hx hb dX12_test_66 rfl (lv_at hl 1 rfl) ?_
        refine lv_iload_n hx hb dX12_test_67 rfl (lv_at hl 2 rfl) ?_
        refine lv_iconst (v := iZ 1) hx hb dX12_test_68 (by decide) ?_
        refine lv_iadd hx hb dX12_test_69 ?_
        refine lv_topi (fun x_138 ex_138 => ?_)
        obtain rfl : x_138 = iZ (y + 1) := ex_138.trans (iZ_add y 1)
        refine CSV (As := [.int (iZ (y + 1))]) (rest := []) (wc := [(hm, .inr (12, [.ref Ma, .ref Mn, .int (iZ Mst), .long Mtp, .long Mbt, .ref Ms, .ref My, .ref Mt, .ref Mp, .ref Mx, .int (iZ Mtd), .int (iZ Msz), .int (iZ (I_17 1)), .int (iZ (I_17 2)), .int (iZ (I_17 3)), .int (iZ (I_17 4)), .int (iZ Mfk), .int (iZ Mfp), .int (iZ Mfs), .int (iZ Mse), .int (iZ Mlt), .ref Mo, .int (iZ Mdp), .int (iZ Mct), .ref Mk, .ref Ml, .ref Mb, .ref Mh, .ref Mc, .int (iZ Mdr), .int (iZ Mrs), .ref Mz, .ref Mr, .ref Mq, .int (iZ Mit), .int (iZ Mmk)])), (Mx, .inl (k 0, 900, .inl Xf)), (Ma, .inl (k 1, 5340, .inl f_10)), (Mn, .inl (k 2, 36, .inr (.inl Nf)))]) (wr := []) hx hb hml hown hts hKK hP hD hS hA hSY hRR (m_rockTo l D k sa sv hm Ma Mn Ms My Mt Mp Mx Mo Mk Ml Mb Mh Mc Mz Mr Mq Mst Mtd Msz (I_17 1) (I_17 2) (I_17 3) (I_17 4) Mfk Mfp Mfs Mse Mlt Mdp Mct Mdr Mrs Mit Mmk Mtp Mbt Xf f_10 Nf (y + 1) ⟨⟨by omega, by omega⟩, ⟨by omega, by omega⟩, ⟨by omega, by omega⟩, by omega, by omega, by omega⟩ ⟨by omega, by omega⟩ ⟨by omega, by omega⟩ ⟨by omega, by omega⟩) ci_X12_rockTo qm_X12_225 ⟨Nat.le_of_ble_eq_true rfl, Nat.le_of_ble_eq_true rfl⟩ ⟨Nat.le_of_ble_eq_true rfl, Nat.le_of_ble_eq_true rfl⟩ [2, 3, 0, 1] [] rfl rfl rfl rfl rfl (by decide) 0 rfl rfl rfl hl.1 rfl (Nat.le_of_ble_eq_true rfl) dX12_test_70 (fun u_139 H locs hφ hP hD hS => ?_)
        obtain ⟨I_140, L_141, F_142, G_143⟩ := u_139
        obtain ⟨p_145, p_146, p_147⟩ : ((0 ≤ ((I_140 2) : Int) ∧ ((I_140 2) : Int) ≤ (I_140 3)) ∧ (((I_140 3) : Int) ≤ Msz ∧ (Msz : Int) ≤ 900) ∧ (0 ≤ ((I_140 1) : Int) ∧ ((I_140 1) : Int) ≤ 4) ∧ (((I_140 1) : Int) = 0 ∨ ((I_140 2) : Int) < (I_140 3)) ∧ (-1 ≤ ((I_140 4) : Int) ∧ ((I_140 4) : Int) ≤ 100000)) ∧ ((0 ≤ ((I_140 5) : Int) ∧ ((I_140 5) : Int) ≤ 9) ∧ (((I_140 0) : Int) = 0 → 1 ≤ ((I_140 5) : Int)) ∧ (((I_140 0) : Int) = 0 ∨ ((I_140 0) : Int) = 1) ∧ (I_17 2) ≤ (I_140 2)) ∧ ((((I_140 0) : Int) = 0 ∧ KP (F_142 0) f_10) ∨ (((I_140 0) : Int) = 1 ∧ ∃ v6 : Int, 0 ≤ v6 ∧ v6 < gz f_10 0 ∧ (F_142 0) = upd f_10 (iZ (y + 1)).toNatClampNeg (iZ v6))) := hφ
        refine W.eq (g2 := F0 m 73 ls [.int (iZ (I_140 0))]) rfl ?_
        rcases p_147 with ⟨qt_148, et_148⟩ | ⟨qt_148, vt_148, g1t_148, g2t_148, ht_148⟩
        ·
          rw [qt_148]
          have kp_149 : KP (F_142 0) f_10 := by first | exact et_148 | (rw [et_148]; exact KP.rf _)
          refine lv_if_eq (tgt := 101) hx hb dX12_test_73 (by decide) (fun _ => ?_) (fun c => absurd (by decide) c)
          refine lv_iconst (v := iZ 0) hx hb dX12_test_101 (by decide) ?_
          exact EWz hx hb hr hlocks hS (fun i => [0, (I_140 1), (I_140 2), (I_140 3), (I_140 4), (I_140 5), (I_140 6)].getD i 0, fun i => [0].getD i 0, fun i => [(F_142 0)].getD i (fun _ => 0), fun i => [].getD i (fun _ => 0)) rfl rfl ⟨(show (0 ≤ ((I_140 2) : Int) ∧ ((I_140 2) : Int) ≤ (I_140 3)) ∧ (((I_140 3) : Int) ≤ Msz ∧ (Msz : Int) ≤ 900) ∧ (0 ≤ ((I_140 1) : Int) ∧ ((I_140 1) : Int) ≤ 4) ∧ (((I_140 1) : Int) = 0 ∨ ((I_140 2) : Int) < (I_140 3)) ∧ (-1 ≤ ((I_140 4) : Int) ∧ ((I_140 4) : Int) ≤ 100000) from ⟨⟨by omega, by omega⟩, ⟨by omega, by omega⟩, ⟨by omega, by omega⟩, by omega, by omega, by omega⟩), (show (0 ≤ ((I_140 5) : Int) ∧ ((I_140 5) : Int) ≤ 9) ∧ ((0 : Int) = 0 → 1 ≤ ((I_140 5) : Int)) ∧ ((0 : Int) = 0 ∨ (0 : Int) = 1) ∧ Mfr ≤ (I_140 2) from ⟨⟨by omega, by omega⟩, fun _ => by omega, by omega, by omega⟩), (show ((0 : Int) = 0 ∧ KP (F_142 0) Af) ∨ ((0 : Int) = 1 ∧ RWR (F_142 0) Af y ∧ (gz (F_142 0) y = 17 → 0 ≤ gz (F_142 0) (y + 1) ∧ gz (F_142 0) (y + 1) < gz Af 0) ∧ (gz (F_142 0) y = 1923 → 0 ≤ gz (F_142 0) (y + 2) ∧ gz (F_142 0) (y + 2) < 6)) from (Or.inl ⟨rfl, (KP.tr kp_149 (RWR.kp w_11 (by omega)))⟩))⟩ (hP.sub [0, 1, 2, 3] rfl) (hD.sub [0, 1, 2, 3] rfl rfl) dX12_test_102
        ·
          rw [qt_148]
          have w_151 := RWR.up (y := y) ht_148 (by omega) (by omega) ⟨by omega, by omega⟩
          have uu_152 := gz_upc (j := y) ht_148 ⟨by omega, by omega⟩ ⟨by omega, by omega⟩ (by omega)
          have uu_153 := gz_upc (j := (y + 1)) ht_148 ⟨by omega, by omega⟩ ⟨by omega, by omega⟩ (by omega)
          have uu_154 := gz_upc (j := (y + 2)) ht_148 ⟨by omega, by omega⟩ ⟨by omega, by omega⟩ (by omega)
          have uu_155 := gz_upc (j := 0) ht_148 ⟨by omega, by omega⟩ ⟨by omega, by omega⟩ (by omega)
          refine lv_if_eq (tgt := 101) hx hb dX12_test_73 (by decide) (fun c => absurd c (by decide)) (fun _ => ?_)
          refine lv_aload_n hx hb dX12_test_76 rfl (lv_at hl 1 rfl) ?_
          refine va_ldcS hx hb hown hRR dX12_test_77 ?_
          refine lv_bipush (v := iZ 24) hx hb dX12_test_79 (by decide) ?_
          refine CSV (As := [.ref sa, .int (iZ 24)]) (rest := []) (wc := [(hm, .inr (12, [.ref Ma, .ref Mn, .int (iZ Mst), .long Mtp, .long Mbt, .ref Ms, .ref My, .ref Mt, .ref Mp, .ref Mx, .int (iZ Mtd), .int (iZ Msz), .int (iZ (I_140 1)), .int (iZ (I_140 2)), .int (iZ (I_140 3)), .int (iZ (I_140 4)), .int (iZ Mfk), .int (iZ (I_140 6)), .int (iZ (I_140 5)), .int (iZ Mse), .int (iZ Mlt), .ref Mo, .int (iZ Mdp), .int (iZ Mct), .ref Mk, .ref Ml, .ref Mb, .ref Mh, .ref Mc, .int (iZ Mdr), .int (iZ Mrs), .ref Mz, .ref Mr, .ref Mq, .int (iZ Mit), .int (iZ Mmk)])), (Mx, .inl (k 0, 900, .inl Xf))]) (wr := [(Ma, .inl (k 1, 5340, .inl (F_142 0))), (Mn, .inl (k 2, 36, .inr (.inl Nf)))]) hx hb hml hown hts hKK hP hD hS hA hSY hRR (m_wantWord l D k sa sv hm Ma Mn Ms My Mt Mp Mx Mo Mk Ml Mb Mh Mc Mz Mr Mq Mst Mtd Msz (I_140 1) (I_140 2) (I_140 3) (I_140 4) Mfk (I_140 6) (I_140 5) Mse Mlt Mdp Mct Mdr Mrs Mit Mmk Mtp Mbt Xf 24 ⟨⟨by omega, by omega⟩, ⟨by omega, by omega⟩, ⟨by omega, by omega⟩, by omega, by omega, by omega⟩ ⟨by omega, by omega⟩ ⟨by omega, by omega⟩) ci_X12_wantWord qm_X12_184 ⟨Nat.le_of_ble_eq_true rfl, Nat.le_of_ble_eq_true rfl⟩ ⟨Nat.le_of_ble_eq_true rfl, Nat.le_of_ble_eq_true rfl⟩ [0, 1] [2, 3] rfl rfl rfl rfl rfl (by decide) 0 rfl rfl rfl hl.1 rfl (Nat.le_of_ble_eq_true rfl) dX12_test_81 (fun u_157 H locs hφ hP hD hS => ?_)
          obtain ⟨I_158, L_159, F_160, G_161⟩ := u_157
          obtain ⟨p_163, p_164⟩ : ((0 ≤ ((I_158 2) : Int) ∧ ((I_158 2) : Int) ≤ (I_158 3)) ∧ (((I_158 3) : Int) ≤ Msz ∧ (Msz : Int) ≤ 900) ∧ (0 ≤ ((I_158 1) : Int) ∧ ((I_158 1) : Int) ≤ 4) ∧ (((I_158 1) : Int) = 0 ∨ ((I_158 2) : Int) < (I_158 3)) ∧ (-1 ≤ ((I_158 4) : Int) ∧ ((I_158 4) : Int) ≤ 100000)) ∧ ((0 ≤ ((I_158 5) : Int) ∧ ((I_158 5) : Int) ≤ 9) ∧ (((I_158 0) : Int) = 0 → 1 ≤ ((I_158 5) : Int)) ∧ (((I_158 0) : Int) = 0 ∨ ((I_158 0) : Int) = 1) ∧ (I_140 2) ≤ (I_158 2)) := hφ
          refine W.eq (g2 := F0 m 84 ls [.int (iZ (I_158 0))]) rfl ?_
          rcases (show ((I_158 0) = 0) ∨ ((I_158 0) = 1) from (by omega)) with s_165 | s_165
          ·
            rw [s_165]
            refine lv_if_eq (tgt := 101) hx hb dX12_test_84 (by decide) (fun _ => ?_) (fun c => absurd (by decide) c)
            refine lv_iconst (v := iZ 0) hx hb dX12_test_101 (by decide) ?_
            exact EWz hx hb hr hlocks hS (fun i => [0, (I_158 1), (I_158 2), (I_158 3), (I_158 4), (I_158 5), (I_158 6)].getD i 0, fun i => [0].getD i 0, fun i => [(F_142 0)].getD i (fun _ => 0), fun i => [].getD i (fun _ => 0)) rfl rfl ⟨(show (0 ≤ ((I_158 2) : Int) ∧ ((I_158 2) : Int) ≤ (I_158 3)) ∧ (((I_158 3) : Int) ≤ Msz ∧ (Msz : Int) ≤ 900) ∧ (0 ≤ ((I_158 1) : Int) ∧ ((I_158 1) : Int) ≤ 4) ∧ (((I_158 1) : Int) = 0 ∨ ((I_158 2) : Int) < (I_158 3)) ∧ (-1 ≤ ((I_158 4) : Int) ∧ ((I_158 4) : Int) ≤ 100000) from ⟨⟨by omega, by omega⟩, ⟨by omega, by omega⟩, ⟨by omega, by omega⟩, by omega, by omega, by omega⟩), (show (0 ≤ ((I_158 5) : Int) ∧ ((I_158 5) : Int) ≤ 9) ∧ ((0 : Int) = 0 → 1 ≤ ((I_158 5) : Int)) ∧ ((0 : Int) = 0 ∨ (0 : Int) = 1) ∧ Mfr ≤ (I_158 2) from ⟨⟨by omega, by omega⟩, fun _ => by omega, by omega, by omega⟩), (show ((0 : Int) = 0 ∧ KP (F_142 0) Af) ∨ ((0 : Int) = 1 ∧ RWR (F_142 0) Af y ∧ (gz (F_142 0) y = 17 → 0 ≤ gz (F_142 0) (y + 1) ∧ gz (F_142 0) (y + 1) < gz Af 0) ∧ (gz (F_142 0) y = 1923 → 0 ≤ gz (F_142 0) (y + 2) ∧ gz (F_142 0) (y + 2) < 6)) from (Or.inl ⟨rfl, (RWR.kp (RWR.tr w_151 w_11) (by omega))⟩))⟩ (hP.sub [2, 3, 0, 1] rfl) (hD.sub [2, 3, 0, 1] rfl rfl) dX12_test_102
          ·
            rw [s_165]
            refine lv_if_eq (tgt := 101) hx hb dX12_test_84 (by decide) (fun c => absurd c (by decide)) (fun _ => ?_)
            refine lv_aload_n hx hb dX12_test_87 rfl (lv_at hl 1 rfl) ?_
            refine lv_iload_n hx hb dX12_test_88 rfl (lv_at hl 2 rfl) ?_
            refine lv_iconst (v := iZ 2) hx hb dX12_test_89 (by decide) ?_
            refine lv_iadd hx hb dX12_test_90 ?_
            refine lv_topi (fun x_168 ex_168 => ?_)
            obtain rfl : x_168 = iZ (y + 2) := ex_168.trans (iZ_add y 2)
            refine CSV (As := [.int (iZ (y + 2))]) (rest := []) (wc := [(hm, .inr (12, [.ref Ma, .ref Mn, .int (iZ Mst), .long Mtp, .long Mbt, .ref Ms, .ref My, .ref Mt, .ref Mp, .ref Mx, .int (iZ Mtd), .int (iZ Msz), .int (iZ (I_158 1)), .int (iZ (I_158 2)), .int (iZ (I_158 3)), .int (iZ (I_158 4)), .int (iZ Mfk), .int (iZ (I_158 6)), .int (iZ (I_158 5)), .int (iZ Mse), .int (iZ Mlt), .ref Mo, .int (iZ Mdp), .int (iZ Mct), .ref Mk, .ref Ml, .ref Mb, .ref Mh, .ref Mc, .int (iZ Mdr), .int (iZ Mrs), .ref Mz, .ref Mr, .ref Mq, .int (iZ Mit), .int (iZ Mmk)])), (Mx, .inl (k 0, 900, .inl Xf)), (Ma, .inl (k 1, 5340, .inl (F_142 0))), (Mn, .inl (k 2, 36, .inr (.inl Nf)))]) (wr := []) hx hb hml hown hts hKK hP hD hS hA hSY hRR (m_rockTo l D k sa sv hm Ma Mn Ms My Mt Mp Mx Mo Mk Ml Mb Mh Mc Mz Mr Mq Mst Mtd Msz (I_158 1) (I_158 2) (I_158 3) (I_158 4) Mfk (I_158 6) (I_158 5) Mse Mlt Mdp Mct Mdr Mrs Mit Mmk Mtp Mbt Xf (F_142 0) Nf (y + 2) ⟨⟨by omega, by omega⟩, ⟨by omega, by omega⟩, ⟨by omega, by omega⟩, by omega, by omega, by omega⟩ ⟨by omega, by omega⟩ ⟨by omega, by omega⟩ ⟨by omega, by omega⟩) ci_X12_rockTo qm_X12_225 ⟨Nat.le_of_ble_eq_true rfl, Nat.le_of_ble_eq_true rfl⟩ ⟨Nat.le_of_ble_eq_true rfl, Nat.le_of_ble_eq_true rfl⟩ [2, 3, 0, 1] [] rfl rfl rfl rfl rfl (by decide) 0 rfl rfl rfl hl.1 rfl (Nat.le_of_ble_eq_true rfl) dX12_test_91 (fun u_169 H locs hφ hP hD hS => ?_)
            obtain ⟨I_170, L_171, F_172, G_173⟩ := u_169
            obtain ⟨p_175, p_176, p_177⟩ : ((0 ≤ ((I_170 2) : Int) ∧ ((I_170 2) : Int) ≤ (I_170 3)) ∧ (((I_170 3) : Int) ≤ Msz ∧ (Msz : Int) ≤ 900) ∧ (0 ≤ ((I_170 1) : Int) ∧ ((I_170 1) : Int) ≤ 4) ∧ (((I_170 1) : Int) = 0 ∨ ((I_170 2) : Int) < (I_170 3)) ∧ (-1 ≤ ((I_170 4) : Int) ∧ ((I_170 4) : Int) ≤ 100000)) ∧ ((0 ≤ ((I_170 5) : Int) ∧ ((I_170 5) : Int) ≤ 9) ∧ (((I_170 0) : Int) = 0 → 1 ≤ ((I_170 5) : Int)) ∧ (((I_170 0) : Int) = 0 ∨ ((I_170 0) : Int) = 1) ∧ (I_158 2) ≤ (I_170 2)) ∧ ((((I_170 0) : Int) = 0 ∧ KP (F_172 0) (F_142 0)) ∨ (((I_170 0) : Int) = 1 ∧ ∃ v6 : Int, 0 ≤ v6 ∧ v6 < gz (F_142 0) 0 ∧ (F_172 0) = upd (F_142 0) (iZ (y + 2)).toNatClampNeg (iZ v6))) := hφ
            refine W.eq (g2 := F0 m 94 ls [.int (iZ (I_170 0))]) rfl ?_
            rcases p_177 with ⟨qt_178, et_178⟩ | ⟨qt_178, vt_178, g1t_178, g2t_178, ht_178⟩
            ·
              rw [qt_178]
              have kp_179 : KP (F_172 0) (F_142 0) := by first | exact et_178 | (rw [et_178]; exact KP.rf _)
              refine lv_if_eq (tgt := 101) hx hb dX12_test_94 (by decide) (fun _ => ?_) (fun c => absurd (by decide) c)
              refine lv_iconst (v := iZ 0) hx hb dX12_test_101 (by decide) ?_
              exact EWz hx hb hr hlocks hS (fun i => [0, (I_170 1), (I_170 2), (I_170 3), (I_170 4), (I_170 5), (I_170 6)].getD i 0, fun i => [0].getD i 0, fun i => [(F_172 0)].getD i (fun _ => 0), fun i => [].getD i (fun _ => 0)) rfl rfl ⟨(show (0 ≤ ((I_170 2) : Int) ∧ ((I_170 2) : Int) ≤ (I_170 3)) ∧ (((I_170 3) : Int) ≤ Msz ∧ (Msz : Int) ≤ 900) ∧ (0 ≤ ((I_170 1) : Int) ∧ ((I_170 1) : Int) ≤ 4) ∧ (((I_170 1) : Int) = 0 ∨ ((I_170 2) : Int) < (I_170 3)) ∧ (-1 ≤ ((I_170 4) : Int) ∧ ((I_170 4) : Int) ≤ 100000) from ⟨⟨by omega, by omega⟩, ⟨by omega, by omega⟩, ⟨by omega, by omega⟩, by omega, by omega, by omega⟩), (show (0 ≤ ((I_170 5) : Int) ∧ ((I_170 5) : Int) ≤ 9) ∧ ((0 : Int) = 0 → 1 ≤ ((I_170 5) : Int)) ∧ ((0 : Int) = 0 ∨ (0 : Int) = 1) ∧ Mfr ≤ (I_170 2) from ⟨⟨by omega, by omega⟩, fun _ => by omega, by omega, by omega⟩), (show ((0 : Int) = 0 ∧ KP (F_172 0) Af) ∨ ((0 : Int) = 1 ∧ RWR (F_172 0) Af y ∧ (gz (F_172 0) y = 17 → 0 ≤ gz (F_172 0) (y + 1) ∧ gz (F_172 0) (y + 1) < gz Af 0) ∧ (gz (F_172 0) y = 1923 → 0 ≤ gz (F_172 0) (y + 2) ∧ gz (F_172 0) (y + 2) < 6)) from (Or.inl ⟨rfl, (KP.tr kp_179 (RWR.kp (RWR.tr w_151 w_11) (by omega)))⟩))⟩ (hP.sub [0, 1, 2, 3] rfl) (hD.sub [0, 1, 2, 3] rfl rfl) dX12_test_102
            ·
              rw [qt_178]
              have w_181 := RWR.up (y := y) ht_178 (by omega) (by omega) ⟨by omega, by omega⟩
              have uu_182 := gz_upc (j := y) ht_178 ⟨by omega, by omega⟩ ⟨by omega, by omega⟩ (by omega)
              have uu_183 := gz_upc (j := (y + 1)) ht_178 ⟨by omega, by omega⟩ ⟨by omega, by omega⟩ (by omega)
              have uu_184 := gz_upc (j := (y + 2)) ht_178 ⟨by omega, by omega⟩ ⟨by omega, by omega⟩ (by omega)
              have uu_185 := gz_upc (j := 0) ht_178 ⟨by omega, by omega⟩ ⟨by omega, by omega⟩ (by omega)
              refine lv_if_eq (tgt := 101) hx hb dX12_test_94 (by decide) (fun c => absurd c (by decide)) (fun _ => ?_)
              refine lv_iconst (v := iZ 1) hx hb dX12_test_97 (by decide) ?_
              refine lv_goto (tgt := 102) hx hb dX12_test_98 (by decide) ?_
              exact EWz hx hb hr hlocks hS (fun i => [1, (I_170 1), (I_170 2), (I_170 3), (I_170 4), (I_170 5), (I_170 6)].getD i 0, fun i => [0].getD i 0, fun i => [(F_172 0)].getD i (fun _ => 0), fun i => [].getD i (fun _ => 0)) rfl rfl ⟨(show (0 ≤ ((I_170 2) : Int) ∧ ((I_170 2) : Int) ≤ (I_170 3)) ∧ (((I_170 3) : Int) ≤ Msz ∧ (Msz : Int) ≤ 900) ∧ (0 ≤ ((I_170 1) : Int) ∧ ((I_170 1) : Int) ≤ 4) ∧ (((I_170 1) : Int) = 0 ∨ ((I_170 2) : Int) < (I_170 3)) ∧ (-1 ≤ ((I_170 4) : Int) ∧ ((I_170 4) : Int) ≤ 100000) from ⟨⟨by omega, by omega⟩, ⟨by omega, by omega⟩, ⟨by omega, by omega⟩, by omega, by omega, by omega⟩), (show (0 ≤ ((I_170 5) : Int) ∧ ((I_170 5) : Int) ≤ 9) ∧ ((1 : Int) = 0 → 1 ≤ ((I_170 5) : Int)) ∧ ((1 : Int) = 0 ∨ (1 : Int) = 1) ∧ Mfr ≤ (I_170 2) from ⟨⟨by omega, by omega⟩, fun _ => by omega, by omega, by omega⟩), (show ((1 : Int) = 0 ∧ KP (F_172 0) Af) ∨ ((1 : Int) = 1 ∧ RWR (F_172 0) Af y ∧ (gz (F_172 0) y = 17 → 0 ≤ gz (F_172 0) (y + 1) ∧ gz (F_172 0) (y + 1) < gz Af 0) ∧ (gz (F_172 0) y = 1923 → 0 ≤ gz (F_172 0) (y + 2) ∧ gz (F_172 0) (y + 2) < 6)) from (Or.inr ⟨rfl, (RWR.tr w_181 (RWR.tr w_151 w_11)), fun h9 => by omega, fun h9 => by omega⟩))⟩ (hP.sub [0, 1, 2, 3] rfl) (hD.sub [0, 1, 2, 3] rfl rfl) dX12_test_102
    ·
      have c_24 := (zeq (x := iZ (I_2 0)) (y := iZ 9) rfl rfl ⟨by omega, by omega⟩ ⟨by omega, by omega⟩).mp c_24
      refine lv_aload_n hx hb dX12_test_52 rfl (lv_at hl 1 rfl) ?_
      refine lv_iload_n hx hb dX12_test_53 rfl (lv_at hl 2 rfl) ?_
      refine lv_iconst (v := iZ 1) hx hb dX12_test_54 (by decide) ?_
      refine lv_iadd hx hb dX12_test_55 ?_
      refine lv_topi (fun x_187 ex_187 => ?_)
      obtain rfl : x_187 = iZ (y + 1) := ex_187.trans (iZ_add y 1)
      refine CSV (As := [.int (iZ (y + 1))]) (rest := []) (wc := [(hm, .inr (12, [.ref Ma, .ref Mn, .int (iZ Mst), .long Mtp, .long Mbt, .ref Ms, .ref My, .ref Mt, .ref Mp, .ref Mx, .int (iZ Mtd), .int (iZ Msz), .int (iZ (I_17 1)), .int (iZ (I_17 2)), .int (iZ (I_17 3)), .int (iZ (I_17 4)), .int (iZ Mfk), .int (iZ Mfp), .int (iZ Mfs), .int (iZ Mse), .int (iZ Mlt), .ref Mo, .int (iZ Mdp), .int (iZ Mct), .ref Mk, .ref Ml, .ref Mb, .ref Mh, .ref Mc, .int (iZ Mdr), .int (iZ Mrs), .ref Mz, .ref Mr, .ref Mq, .int (iZ Mit), .int (iZ Mmk)])), (Mx, .inl (k 0, 900, .inl Xf)), (Ma, .inl (k 1, 5340, .inl f_10)), (Mn, .inl (k 2, 36, .inr (.inl Nf)))]) (wr := []) hx hb hml hown hts hKK hP hD hS hA hSY hRR (m_rockTo l D k sa sv hm Ma Mn Ms My Mt Mp Mx Mo Mk Ml Mb Mh Mc Mz Mr Mq Mst Mtd Msz (I_17 1) (I_17 2) (I_17 3) (I_17 4) Mfk Mfp Mfs Mse Mlt Mdp Mct Mdr Mrs Mit Mmk Mtp Mbt Xf f_10 Nf (y + 1) ⟨⟨by omega, by omega⟩, ⟨by omega, by omega⟩, ⟨by omega, by omega⟩, by omega, by omega, by omega⟩ ⟨by omega, by omega⟩ ⟨by omega, by omega⟩ ⟨by omega, by omega⟩) ci_X12_rockTo qm_X12_225 ⟨Nat.le_of_ble_eq_true rfl, Nat.le_of_ble_eq_true rfl⟩ ⟨Nat.le_of_ble_eq_true rfl, Nat.le_of_ble_eq_true rfl⟩ [2, 3, 0, 1] [] rfl rfl rfl rfl rfl (by decide) 0 rfl rfl rfl hl.1 rfl (Nat.le_of_ble_eq_true rfl) dX12_test_56 (fun u_188 H locs hφ hP hD hS => ?_)
      obtain ⟨I_189, L_190, F_191, G_192⟩ := u_188
      obtain ⟨p_194, p_195, p_196⟩ : ((0 ≤ ((I_189 2) : Int) ∧ ((I_189 2) : Int) ≤ (I_189 3)) ∧ (((I_189 3) : Int) ≤ Msz ∧ (Msz : Int) ≤ 900) ∧ (0 ≤ ((I_189 1) : Int) ∧ ((I_189 1) : Int) ≤ 4) ∧ (((I_189 1) : Int) = 0 ∨ ((I_189 2) : Int) < (I_189 3)) ∧ (-1 ≤ ((I_189 4) : Int) ∧ ((I_189 4) : Int) ≤ 100000)) ∧ ((0 ≤ ((I_189 5) : Int) ∧ ((I_189 5) : Int) ≤ 9) ∧ (((I_189 0) : Int) = 0 → 1 ≤ ((I_189 5) : Int)) ∧ (((I_189 0) : Int) = 0 ∨ ((I_189 0) : Int) = 1) ∧ (I_17 2) ≤ (I_189 2)) ∧ ((((I_189 0) : Int) = 0 ∧ KP (F_191 0) f_10) ∨ (((I_189 0) : Int) = 1 ∧ ∃ v6 : Int, 0 ≤ v6 ∧ v6 < gz f_10 0 ∧ (F_191 0) = upd f_10 (iZ (y + 1)).toNatClampNeg (iZ v6))) := hφ
      refine W.eq (g2 := F0 m 59 ls [.int (iZ (I_189 0))]) rfl ?_
      rcases p_196 with ⟨qt_197, et_197⟩ | ⟨qt_197, vt_197, g1t_197, g2t_197, ht_197⟩
      ·
        rw [qt_197]
        have kp_198 : KP (F_191 0) f_10 := by first | exact et_197 | (rw [et_197]; exact KP.rf _)
        exact EWz hx hb hr hlocks hS (fun i => [0, (I_189 1), (I_189 2), (I_189 3), (I_189 4), (I_189 5), (I_189 6)].getD i 0, fun i => [0].getD i 0, fun i => [(F_191 0)].getD i (fun _ => 0), fun i => [].getD i (fun _ => 0)) rfl rfl ⟨(show (0 ≤ ((I_189 2) : Int) ∧ ((I_189 2) : Int) ≤ (I_189 3)) ∧ (((I_189 3) : Int) ≤ Msz ∧ (Msz : Int) ≤ 900) ∧ (0 ≤ ((I_189 1) : Int) ∧ ((I_189 1) : Int) ≤ 4) ∧ (((I_189 1) : Int) = 0 ∨ ((I_189 2) : Int) < (I_189 3)) ∧ (-1 ≤ ((I_189 4) : Int) ∧ ((I_189 4) : Int) ≤ 100000) from ⟨⟨by omega, by omega⟩, ⟨by omega, by omega⟩, ⟨by omega, by omega⟩, by omega, by omega, by omega⟩), (show (0 ≤ ((I_189 5) : Int) ∧ ((I_189 5) : Int) ≤ 9) ∧ ((0 : Int) = 0 → 1 ≤ ((I_189 5) : Int)) ∧ ((0 : Int) = 0 ∨ (0 : Int) = 1) ∧ Mfr ≤ (I_189 2) from ⟨⟨by omega, by omega⟩, fun _ => by omega, by omega, by omega⟩), (show ((0 : Int) = 0 ∧ KP (F_191 0) Af) ∨ ((0 : Int) = 1 ∧ RWR (F_191 0) Af y ∧ (gz (F_191 0) y = 17 → 0 ≤ gz (F_191 0) (y + 1) ∧ gz (F_191 0) (y + 1) < gz Af 0) ∧ (gz (F_191 0) y = 1923 → 0 ≤ gz (F_191 0) (y + 2) ∧ gz (F_191 0) (y + 2) < 6)) from (Or.inl ⟨rfl, (KP.tr kp_198 (RWR.kp w_11 (by omega)))⟩))⟩ (hP.sub [0, 1, 2, 3] rfl) (hD.sub [0, 1, 2, 3] rfl rfl) dX12_test_59
      ·
        rw [qt_197]
        have w_199 := RWR.up (y := y) ht_197 (by omega) (by omega) ⟨by omega, by omega⟩
        have uu_200 := gz_upc (j := y) ht_197 ⟨by omega, by omega⟩ ⟨by omega, by omega⟩ (by omega)
        have uu_201 := gz_upc (j := (y + 1)) ht_197 ⟨by omega, by omega⟩ ⟨by omega, by omega⟩ (by omega)
        have uu_202 := gz_upc (j := (y + 2)) ht_197 ⟨by omega, by omega⟩ ⟨by omega, by omega⟩ (by omega)
        have uu_203 := gz_upc (j := 0) ht_197 ⟨by omega, by omega⟩ ⟨by omega, by omega⟩ (by omega)
        exact EWz hx hb hr hlocks hS (fun i => [1, (I_189 1), (I_189 2), (I_189 3), (I_189 4), (I_189 5), (I_189 6)].getD i 0, fun i => [0].getD i 0, fun i => [(F_191 0)].getD i (fun _ => 0), fun i => [].getD i (fun _ => 0)) rfl rfl ⟨(show (0 ≤ ((I_189 2) : Int) ∧ ((I_189 2) : Int) ≤ (I_189 3)) ∧ (((I_189 3) : Int) ≤ Msz ∧ (Msz : Int) ≤ 900) ∧ (0 ≤ ((I_189 1) : Int) ∧ ((I_189 1) : Int) ≤ 4) ∧ (((I_189 1) : Int) = 0 ∨ ((I_189 2) : Int) < (I_189 3)) ∧ (-1 ≤ ((I_189 4) : Int) ∧ ((I_189 4) : Int) ≤ 100000) from ⟨⟨by omega, by omega⟩, ⟨by omega, by omega⟩, ⟨by omega, by omega⟩, by omega, by omega, by omega⟩), (show (0 ≤ ((I_189 5) : Int) ∧ ((I_189 5) : Int) ≤ 9) ∧ ((1 : Int) = 0 → 1 ≤ ((I_189 5) : Int)) ∧ ((1 : Int) = 0 ∨ (1 : Int) = 1) ∧ Mfr ≤ (I_189 2) from ⟨⟨by omega, by omega⟩, fun _ => by omega, by omega, by omega⟩), (show ((1 : Int) = 0 ∧ KP (F_191 0) Af) ∨ ((1 : Int) = 1 ∧ RWR (F_191 0) Af y ∧ (gz (F_191 0) y = 17 → 0 ≤ gz (F_191 0) (y + 1) ∧ gz (F_191 0) (y + 1) < gz Af 0) ∧ (gz (F_191 0) y = 1923 → 0 ≤ gz (F_191 0) (y + 2) ∧ gz (F_191 0) (y + 2) < 6)) from (Or.inr ⟨rfl, (RWR.tr w_199 w_11), fun h9 => by omega, fun h9 => by omega⟩))⟩ (hP.sub [0, 1, 2, 3] rfl) (hD.sub [0, 1, 2, 3] rfl rfl) dX12_test_59
  ·
    have c_8 := mt (zeq (x := iZ (I_2 0)) (y := iZ 15) rfl rfl ⟨by omega, by omega⟩ ⟨by omega, by omega⟩).mpr c_8
    refine lv_iload_n hx hb dX12_test_13 rfl (lv_at hl 0 rfl) ?_
    refine lv_bipush (v := iZ 9) hx hb dX12_test_14 (by decide) ?_
    refine lv_icmp_eq (tgt := 31) hx hb dX12_test_16 (by decide) (fun c_204 => ?_) (fun c_204 => ?_)
    ·
      have c_204 := (zeq (x := iZ (I_2 0)) (y := iZ 9) rfl rfl ⟨by omega, by omega⟩ ⟨by omega, by omega⟩).mp c_204
      refine lv_aload_n hx hb dX12_test_31 rfl (lv_at hl 1 rfl) ?_
      refine va_get (D := D) (ci := 12) (v := .ref Ma) (C := RX12) (T := TX12) (N := 36) hx hb hts iX12 hown hK hP 2 rfl rfl 0 (by decide) (hts _ qf_X12_7) (fun _ h => h) rfl dX12_test_32 ?_
      refine lv_iload_n hx hb dX12_test_35 rfl (lv_at hl 2 rfl) ?_
      refine lv_sipush (v := iZ 1900) hx hb dX12_test_36 (by decide) ?_
      refine lv_iload_n hx hb dX12_test_39 rfl (lv_at hl 0 rfl) ?_
      refine lv_iadd hx hb dX12_test_40 ?_
      refine lv_topi (fun x_205 ex_205 => ?_)
      obtain rfl : x_205 = iZ (1900 + (I_2 0)) := ex_205.trans (iZ_add 1900 (I_2 0))
      refine va_iast hx hb hK hP hD hS 0 1 rfl rfl (zin (e := y) (n := 5340) ⟨by omega, by omega⟩ (by decide)) dX12_test_41 (fun H locs hP hD hS => ?_)
      obtain ⟨f_206, hf_206⟩ : ∃ gg9, gg9 = upd Af (iZ y).toNatClampNeg (iZ (1900 + (I_2 0))) := ⟨_, rfl⟩
      rw [← hf_206] at hP hD
      have w_207 := RWR.up (y := y) hf_206 (by omega) (by omega) ⟨by omega, by omega⟩
      have uu_208 := gz_upc (j := y) hf_206 ⟨by omega, by omega⟩ ⟨by omega, by omega⟩ (by omega)
      have uu_209 := gz_upc (j := (y + 1)) hf_206 ⟨by omega, by omega⟩ ⟨by omega, by omega⟩ (by omega)
      have uu_210 := gz_upc (j := (y + 2)) hf_206 ⟨by omega, by omega⟩ ⟨by omega, by omega⟩ (by omega)
      have uu_211 := gz_upc (j := 0) hf_206 ⟨by omega, by omega⟩ ⟨by omega, by omega⟩ (by omega)
      refine lv_aload_n hx hb dX12_test_42 rfl (lv_at hl 1 rfl) ?_
      refine CWV (As := []) (rest := []) (wc := [(hm, .inr (12, [.ref Ma, .ref Mn, .int (iZ Mst), .long Mtp, .long Mbt, .ref Ms, .ref My, .ref Mt, .ref Mp, .ref Mx, .int (iZ Mtd), .int (iZ Msz), .int (iZ Mtk), .int (iZ Mfr), .int (iZ Men), .int (iZ Mva), .int (iZ Mfk), .int (iZ Mfp), .int (iZ Mfs), .int (iZ Mse), .int (iZ Mlt), .ref Mo, .int (iZ Mdp), .int (iZ Mct), .ref Mk, .ref Ml, .ref Mb, .ref Mh, .ref Mc, .int (iZ Mdr), .int (iZ Mrs), .ref Mz, .ref Mr, .ref Mq, .int (iZ Mit), .int (iZ Mmk)])), (Mx, .inl (k 0, 900, .inl Xf))]) (wr := [(Ma, .inl (k 1, 5340, .inl f_206)), (Mn, .inl (k 2, 36, .inr (.inl Nf)))]) hx hb hml hown hts hKK hP hD hS hA (m_onward l D k hm Ma Mn Ms My Mt Mp Mx Mo Mk Ml Mb Mh Mc Mz Mr Mq Mst Mtd Msz Mtk Mfr Men Mva Mfk Mfp Mfs Mse Mlt Mdp Mct Mdr Mrs Mit Mmk Mtp Mbt Xf ⟨⟨by omega, by omega⟩, by omega⟩) ci_X12_onward qm_X12_158 ⟨Nat.le_of_ble_eq_true rfl, Nat.le_of_ble_eq_true rfl⟩ ⟨Nat.le_of_ble_eq_true rfl, Nat.le_of_ble_eq_true rfl⟩ [2, 3] [0, 1] rfl rfl rfl rfl rfl (by decide) 0 rfl rfl rfl hl.1 rfl (Nat.le_of_ble_eq_true rfl) dX12_test_43 (fun u_212 H locs hφ hP hD hS => ?_)
      obtain ⟨I_213, L_214, F_215, G_216⟩ := u_212
      obtain ⟨p_218, p_219⟩ : ((0 ≤ ((I_213 2) : Int) ∧ ((I_213 2) : Int) ≤ (I_213 3)) ∧ (((I_213 3) : Int) ≤ Msz ∧ (Msz : Int) ≤ 900) ∧ (0 ≤ ((I_213 1) : Int) ∧ ((I_213 1) : Int) ≤ 4) ∧ (((I_213 1) : Int) = 0 ∨ ((I_213 2) : Int) < (I_213 3)) ∧ (-1 ≤ ((I_213 4) : Int) ∧ ((I_213 4) : Int) ≤ 100000)) ∧ (Men ≤ (I_213 2)) := hφ
      refine W.eq (g2 := F0 m 46 ls []) rfl ?_
      refine lv_iload_n hx hb dX12_test_46 rfl (lv_at hl 0 rfl) ?_
      refine lv_bipush (v := iZ 9) hx hb dX12_test_47 (by decide) ?_
      refine lv_icmp_ne (tgt := 60) hx hb dX12_test_49 (by decide) (fun c_220 => ?_) (fun c_220 => ?_)
      ·
        have c_220 := mt (zeq (x := iZ (I_2 0)) (y := iZ 9) rfl rfl ⟨by omega, by omega⟩ ⟨by omega, by omega⟩).mpr c_220
        refine lv_iload_n hx hb dX12_test_60 rfl (lv_at hl 0 rfl) ?_
        refine lv_bipush (v := iZ 23) hx hb dX12_test_61 (by decide) ?_
        refine lv_icmp_ne (tgt := 103) hx hb dX12_test_63 (by decide) (fun c_221 => ?_) (fun c_221 => ?_)
        ·
          have c_221 := mt (zeq (x := iZ (I_2 0)) (y := iZ 23) rfl rfl ⟨by omega, by omega⟩ ⟨by omega, by omega⟩).mpr c_221
          refine lv_aload_n hx hb dX12_test_103 rfl (lv_at hl 1 rfl) ?_
          refine lv_bipush (v := iZ 60) hx hb dX12_test_104 (by decide) ?_
          refine CPV (As := [.int (iZ 60)]) (rest := []) hx hb hml hown hts hKK (hP.sub (ws' := [(hm, .inr (12, [.ref Ma, .ref Mn, .int (iZ Mst), .long Mtp, .long Mbt, .ref Ms, .ref My, .ref Mt, .ref Mp, .ref Mx, .int (iZ Mtd), .int (iZ Msz), .int (iZ (I_213 1)), .int (iZ (I_213 2)), .int (iZ (I_213 3)), .int (iZ (I_213 4)), .int (iZ Mfk), .int (iZ Mfp), .int (iZ Mfs), .int (iZ Mse), .int (iZ Mlt), .ref Mo, .int (iZ Mdp), .int (iZ Mct), .ref Mk, .ref Ml, .ref Mb, .ref Mh, .ref Mc, .int (iZ Mdr), .int (iZ Mrs), .ref Mz, .ref Mr, .ref Mq, .int (iZ Mit), .int (iZ Mmk)]))]) [2] rfl) (m_isSign l D k ([.ref Ma, .ref Mn, .int (iZ Mst), .long Mtp, .long Mbt, .ref Ms, .ref My, .ref Mt, .ref Mp, .ref Mx, .int (iZ Mtd), .int (iZ Msz), .int (iZ (I_213 1)), .int (iZ (I_213 2)), .int (iZ (I_213 3)), .int (iZ (I_213 4)), .int (iZ Mfk), .int (iZ Mfp), .int (iZ Mfs), .int (iZ Mse), .int (iZ Mlt), .ref Mo, .int (iZ Mdp), .int (iZ Mct), .ref Mk, .ref Ml, .ref Mb, .ref Mh, .ref Mc, .int (iZ Mdr), .int (iZ Mrs), .ref Mz, .ref Mr, .ref Mq, .int (iZ Mit), .int (iZ Mmk)]) hm (I_213 1) (I_213 4) 60 rfl rfl ⟨by omega, by omega⟩ ⟨by omega, by omega⟩ ⟨by omega, by omega⟩) ci_X12_isSign qm_X12_161 ⟨Nat.le_of_ble_eq_true rfl, Nat.le_of_ble_eq_true rfl⟩ ⟨Nat.le_of_ble_eq_true rfl, Nat.le_of_ble_eq_true rfl⟩ 0 rfl rfl rfl hl.1 rfl (Nat.le_of_ble_eq_true rfl) dX12_test_106 (fun z_222 hz_222 => ?_)
          rcases hz_222 with ⟨qz_222, hz_222⟩ | ⟨qz_222, hz_222⟩
          ·
            subst qz_222
            refine lv_if_ne (tgt := 136) hx hb dX12_test_109 (by decide) (fun _ => ?_) (fun c => absurd c (by decide))
            refine lv_aload_n hx hb dX12_test_136 rfl (lv_at hl 1 rfl) ?_
            refine va_get (D := D) (ci := 12) (v := .ref Ma) (C := RX12) (T := TX12) (N := 36) hx hb hts iX12 hown hK hP 2 rfl rfl 0 (by decide) (hts _ qf_X12_7) (fun _ h => h) rfl dX12_test_137 ?_
            refine lv_iload_n hx hb dX12_test_140 rfl (lv_at hl 2 rfl) ?_
            refine lv_iconst (v := iZ 5) hx hb dX12_test_141 (by decide) ?_
            refine lv_iadd hx hb dX12_test_142 ?_
            refine lv_topi (fun x_224 ex_224 => ?_)
            obtain rfl : x_224 = iZ (y + 5) := ex_224.trans (iZ_add y 5)
            refine lv_aload_n hx hb dX12_test_143 rfl (lv_at hl 1 rfl) ?_
            refine va_get (D := D) (ci := 12) (v := .int (iZ (I_213 4))) (C := RX12) (T := TX12) (N := 36) hx hb hts iX12 hown hK hP 2 rfl rfl 15 (by decide) (hts _ qf_X12_124) (fun _ h => h) rfl dX12_test_144 ?_
            refine va_iast hx hb hK hP hD hS 0 1 rfl rfl (zin (e := (y + 5)) (n := 5340) ⟨by omega, by omega⟩ (by decide)) dX12_test_147 (fun H locs hP hD hS => ?_)
            obtain ⟨f_225, hf_225⟩ : ∃ gg9, gg9 = upd f_206 (iZ (y + 5)).toNatClampNeg (iZ (I_213 4)) := ⟨_, rfl⟩
            rw [← hf_225] at hP hD
            have w_226 := RWR.up (y := y) hf_225 (by omega) (by omega) ⟨by omega, by omega⟩
            have uu_227 := gz_upc (j := y) hf_225 ⟨by omega, by omega⟩ ⟨by omega, by omega⟩ (by omega)
            have uu_228 := gz_upc (j := (y + 1)) hf_225 ⟨by omega, by omega⟩ ⟨by omega, by omega⟩ (by omega)
            have uu_229 := gz_upc (j := (y + 2)) hf_225 ⟨by omega, by omega⟩ ⟨by omega, by omega⟩ (by omega)
            have uu_230 := gz_upc (j := 0) hf_225 ⟨by omega, by omega⟩ ⟨by omega, by omega⟩ (by omega)
            refine lv_aload_n hx hb dX12_test_148 rfl (lv_at hl 1 rfl) ?_
            refine CWV (As := []) (rest := []) (wc := [(hm, .inr (12, [.ref Ma, .ref Mn, .int (iZ Mst), .long Mtp, .long Mbt, .ref Ms, .ref My, .ref Mt, .ref Mp, .ref Mx, .int (iZ Mtd), .int (iZ Msz), .int (iZ (I_213 1)), .int (iZ (I_213 2)), .int (iZ (I_213 3)), .int (iZ (I_213 4)), .int (iZ Mfk), .int (iZ Mfp), .int (iZ Mfs), .int (iZ Mse), .int (iZ Mlt), .ref Mo, .int (iZ Mdp), .int (iZ Mct), .ref Mk, .ref Ml, .ref Mb, .ref Mh, .ref Mc, .int (iZ Mdr), .int (iZ Mrs), .ref Mz, .ref Mr, .ref Mq, .int (iZ Mit), .int (iZ Mmk)])), (Mx, .inl (k 0, 900, .inl Xf))]) (wr := [(Ma, .inl (k 1, 5340, .inl f_225)), (Mn, .inl (k 2, 36, .inr (.inl Nf)))]) hx hb hml hown hts hKK hP hD hS hA (m_onward l D k hm Ma Mn Ms My Mt Mp Mx Mo Mk Ml Mb Mh Mc Mz Mr Mq Mst Mtd Msz (I_213 1) (I_213 2) (I_213 3) (I_213 4) Mfk Mfp Mfs Mse Mlt Mdp Mct Mdr Mrs Mit Mmk Mtp Mbt Xf ⟨⟨by omega, by omega⟩, by omega⟩) ci_X12_onward qm_X12_158 ⟨Nat.le_of_ble_eq_true rfl, Nat.le_of_ble_eq_true rfl⟩ ⟨Nat.le_of_ble_eq_true rfl, Nat.le_of_ble_eq_true rfl⟩ [2, 3] [0, 1] rfl rfl rfl rfl rfl (by decide) 0 rfl rfl rfl hl.1 rfl (Nat.le_of_ble_eq_true rfl) dX12_test_149 (fun u_231 H locs hφ hP hD hS => ?_)
            obtain ⟨I_232, L_233, F_234, G_235⟩ := u_231
            obtain ⟨p_237, p_238⟩ : ((0 ≤ ((I_232 2) : Int) ∧ ((I_232 2) : Int) ≤ (I_232 3)) ∧ (((I_232 3) : Int) ≤ Msz ∧ (Msz : Int) ≤ 900) ∧ (0 ≤ ((I_232 1) : Int) ∧ ((I_232 1) : Int) ≤ 4) ∧ (((I_232 1) : Int) = 0 ∨ ((I_232 2) : Int) < (I_232 3)) ∧ (-1 ≤ ((I_232 4) : Int) ∧ ((I_232 4) : Int) ≤ 100000)) ∧ ((I_213 3) ≤ (I_232 2)) := hφ
            refine W.eq (g2 := F0 m 152 ls []) rfl ?_
            refine lv_aload_n hx hb dX12_test_152 rfl (lv_at hl 1 rfl) ?_
            refine lv_iload_n hx hb dX12_test_153 rfl (lv_at hl 2 rfl) ?_
            refine lv_iconst (v := iZ 1) hx hb dX12_test_154 (by decide) ?_
            refine lv_iadd hx hb dX12_test_155 ?_
            refine lv_topi (fun x_239 ex_239 => ?_)
            obtain rfl : x_239 = iZ (y + 1) := ex_239.trans (iZ_add y 1)
            refine lv_iconst (v := iZ 0) hx hb dX12_test_156 (by decide) ?_
            refine lv_sipush (v := iZ 400) hx hb dX12_test_157 (by decide) ?_
            refine CWV (As := [.int (iZ (y + 1)), .int (iZ 0), .int (iZ 400)]) (rest := []) (wc := [(hm, .inr (12, [.ref Ma, .ref Mn, .int (iZ Mst), .long Mtp, .long Mbt, .ref Ms, .ref My, .ref Mt, .ref Mp, .ref Mx, .int (iZ Mtd), .int (iZ Msz), .int (iZ (I_232 1)), .int (iZ (I_232 2)), .int (iZ (I_232 3)), .int (iZ (I_232 4)), .int (iZ Mfk), .int (iZ Mfp), .int (iZ Mfs), .int (iZ Mse), .int (iZ Mlt), .ref Mo, .int (iZ Mdp), .int (iZ Mct), .ref Mk, .ref Ml, .ref Mb, .ref Mh, .ref Mc, .int (iZ Mdr), .int (iZ Mrs), .ref Mz, .ref Mr, .ref Mq, .int (iZ Mit), .int (iZ Mmk)])), (Mx, .inl (k 0, 900, .inl Xf)), (Ma, .inl (k 1, 5340, .inl f_225))]) (wr := [(Mn, .inl (k 2, 36, .inr (.inl Nf)))]) hx hb hml hown hts hKK hP hD hS hA (m_number l D k hm Ma Mn Ms My Mt Mp Mx Mo Mk Ml Mb Mh Mc Mz Mr Mq Mst Mtd Msz (I_232 1) (I_232 2) (I_232 3) (I_232 4) Mfk Mfp Mfs Mse Mlt Mdp Mct Mdr Mrs Mit Mmk Mtp Mbt Xf f_225 (y + 1) 0 400 ⟨⟨by omega, by omega⟩, ⟨by omega, by omega⟩, ⟨by omega, by omega⟩, by omega, by omega, by omega⟩ ⟨by omega, by omega⟩ ⟨by omega, by omega⟩ ⟨by omega, by omega⟩ ⟨by omega, by omega⟩) ci_X12_number qm_X12_188 ⟨Nat.le_of_ble_eq_true rfl, Nat.le_of_ble_eq_true rfl⟩ ⟨Nat.le_of_ble_eq_true rfl, Nat.le_of_ble_eq_true rfl⟩ [2, 3, 0] [1] rfl rfl rfl rfl rfl (by decide) 0 rfl rfl rfl hl.1 rfl (Nat.le_of_ble_eq_true rfl) dX12_test_160 (fun u_240 H locs hφ hP hD hS => ?_)
            obtain ⟨I_241, L_242, F_243, G_244⟩ := u_240
            obtain ⟨p_246, p_247, p_248⟩ : ((0 ≤ ((I_241 2) : Int) ∧ ((I_241 2) : Int) ≤ (I_241 3)) ∧ (((I_241 3) : Int) ≤ Msz ∧ (Msz : Int) ≤ 900) ∧ (0 ≤ ((I_241 1) : Int) ∧ ((I_241 1) : Int) ≤ 4) ∧ (((I_241 1) : Int) = 0 ∨ ((I_241 2) : Int) < (I_241 3)) ∧ (-1 ≤ ((I_241 4) : Int) ∧ ((I_241 4) : Int) ≤ 100000)) ∧ ((0 ≤ ((I_241 5) : Int) ∧ ((I_241 5) : Int) ≤ 9) ∧ (((I_241 0) : Int) = 0 → 1 ≤ ((I_241 5) : Int)) ∧ (((I_241 0) : Int) = 0 ∨ ((I_241 0) : Int) = 1) ∧ (I_232 2) ≤ (I_241 2)) ∧ ((((I_241 0) : Int) = 0 ∧ (F_243 0) = f_225) ∨ (((I_241 0) : Int) = 1 ∧ ∃ v6 : Int, 0 ≤ v6 ∧ v6 ≤ 400 ∧ (F_243 0) = upd f_225 (iZ (y + 1)).toNatClampNeg (iZ v6))) := hφ
            refine W.eq (g2 := F0 m 163 ls [.int (iZ (I_241 0))]) rfl ?_
            rcases p_248 with ⟨qt_249, et_249⟩ | ⟨qt_249, vt_249, g1t_249, g2t_249, ht_249⟩
            ·
              rw [qt_249]
              have kp_250 : KP (F_243 0) f_225 := by first | exact et_249 | (rw [et_249]; exact KP.rf _)
              exact EWz hx hb hr hlocks hS (fun i => [0, (I_241 1), (I_241 2), (I_241 3), (I_241 4), (I_241 5), (I_241 6)].getD i 0, fun i => [0].getD i 0, fun i => [(F_243 0)].getD i (fun _ => 0), fun i => [].getD i (fun _ => 0)) rfl rfl ⟨(show (0 ≤ ((I_241 2) : Int) ∧ ((I_241 2) : Int) ≤ (I_241 3)) ∧ (((I_241 3) : Int) ≤ Msz ∧ (Msz : Int) ≤ 900) ∧ (0 ≤ ((I_241 1) : Int) ∧ ((I_241 1) : Int) ≤ 4) ∧ (((I_241 1) : Int) = 0 ∨ ((I_241 2) : Int) < (I_241 3)) ∧ (-1 ≤ ((I_241 4) : Int) ∧ ((I_241 4) : Int) ≤ 100000) from ⟨⟨by omega, by omega⟩, ⟨by omega, by omega⟩, ⟨by omega, by omega⟩, by omega, by omega, by omega⟩), (show (0 ≤ ((I_241 5) : Int) ∧ ((I_241 5) : Int) ≤ 9) ∧ ((0 : Int) = 0 → 1 ≤ ((I_241 5) : Int)) ∧ ((0 : Int) = 0 ∨ (0 : Int) = 1) ∧ Mfr ≤ (I_241 2) from ⟨⟨by omega, by omega⟩, fun _ => by omega, by omega, by omega⟩), (show ((0 : Int) = 0 ∧ KP (F_243 0) Af) ∨ ((0 : Int) = 1 ∧ RWR (F_243 0) Af y ∧ (gz (F_243 0) y = 17 → 0 ≤ gz (F_243 0) (y + 1) ∧ gz (F_243 0) (y + 1) < gz Af 0) ∧ (gz (F_243 0) y = 1923 → 0 ≤ gz (F_243 0) (y + 2) ∧ gz (F_243 0) (y + 2) < 6)) from (Or.inl ⟨rfl, (KP.tr kp_250 (RWR.kp (RWR.tr w_226 w_207) (by omega)))⟩))⟩ (hP.sub [1, 2, 3, 0] rfl) (hD.sub [1, 2, 3, 0] rfl rfl) dX12_test_163
            ·
              rw [qt_249]
              have w_251 := RWR.up (y := y) ht_249 (by omega) (by omega) ⟨by omega, by omega⟩
              have uu_252 := gz_upc (j := y) ht_249 ⟨by omega, by omega⟩ ⟨by omega, by omega⟩ (by omega)
              have uu_253 := gz_upc (j := (y + 1)) ht_249 ⟨by omega, by omega⟩ ⟨by omega, by omega⟩ (by omega)
              have uu_254 := gz_upc (j := (y + 2)) ht_249 ⟨by omega, by omega⟩ ⟨by omega, by omega⟩ (by omega)
              have uu_255 := gz_upc (j := 0) ht_249 ⟨by omega, by omega⟩ ⟨by omega, by omega⟩ (by omega)
              exact EWz hx hb hr hlocks hS (fun i => [1, (I_241 1), (I_241 2), (I_241 3), (I_241 4), (I_241 5), (I_241 6)].getD i 0, fun i => [0].getD i 0, fun i => [(F_243 0)].getD i (fun _ => 0), fun i => [].getD i (fun _ => 0)) rfl rfl ⟨(show (0 ≤ ((I_241 2) : Int) ∧ ((I_241 2) : Int) ≤ (I_241 3)) ∧ (((I_241 3) : Int) ≤ Msz ∧ (Msz : Int) ≤ 900) ∧ (0 ≤ ((I_241 1) : Int) ∧ ((I_241 1) : Int) ≤ 4) ∧ (((I_241 1) : Int) = 0 ∨ ((I_241 2) : Int) < (I_241 3)) ∧ (-1 ≤ ((I_241 4) : Int) ∧ ((I_241 4) : Int) ≤ 100000) from ⟨⟨by omega, by omega⟩, ⟨by omega, by omega⟩, ⟨by omega, by omega⟩, by omega, by omega, by omega⟩), (show (0 ≤ ((I_241 5) : Int) ∧ ((I_241 5) : Int) ≤ 9) ∧ ((1 : Int) = 0 → 1 ≤ ((I_241 5) : Int)) ∧ ((1 : Int) = 0 ∨ (1 : Int) = 1) ∧ Mfr ≤ (I_241 2) from ⟨⟨by omega, by omega⟩, fun _ => by omega, by omega, by omega⟩), (show ((1 : Int) = 0 ∧ KP (F_243 0) Af) ∨ ((1 : Int) = 1 ∧ RWR (F_243 0) Af y ∧ (gz (F_243 0) y = 17 → 0 ≤ gz (F_243 0) (y + 1) ∧ gz (F_243 0) (y + 1) < gz Af 0) ∧ (gz (F_243 0) y = 1923 → 0 ≤ gz (F_243 0) (y + 2) ∧ gz (F_243 0) (y + 2) < 6)) from (Or.inr ⟨rfl, (RWR.tr w_251 (RWR.tr w_226 w_207)), fun h9 => by omega, fun h9 => by omega⟩))⟩ (hP.sub [1, 2, 3, 0] rfl) (hD.sub [1, 2, 3, 0] rfl rfl) dX12_test_163
          ·
            subst qz_222
            refine lv_if_ne (tgt := 136) hx hb dX12_test_109 (by decide) (fun c => absurd (by decide) c) (fun _ => ?_)
            refine lv_aload_n hx hb dX12_test_112 rfl (lv_at hl 1 rfl) ?_
            refine lv_bipush (v := iZ 62) hx hb dX12_test_113 (by decide) ?_
            refine CPV (As := [.int (iZ 62)]) (rest := []) hx hb hml hown hts hKK (hP.sub (ws' := [(hm, .inr (12, [.ref Ma, .ref Mn, .int (iZ Mst), .long Mtp, .long Mbt, .ref Ms, .ref My, .ref Mt, .ref Mp, .ref Mx, .int (iZ Mtd), .int (iZ Msz), .int (iZ (I_213 1)), .int (iZ (I_213 2)), .int (iZ (I_213 3)), .int (iZ (I_213 4)), .int (iZ Mfk), .int (iZ Mfp), .int (iZ Mfs), .int (iZ Mse), .int (iZ Mlt), .ref Mo, .int (iZ Mdp), .int (iZ Mct), .ref Mk, .ref Ml, .ref Mb, .ref Mh, .ref Mc, .int (iZ Mdr), .int (iZ Mrs), .ref Mz, .ref Mr, .ref Mq, .int (iZ Mit), .int (iZ Mmk)]))]) [2] rfl) (m_isSign l D k ([.ref Ma, .ref Mn, .int (iZ Mst), .long Mtp, .long Mbt, .ref Ms, .ref My, .ref Mt, .ref Mp, .ref Mx, .int (iZ Mtd), .int (iZ Msz), .int (iZ (I_213 1)), .int (iZ (I_213 2)), .int (iZ (I_213 3)), .int (iZ (I_213 4)), .int (iZ Mfk), .int (iZ Mfp), .int (iZ Mfs), .int (iZ Mse), .int (iZ Mlt), .ref Mo, .int (iZ Mdp), .int (iZ Mct), .ref Mk, .ref Ml, .ref Mb, .ref Mh, .ref Mc, .int (iZ Mdr), .int (iZ Mrs), .ref Mz, .ref Mr, .ref Mq, .int (iZ Mit), .int (iZ Mmk)]) hm (I_213 1) (I_213 4) 62 rfl rfl ⟨by omega, by omega⟩ ⟨by omega, by omega⟩ ⟨by omega, by omega⟩) ci_X12_isSign qm_X12_161 ⟨Nat.le_of_ble_eq_true rfl, Nat.le_of_ble_eq_true rfl⟩ ⟨Nat.le_of_ble_eq_true rfl, Nat.le_of_ble_eq_true rfl⟩ 0 rfl rfl rfl hl.1 rfl (Nat.le_of_ble_eq_true rfl) dX12_test_115 (fun z_257 hz_257 => ?_)
            rcases hz_257 with ⟨qz_257, hz_257⟩ | ⟨qz_257, hz_257⟩
            ·
              subst qz_257
              refine lv_if_ne (tgt := 136) hx hb dX12_test_118 (by decide) (fun _ => ?_) (fun c => absurd c (by decide))
              refine lv_aload_n hx hb dX12_test_136 rfl (lv_at hl 1 rfl) ?_
              refine va_get (D := D) (ci := 12) (v := .ref Ma) (C := RX12) (T := TX12) (N := 36) hx hb hts iX12 hown hK hP 2 rfl rfl 0 (by decide) (hts _ qf_X12_7) (fun _ h => h) rfl dX12_test_137 ?_
              refine lv_iload_n hx hb dX12_test_140 rfl (lv_at hl 2 rfl) ?_
              refine lv_iconst (v := iZ 5) hx hb dX12_test_141 (by decide) ?_
              refine lv_iadd hx hb dX12_test_142 ?_
              refine lv_topi (fun x_259 ex_259 => ?_)
              obtain rfl : x_259 = iZ (y + 5) := ex_259.trans (iZ_add y 5)
              refine lv_aload_n hx hb dX12_test_143 rfl (lv_at hl 1 rfl) ?_
              refine va_get (D := D) (ci := 12) (v := .int (iZ (I_213 4))) (C := RX12) (T := TX12) (N := 36) hx hb hts iX12 hown hK hP 2 rfl rfl 15 (by decide) (hts _ qf_X12_124) (fun _ h => h) rfl dX12_test_144 ?_
              refine va_iast hx hb hK hP hD hS 0 1 rfl rfl (zin (e := (y + 5)) (n := 5340) ⟨by omega, by omega⟩ (by decide)) dX12_test_147 (fun H locs hP hD hS => ?_)
              obtain ⟨f_260, hf_260⟩ : ∃ gg9, gg9 = upd f_206 (iZ (y + 5)).toNatClampNeg (iZ (I_213 4)) := ⟨_, rfl⟩
              rw [← hf_260] at hP hD
              have w_261 := RWR.up (y := y) hf_260 (by omega) (by omega) ⟨by omega, by omega⟩
              have uu_262 := gz_upc (j := y) hf_260 ⟨by omega, by omega⟩ ⟨by omega, by omega⟩ (by omega)
              have uu_263 := gz_upc (j := (y + 1)) hf_260 ⟨by omega, by omega⟩ ⟨by omega, by omega⟩ (by omega)
              have uu_264 := gz_upc (j := (y + 2)) hf_260 ⟨by omega, by omega⟩ ⟨by omega, by omega⟩ (by omega)
              have uu_265 := gz_upc (j := 0) hf_260 ⟨by omega, by omega⟩ ⟨by omega, by omega⟩ (by omega)
              refine lv_aload_n hx hb dX12_test_148 rfl (lv_at hl 1 rfl) ?_
              refine CWV (As := []) (rest := []) (wc := [(hm, .inr (12, [.ref Ma, .ref Mn, .int (iZ Mst), .long Mtp, .long Mbt, .ref Ms, .ref My, .ref Mt, .ref Mp, .ref Mx, .int (iZ Mtd), .int (iZ Msz), .int (iZ (I_213 1)), .int (iZ (I_213 2)), .int (iZ (I_213 3)), .int (iZ (I_213 4)), .int (iZ Mfk), .int (iZ Mfp), .int (iZ Mfs), .int (iZ Mse), .int (iZ Mlt), .ref Mo, .int (iZ Mdp), .int (iZ Mct), .ref Mk, .ref Ml, .ref Mb, .ref Mh, .ref Mc, .int (iZ Mdr), .int (iZ Mrs), .ref Mz, .ref Mr, .ref Mq, .int (iZ Mit), .int (iZ Mmk)])), (Mx, .inl (k 0, 900, .inl Xf))]) (wr := [(Ma, .inl (k 1, 5340, .inl f_260)), (Mn, .inl (k 2, 36, .inr (.inl Nf)))]) hx hb hml hown hts hKK hP hD hS hA (m_onward l D k hm Ma Mn Ms My Mt Mp Mx Mo Mk Ml Mb Mh Mc Mz Mr Mq Mst Mtd Msz (I_213 1) (I_213 2) (I_213 3) (I_213 4) Mfk Mfp Mfs Mse Mlt Mdp Mct Mdr Mrs Mit Mmk Mtp Mbt Xf ⟨⟨by omega, by omega⟩, by omega⟩) ci_X12_onward qm_X12_158 ⟨Nat.le_of_ble_eq_true rfl, Nat.le_of_ble_eq_true rfl⟩ ⟨Nat.le_of_ble_eq_true rfl, Nat.le_of_ble_eq_true rfl⟩ [2, 3] [0, 1] rfl rfl rfl rfl rfl (by decide) 0 rfl rfl rfl hl.1 rfl (Nat.le_of_ble_eq_true rfl) dX12_test_149 (fun u_266 H locs hφ hP hD hS => ?_)
              obtain ⟨I_267, L_268, F_269, G_270⟩ := u_266
              obtain ⟨p_272, p_273⟩ : ((0 ≤ ((I_267 2) : Int) ∧ ((I_267 2) : Int) ≤ (I_267 3)) ∧ (((I_267 3) : Int) ≤ Msz ∧ (Msz : Int) ≤ 900) ∧ (0 ≤ ((I_267 1) : Int) ∧ ((I_267 1) : Int) ≤ 4) ∧ (((I_267 1) : Int) = 0 ∨ ((I_267 2) : Int) < (I_267 3)) ∧ (-1 ≤ ((I_267 4) : Int) ∧ ((I_267 4) : Int) ≤ 100000)) ∧ ((I_213 3) ≤ (I_267 2)) := hφ
              refine W.eq (g2 := F0 m 152 ls []) rfl ?_
              refine lv_aload_n hx hb dX12_test_152 rfl (lv_at hl 1 rfl) ?_
              refine lv_iload_n hx hb dX12_test_153 rfl (lv_at hl 2 rfl) ?_
              refine lv_iconst (v := iZ 1) hx hb dX12_test_154 (by decide) ?_
              refine lv_iadd hx hb dX12_test_155 ?_
              refine lv_topi (fun x_274 ex_274 => ?_)
              obtain rfl : x_274 = iZ (y + 1) := ex_274.trans (iZ_add y 1)
              refine lv_iconst (v := iZ 0) hx hb dX12_test_156 (by decide) ?_
              refine lv_sipush (v := iZ 400) hx hb dX12_test_157 (by decide) ?_
              refine CWV (As := [.int (iZ (y + 1)), .int (iZ 0), .int (iZ 400)]) (rest := []) (wc := [(hm, .inr (12, [.ref Ma, .ref Mn, .int (iZ Mst), .long Mtp, .long Mbt, .ref Ms, .ref My, .ref Mt, .ref Mp, .ref Mx, .int (iZ Mtd), .int (iZ Msz), .int (iZ (I_267 1)), .int (iZ (I_267 2)), .int (iZ (I_267 3)), .int (iZ (I_267 4)), .int (iZ Mfk), .int (iZ Mfp), .int (iZ Mfs), .int (iZ Mse), .int (iZ Mlt), .ref Mo, .int (iZ Mdp), .int (iZ Mct), .ref Mk, .ref Ml, .ref Mb, .ref Mh, .ref Mc, .int (iZ Mdr), .int (iZ Mrs), .ref Mz, .ref Mr, .ref Mq, .int (iZ Mit), .int (iZ Mmk)])), (Mx, .inl (k 0, 900, .inl Xf)), (Ma, .inl (k 1, 5340, .inl f_260))]) (wr := [(Mn, .inl (k 2, 36, .inr (.inl Nf)))]) hx hb hml hown hts hKK hP hD hS hA (m_number l D k hm Ma Mn Ms My Mt Mp Mx Mo Mk Ml Mb Mh Mc Mz Mr Mq Mst Mtd Msz (I_267 1) (I_267 2) (I_267 3) (I_267 4) Mfk Mfp Mfs Mse Mlt Mdp Mct Mdr Mrs Mit Mmk Mtp Mbt Xf f_260 (y + 1) 0 400 ⟨⟨by omega, by omega⟩, ⟨by omega, by omega⟩, ⟨by omega, by omega⟩, by omega, by omega, by omega⟩ ⟨by omega, by omega⟩ ⟨by omega, by omega⟩ ⟨by omega, by omega⟩ ⟨by omega, by omega⟩) ci_X12_number qm_X12_188 ⟨Nat.le_of_ble_eq_true rfl, Nat.le_of_ble_eq_true rfl⟩ ⟨Nat.le_of_ble_eq_true rfl, Nat.le_of_ble_eq_true rfl⟩ [2, 3, 0] [1] rfl rfl rfl rfl rfl (by decide) 0 rfl rfl rfl hl.1 rfl (Nat.le_of_ble_eq_true rfl) dX12_test_160 (fun u_275 H locs hφ hP hD hS => ?_)
              obtain ⟨I_276, L_277, F_278, G_279⟩ := u_275
              obtain ⟨p_281, p_282, p_283⟩ : ((0 ≤ ((I_276 2) : Int) ∧ ((I_276 2) : Int) ≤ (I_276 3)) ∧ (((I_276 3) : Int) ≤ Msz ∧ (Msz : Int) ≤ 900) ∧ (0 ≤ ((I_276 1) : Int) ∧ ((I_276 1) : Int) ≤ 4) ∧ (((I_276 1) : Int) = 0 ∨ ((I_276 2) : Int) < (I_276 3)) ∧ (-1 ≤ ((I_276 4) : Int) ∧ ((I_276 4) : Int) ≤ 100000)) ∧ ((0 ≤ ((I_276 5) : Int) ∧ ((I_276 5) : Int) ≤ 9) ∧ (((I_276 0) : Int) = 0 → 1 ≤ ((I_276 5) : Int)) ∧ (((I_276 0) : Int) = 0 ∨ ((I_276 0) : Int) = 1) ∧ (I_267 2) ≤ (I_276 2)) ∧ ((((I_276 0) : Int) = 0 ∧ (F_278 0) = f_260) ∨ (((I_276 0) : Int) = 1 ∧ ∃ v6 : Int, 0 ≤ v6 ∧ v6 ≤ 400 ∧ (F_278 0) = upd f_260 (iZ (y + 1)).toNatClampNeg (iZ v6))) := hφ
              refine W.eq (g2 := F0 m 163 ls [.int (iZ (I_276 0))]) rfl ?_
              rcases p_283 with ⟨qt_284, et_284⟩ | ⟨qt_284, vt_284, g1t_284, g2t_284, ht_284⟩
              ·
                rw [qt_284]
                have kp_285 : KP (F_278 0) f_260 := by first | exact et_284 | (rw [et_284]; exact KP.rf _)
                exact EWz hx hb hr hlocks hS (fun i => [0, (I_276 1), (I_276 2), (I_276 3), (I_276 4), (I_276 5), (I_276 6)].getD i 0, fun i => [0].getD i 0, fun i => [(F_278 0)].getD i (fun _ => 0), fun i => [].getD i (fun _ => 0)) rfl rfl ⟨(show (0 ≤ ((I_276 2) : Int) ∧ ((I_276 2) : Int) ≤ (I_276 3)) ∧ (((I_276 3) : Int) ≤ Msz ∧ (Msz : Int) ≤ 900) ∧ (0 ≤ ((I_276 1) : Int) ∧ ((I_276 1) : Int) ≤ 4) ∧ (((I_276 1) : Int) = 0 ∨ ((I_276 2) : Int) < (I_276 3)) ∧ (-1 ≤ ((I_276 4) : Int) ∧ ((I_276 4) : Int) ≤ 100000) from ⟨⟨by omega, by omega⟩, ⟨by omega, by omega⟩, ⟨by omega, by omega⟩, by omega, by omega, by omega⟩), (show (0 ≤ ((I_276 5) : Int) ∧ ((I_276 5) : Int) ≤ 9) ∧ ((0 : Int) = 0 → 1 ≤ ((I_276 5) : Int)) ∧ ((0 : Int) = 0 ∨ (0 : Int) = 1) ∧ Mfr ≤ (I_276 2) from ⟨⟨by omega, by omega⟩, fun _ => by omega, by omega, by omega⟩), (show ((0 : Int) = 0 ∧ KP (F_278 0) Af) ∨ ((0 : Int) = 1 ∧ RWR (F_278 0) Af y ∧ (gz (F_278 0) y = 17 → 0 ≤ gz (F_278 0) (y + 1) ∧ gz (F_278 0) (y + 1) < gz Af 0) ∧ (gz (F_278 0) y = 1923 → 0 ≤ gz (F_278 0) (y + 2) ∧ gz (F_278 0) (y + 2) < 6)) from (Or.inl ⟨rfl, (KP.tr kp_285 (RWR.kp (RWR.tr w_261 w_207) (by omega)))⟩))⟩ (hP.sub [1, 2, 3, 0] rfl) (hD.sub [1, 2, 3, 0] rfl rfl) dX12_test_163
              ·
                rw [qt_284]
                have w_286 := RWR.up (y := y) ht_284 (by omega) (by omega) ⟨by omega, by omega⟩
                have uu_287 := gz_upc (j := y) ht_284 ⟨by omega, by omega⟩ ⟨by omega, by omega⟩ (by omega)
                have uu_288 := gz_upc (j := (y + 1)) ht_284 ⟨by omega, by omega⟩ ⟨by omega, by omega⟩ (by omega)
                have uu_289 := gz_upc (j := (y + 2)) ht_284 ⟨by omega, by omega⟩ ⟨by omega, by omega⟩ (by omega)
                have uu_290 := gz_upc (j := 0) ht_284 ⟨by omega, by omega⟩ ⟨by omega, by omega⟩ (by omega)
                exact EWz hx hb hr hlocks hS (fun i => [1, (I_276 1), (I_276 2), (I_276 3), (I_276 4), (I_276 5), (I_276 6)].getD i 0, fun i => [0].getD i 0, fun i => [(F_278 0)].getD i (fun _ => 0), fun i => [].getD i (fun _ => 0)) rfl rfl ⟨(show (0 ≤ ((I_276 2) : Int) ∧ ((I_276 2) : Int) ≤ (I_276 3)) ∧ (((I_276 3) : Int) ≤ Msz ∧ (Msz : Int) ≤ 900) ∧ (0 ≤ ((I_276 1) : Int) ∧ ((I_276 1) : Int) ≤ 4) ∧ (((I_276 1) : Int) = 0 ∨ ((I_276 2) : Int) < (I_276 3)) ∧ (-1 ≤ ((I_276 4) : Int) ∧ ((I_276 4) : Int) ≤ 100000) from ⟨⟨by omega, by omega⟩, ⟨by omega, by omega⟩, ⟨by omega, by omega⟩, by omega, by omega, by omega⟩), (show (0 ≤ ((I_276 5) : Int) ∧ ((I_276 5) : Int) ≤ 9) ∧ ((1 : Int) = 0 → 1 ≤ ((I_276 5) : Int)) ∧ ((1 : Int) = 0 ∨ (1 : Int) = 1) ∧ Mfr ≤ (I_276 2) from ⟨⟨by omega, by omega⟩, fun _ => by omega, by omega, by omega⟩), (show ((1 : Int) = 0 ∧ KP (F_278 0) Af) ∨ ((1 : Int) = 1 ∧ RWR (F_278 0) Af y ∧ (gz (F_278 0) y = 17 → 0 ≤ gz (F_278 0) (y + 1) ∧ gz (F_278 0) (y + 1) < gz Af 0) ∧ (gz (F_278 0) y = 1923 → 0 ≤ gz (F_278 0) (y + 2) ∧ gz (F_278 0) (y + 2) < 6)) from (Or.inr ⟨rfl, (RWR.tr w_286 (RWR.tr w_261 w_207)), fun h9 => by omega, fun h9 => by omega⟩))⟩ (hP.sub [1, 2, 3, 0] rfl) (hD.sub [1, 2, 3, 0] rfl rfl) dX12_test_163
            ·
              subst qz_257
              refine lv_if_ne (tgt := 136) hx hb dX12_test_118 (by decide) (fun c => absurd (by decide) c) (fun _ => ?_)
              refine lv_aload_n hx hb dX12_test_121 rfl (lv_at hl 1 rfl) ?_
              refine lv_bipush (v := iZ 61) hx hb dX12_test_122 (by decide) ?_
              refine CPV (As := [.int (iZ 61)]) (rest := []) hx hb hml hown hts hKK (hP.sub (ws' := [(hm, .inr (12, [.ref Ma, .ref Mn, .int (iZ Mst), .long Mtp, .long Mbt, .ref Ms, .ref My, .ref Mt, .ref Mp, .ref Mx, .int (iZ Mtd), .int (iZ Msz), .int (iZ (I_213 1)), .int (iZ (I_213 2)), .int (iZ (I_213 3)), .int (iZ (I_213 4)), .int (iZ Mfk), .int (iZ Mfp), .int (iZ Mfs), .int (iZ Mse), .int (iZ Mlt), .ref Mo, .int (iZ Mdp), .int (iZ Mct), .ref Mk, .ref Ml, .ref Mb, .ref Mh, .ref Mc, .int (iZ Mdr), .int (iZ Mrs), .ref Mz, .ref Mr, .ref Mq, .int (iZ Mit), .int (iZ Mmk)]))]) [2] rfl) (m_isSign l D k ([.ref Ma, .ref Mn, .int (iZ Mst), .long Mtp, .long Mbt, .ref Ms, .ref My, .ref Mt, .ref Mp, .ref Mx, .int (iZ Mtd), .int (iZ Msz), .int (iZ (I_213 1)), .int (iZ (I_213 2)), .int (iZ (I_213 3)), .int (iZ (I_213 4)), .int (iZ Mfk), .int (iZ Mfp), .int (iZ Mfs), .int (iZ Mse), .int (iZ Mlt), .ref Mo, .int (iZ Mdp), .int (iZ Mct), .ref Mk, .ref Ml, .ref Mb, .ref Mh, .ref Mc, .int (iZ Mdr), .int (iZ Mrs), .ref Mz, .ref Mr, .ref Mq, .int (iZ Mit), .int (iZ Mmk)]) hm (I_213 1) (I_213 4) 61 rfl rfl ⟨by omega, by omega⟩ ⟨by omega, by omega⟩ ⟨by omega, by omega⟩) ci_X12_isSign qm_X12_161 ⟨Nat.le_of_ble_eq_true rfl, Nat.le_of_ble_eq_true rfl⟩ ⟨Nat.le_of_ble_eq_true rfl, Nat.le_of_ble_eq_true rfl⟩ 0 rfl rfl rfl hl.1 rfl (Nat.le_of_ble_eq_true rfl) dX12_test_124 (fun z_292 hz_292 => ?_)
              rcases hz_292 with ⟨qz_292, hz_292⟩ | ⟨qz_292, hz_292⟩
              ·
                subst qz_292
                refine lv_if_ne (tgt := 136) hx hb dX12_test_127 (by decide) (fun _ => ?_) (fun c => absurd c (by decide))
                refine lv_aload_n hx hb dX12_test_136 rfl (lv_at hl 1 rfl) ?_
                refine va_get (D := D) (ci := 12) (v := .ref Ma) (C := RX12) (T := TX12) (N := 36) hx hb hts iX12 hown hK hP 2 rfl rfl 0 (by decide) (hts _ qf_X12_7) (fun _ h => h) rfl dX12_test_137 ?_
                refine lv_iload_n hx hb dX12_test_140 rfl (lv_at hl 2 rfl) ?_
                refine lv_iconst (v := iZ 5) hx hb dX12_test_141 (by decide) ?_
                refine lv_iadd hx hb dX12_test_142 ?_
                refine lv_topi (fun x_294 ex_294 => ?_)
                obtain rfl : x_294 = iZ (y + 5) := ex_294.trans (iZ_add y 5)
                refine lv_aload_n hx hb dX12_test_143 rfl (lv_at hl 1 rfl) ?_
                refine va_get (D := D) (ci := 12) (v := .int (iZ (I_213 4))) (C := RX12) (T := TX12) (N := 36) hx hb hts iX12 hown hK hP 2 rfl rfl 15 (by decide) (hts _ qf_X12_124) (fun _ h => h) rfl dX12_test_144 ?_
                refine va_iast hx hb hK hP hD hS 0 1 rfl rfl (zin (e := (y + 5)) (n := 5340) ⟨by omega, by omega⟩ (by decide)) dX12_test_147 (fun H locs hP hD hS => ?_)
                obtain ⟨f_295, hf_295⟩ : ∃ gg9, gg9 = upd f_206 (iZ (y + 5)).toNatClampNeg (iZ (I_213 4)) := ⟨_, rfl⟩
                rw [← hf_295] at hP hD
                have w_296 := RWR.up (y := y) hf_295 (by omega) (by omega) ⟨by omega, by omega⟩
                have uu_297 := gz_upc (j := y) hf_295 ⟨by omega, by omega⟩ ⟨by omega, by omega⟩ (by omega)
                have uu_298 := gz_upc (j := (y + 1)) hf_295 ⟨by omega, by omega⟩ ⟨by omega, by omega⟩ (by omega)
                have uu_299 := gz_upc (j := (y + 2)) hf_295 ⟨by omega, by omega⟩ ⟨by omega, by omega⟩ (by omega)
                have uu_300 := gz_upc (j := 0) hf_295 ⟨by omega, by omega⟩ ⟨by omega, by omega⟩ (by omega)
                refine lv_aload_n hx hb dX12_test_148 rfl (lv_at hl 1 rfl) ?_
                refine CWV (As := []) (rest := []) (wc := [(hm, .inr (12, [.ref Ma, .ref Mn, .int (iZ Mst), .long Mtp, .long Mbt, .ref Ms, .ref My, .ref Mt, .ref Mp, .ref Mx, .int (iZ Mtd), .int (iZ Msz), .int (iZ (I_213 1)), .int (iZ (I_213 2)), .int (iZ (I_213 3)), .int (iZ (I_213 4)), .int (iZ Mfk), .int (iZ Mfp), .int (iZ Mfs), .int (iZ Mse), .int (iZ Mlt), .ref Mo, .int (iZ Mdp), .int (iZ Mct), .ref Mk, .ref Ml, .ref Mb, .ref Mh, .ref Mc, .int (iZ Mdr), .int (iZ Mrs), .ref Mz, .ref Mr, .ref Mq, .int (iZ Mit), .int (iZ Mmk)])), (Mx, .inl (k 0, 900, .inl Xf))]) (wr := [(Ma, .inl (k 1, 5340, .inl f_295)), (Mn, .inl (k 2, 36, .inr (.inl Nf)))]) hx hb hml hown hts hKK hP hD hS hA (m_onward l D k hm Ma Mn Ms My Mt Mp Mx Mo Mk Ml Mb Mh Mc Mz Mr Mq Mst Mtd Msz (I_213 1) (I_213 2) (I_213 3) (I_213 4) Mfk Mfp Mfs Mse Mlt Mdp Mct Mdr Mrs Mit Mmk Mtp Mbt Xf ⟨⟨by omega, by omega⟩, by omega⟩) ci_X12_onward qm_X12_158 ⟨Nat.le_of_ble_eq_true rfl, Nat.le_of_ble_eq_true rfl⟩ ⟨Nat.le_of_ble_eq_true rfl, Nat.le_of_ble_eq_true rfl⟩ [2, 3] [0, 1] rfl rfl rfl rfl rfl (by decide) 0 rfl rfl rfl hl.1 rfl (Nat.le_of_ble_eq_true rfl) dX12_test_149 (fun u_301 H locs hφ hP hD hS => ?_)
                obtain ⟨I_302, L_303, F_304, G_305⟩ := u_301
                obtain ⟨p_307, p_308⟩ : ((0 ≤ ((I_302 2) : Int) ∧ ((I_302 2) : Int) ≤ (I_302 3)) ∧ (((I_302 3) : Int) ≤ Msz ∧ (Msz : Int) ≤ 900) ∧ (0 ≤ ((I_302 1) : Int) ∧ ((I_302 1) : Int) ≤ 4) ∧ (((I_302 1) : Int) = 0 ∨ ((I_302 2) : Int) < (I_302 3)) ∧ (-1 ≤ ((I_302 4) : Int) ∧ ((I_302 4) : Int) ≤ 100000)) ∧ ((I_213 3) ≤ (I_302 2)) := hφ
                refine W.eq (g2 := F0 m 152 ls []) rfl ?_
                refine lv_aload_n hx hb dX12_test_152 rfl (lv_at hl 1 rfl) ?_
                refine lv_iload_n hx hb dX12_test_153 rfl (lv_at hl 2 rfl) ?_
                refine lv_iconst (v := iZ 1) hx hb dX12_test_154 (by decide) ?_
                refine lv_iadd hx hb dX12_test_155 ?_
                refine lv_topi (fun x_309 ex_309 => ?_)
                obtain rfl : x_309 = iZ (y + 1) := ex_309.trans (iZ_add y 1)
                refine lv_iconst (v := iZ 0) hx hb dX12_test_156 (by decide) ?_
                refine lv_sipush (v := iZ 400) hx hb dX12_test_157 (by decide) ?_
                refine CWV (As := [.int (iZ (y + 1)), .int (iZ 0), .int (iZ 400)]) (rest := []) (wc := [(hm, .inr (12, [.ref Ma, .ref Mn, .int (iZ Mst), .long Mtp, .long Mbt, .ref Ms, .ref My, .ref Mt, .ref Mp, .ref Mx, .int (iZ Mtd), .int (iZ Msz), .int (iZ (I_302 1)), .int (iZ (I_302 2)), .int (iZ (I_302 3)), .int (iZ (I_302 4)), .int (iZ Mfk), .int (iZ Mfp), .int (iZ Mfs), .int (iZ Mse), .int (iZ Mlt), .ref Mo, .int (iZ Mdp), .int (iZ Mct), .ref Mk, .ref Ml, .ref Mb, .ref Mh, .ref Mc, .int (iZ Mdr), .int (iZ Mrs), .ref Mz, .ref Mr, .ref Mq, .int (iZ Mit), .int (iZ Mmk)])), (Mx, .inl (k 0, 900, .inl Xf)), (Ma, .inl (k 1, 5340, .inl f_295))]) (wr := [(Mn, .inl (k 2, 36, .inr (.inl Nf)))]) hx hb hml hown hts hKK hP hD hS hA (m_number l D k hm Ma Mn Ms My Mt Mp Mx Mo Mk Ml Mb Mh Mc Mz Mr Mq Mst Mtd Msz (I_302 1) (I_302 2) (I_302 3) (I_302 4) Mfk Mfp Mfs Mse Mlt Mdp Mct Mdr Mrs Mit Mmk Mtp Mbt Xf f_295 (y + 1) 0 400 ⟨⟨by omega, by omega⟩, ⟨by omega, by omega⟩, ⟨by omega, by omega⟩, by omega, by omega, by omega⟩ ⟨by omega, by omega⟩ ⟨by omega, by omega⟩ ⟨by omega, by omega⟩ ⟨by omega, by omega⟩) ci_X12_number qm_X12_188 ⟨Nat.le_of_ble_eq_true rfl, Nat.le_of_ble_eq_true rfl⟩ ⟨Nat.le_of_ble_eq_true rfl, Nat.le_of_ble_eq_true rfl⟩ [2, 3, 0] [1] rfl rfl rfl rfl rfl (by decide) 0 rfl rfl rfl hl.1 rfl (Nat.le_of_ble_eq_true rfl) dX12_test_160 (fun u_310 H locs hφ hP hD hS => ?_)
                obtain ⟨I_311, L_312, F_313, G_314⟩ := u_310
                obtain ⟨p_316, p_317, p_318⟩ : ((0 ≤ ((I_311 2) : Int) ∧ ((I_311 2) : Int) ≤ (I_311 3)) ∧ (((I_311 3) : Int) ≤ Msz ∧ (Msz : Int) ≤ 900) ∧ (0 ≤ ((I_311 1) : Int) ∧ ((I_311 1) : Int) ≤ 4) ∧ (((I_311 1) : Int) = 0 ∨ ((I_311 2) : Int) < (I_311 3)) ∧ (-1 ≤ ((I_311 4) : Int) ∧ ((I_311 4) : Int) ≤ 100000)) ∧ ((0 ≤ ((I_311 5) : Int) ∧ ((I_311 5) : Int) ≤ 9) ∧ (((I_311 0) : Int) = 0 → 1 ≤ ((I_311 5) : Int)) ∧ (((I_311 0) : Int) = 0 ∨ ((I_311 0) : Int) = 1) ∧ (I_302 2) ≤ (I_311 2)) ∧ ((((I_311 0) : Int) = 0 ∧ (F_313 0) = f_295) ∨ (((I_311 0) : Int) = 1 ∧ ∃ v6 : Int, 0 ≤ v6 ∧ v6 ≤ 400 ∧ (F_313 0) = upd f_295 (iZ (y + 1)).toNatClampNeg (iZ v6))) := hφ
                refine W.eq (g2 := F0 m 163 ls [.int (iZ (I_311 0))]) rfl ?_
                rcases p_318 with ⟨qt_319, et_319⟩ | ⟨qt_319, vt_319, g1t_319, g2t_319, ht_319⟩
                ·
                  rw [qt_319]
                  have kp_320 : KP (F_313 0) f_295 := by first | exact et_319 | (rw [et_319]; exact KP.rf _)
                  exact EWz hx hb hr hlocks hS (fun i => [0, (I_311 1), (I_311 2), (I_311 3), (I_311 4), (I_311 5), (I_311 6)].getD i 0, fun i => [0].getD i 0, fun i => [(F_313 0)].getD i (fun _ => 0), fun i => [].getD i (fun _ => 0)) rfl rfl ⟨(show (0 ≤ ((I_311 2) : Int) ∧ ((I_311 2) : Int) ≤ (I_311 3)) ∧ (((I_311 3) : Int) ≤ Msz ∧ (Msz : Int) ≤ 900) ∧ (0 ≤ ((I_311 1) : Int) ∧ ((I_311 1) : Int) ≤ 4) ∧ (((I_311 1) : Int) = 0 ∨ ((I_311 2) : Int) < (I_311 3)) ∧ (-1 ≤ ((I_311 4) : Int) ∧ ((I_311 4) : Int) ≤ 100000) from ⟨⟨by omega, by omega⟩, ⟨by omega, by omega⟩, ⟨by omega, by omega⟩, by omega, by omega, by omega⟩), (show (0 ≤ ((I_311 5) : Int) ∧ ((I_311 5) : Int) ≤ 9) ∧ ((0 : Int) = 0 → 1 ≤ ((I_311 5) : Int)) ∧ ((0 : Int) = 0 ∨ (0 : Int) = 1) ∧ Mfr ≤ (I_311 2) from ⟨⟨by omega, by omega⟩, fun _ => by omega, by omega, by omega⟩), (show ((0 : Int) = 0 ∧ KP (F_313 0) Af) ∨ ((0 : Int) = 1 ∧ RWR (F_313 0) Af y ∧ (gz (F_313 0) y = 17 → 0 ≤ gz (F_313 0) (y + 1) ∧ gz (F_313 0) (y + 1) < gz Af 0) ∧ (gz (F_313 0) y = 1923 → 0 ≤ gz (F_313 0) (y + 2) ∧ gz (F_313 0) (y + 2) < 6)) from (Or.inl ⟨rfl, (KP.tr kp_320 (RWR.kp (RWR.tr w_296 w_207) (by omega)))⟩))⟩ (hP.sub [1, 2, 3, 0] rfl) (hD.sub [1, 2, 3, 0] rfl rfl) dX12_test_163
                ·
                  rw [qt_319]
                  have w_321 := RWR.up (y := y) ht_319 (by omega) (by omega) ⟨by omega, by omega⟩
                  have uu_322 := gz_upc (j := y) ht_319 ⟨by omega, by omega⟩ ⟨by omega, by omega⟩ (by omega)
                  have uu_323 := gz_upc (j := (y + 1)) ht_319 ⟨by omega, by omega⟩ ⟨by omega, by omega⟩ (by omega)
                  have uu_324 := gz_upc (j := (y + 2)) ht_319 ⟨by omega, by omega⟩ ⟨by omega, by omega⟩ (by omega)
                  have uu_325 := gz_upc (j := 0) ht_319 ⟨by omega, by omega⟩ ⟨by omega, by omega⟩ (by omega)
                  exact EWz hx hb hr hlocks hS (fun i => [1, (I_311 1), (I_311 2), (I_311 3), (I_311 4), (I_311 5), (I_311 6)].getD i 0, fun i => [0].getD i 0, fun i => [(F_313 0)].getD i (fun _ => 0), fun i => [].getD i (fun _ => 0)) rfl rfl ⟨(show (0 ≤ ((I_311 2) : Int) ∧ ((I_311 2) : Int) ≤ (I_311 3)) ∧ (((I_311 3) : Int) ≤ Msz ∧ (Msz : Int) ≤ 900) ∧ (0 ≤ ((I_311 1) : Int) ∧ ((I_311 1) : Int) ≤ 4) ∧ (((I_311 1) : Int) = 0 ∨ ((I_311 2) : Int) < (I_311 3)) ∧ (-1 ≤ ((I_311 4) : Int) ∧ ((I_311 4) : Int) ≤ 100000) from ⟨⟨by omega, by omega⟩, ⟨by omega, by omega⟩, ⟨by omega, by omega⟩, by omega, by omega, by omega⟩), (show (0 ≤ ((I_311 5) : Int) ∧ ((I_311 5) : Int) ≤ 9) ∧ ((1 : Int) = 0 → 1 ≤ ((I_311 5) : Int)) ∧ ((1 : Int) = 0 ∨ (1 : Int) = 1) ∧ Mfr ≤ (I_311 2) from ⟨⟨by omega, by omega⟩, fun _ => by omega, by omega, by omega⟩), (show ((1 : Int) = 0 ∧ KP (F_313 0) Af) ∨ ((1 : Int) = 1 ∧ RWR (F_313 0) Af y ∧ (gz (F_313 0) y = 17 → 0 ≤ gz (F_313 0) (y + 1) ∧ gz (F_313 0) (y + 1) < gz Af 0) ∧ (gz (F_313 0) y = 1923 → 0 ≤ gz (F_313 0) (y + 2) ∧ gz (F_313 0) (y + 2) < 6)) from (Or.inr ⟨rfl, (RWR.tr w_321 (RWR.tr w_296 w_207)), fun h9 => by omega, fun h9 => by omega⟩))⟩ (hP.sub [1, 2, 3, 0] rfl) (hD.sub [1, 2, 3, 0] rfl rfl) dX12_test_163
              ·
                subst qz_292
                refine lv_if_ne (tgt := 136) hx hb dX12_test_127 (by decide) (fun c => absurd (by decide) c) (fun _ => ?_)
                refine lv_aload_n hx hb dX12_test_130 rfl (lv_at hl 1 rfl) ?_
                refine lv_iconst (v := iZ 2) hx hb dX12_test_131 (by decide) ?_
                refine CWV (As := [.int (iZ 2)]) (rest := []) (wc := [(hm, .inr (12, [.ref Ma, .ref Mn, .int (iZ Mst), .long Mtp, .long Mbt, .ref Ms, .ref My, .ref Mt, .ref Mp, .ref Mx, .int (iZ Mtd), .int (iZ Msz), .int (iZ (I_213 1)), .int (iZ (I_213 2)), .int (iZ (I_213 3)), .int (iZ (I_213 4)), .int (iZ Mfk), .int (iZ Mfp), .int (iZ Mfs), .int (iZ Mse), .int (iZ Mlt), .ref Mo, .int (iZ Mdp), .int (iZ Mct), .ref Mk, .ref Ml, .ref Mb, .ref Mh, .ref Mc, .int (iZ Mdr), .int (iZ Mrs), .ref Mz, .ref Mr, .ref Mq, .int (iZ Mit), .int (iZ Mmk)]))]) (wr := [(Ma, .inl (k 1, 5340, .inl f_206)), (Mn, .inl (k 2, 36, .inr (.inl Nf))), (Mx, .inl (k 0, 900, .inl Xf))]) hx hb hml hown hts hKK hP hD hS hA (m_fails l D k hm Ma Mn Ms My Mt Mp Mx Mo Mk Ml Mb Mh Mc Mz Mr Mq Mst Mtd Msz (I_213 1) (I_213 2) (I_213 3) (I_213 4) Mfk Mfp Mfs Mse Mlt Mdp Mct Mdr Mrs Mit Mmk Mtp Mbt 2 ⟨by omega, by omega⟩ ⟨by omega, by omega⟩ ⟨by omega, by omega⟩) ci_X12_fails qm_X12_164 ⟨Nat.le_of_ble_eq_true rfl, Nat.le_of_ble_eq_true rfl⟩ ⟨Nat.le_of_ble_eq_true rfl, Nat.le_of_ble_eq_true rfl⟩ [2] [0, 1, 3] rfl rfl rfl rfl rfl (by decide) 0 rfl rfl rfl hl.1 rfl (Nat.le_of_ble_eq_true rfl) dX12_test_132 (fun u_327 H locs hφ hP hD hS => ?_)
                obtain ⟨I_328, L_329, F_330, G_331⟩ := u_327
                have p_333 : 1 ≤ ((I_328 1) : Int) ∧ ((I_328 1) : Int) ≤ 9 := hφ
                refine W.eq (g2 := F0 m 135 ls [.int (iZ 0)]) rfl ?_
                exact EWz hx hb hr hlocks hS (fun i => [0, (I_213 1), (I_213 2), (I_213 3), (I_213 4), (I_328 1), (I_328 2)].getD i 0, fun i => [0].getD i 0, fun i => [f_206].getD i (fun _ => 0), fun i => [].getD i (fun _ => 0)) rfl rfl ⟨(show (0 ≤ ((I_213 2) : Int) ∧ ((I_213 2) : Int) ≤ (I_213 3)) ∧ (((I_213 3) : Int) ≤ Msz ∧ (Msz : Int) ≤ 900) ∧ (0 ≤ ((I_213 1) : Int) ∧ ((I_213 1) : Int) ≤ 4) ∧ (((I_213 1) : Int) = 0 ∨ ((I_213 2) : Int) < (I_213 3)) ∧ (-1 ≤ ((I_213 4) : Int) ∧ ((I_213 4) : Int) ≤ 100000) from ⟨⟨by omega, by omega⟩, ⟨by omega, by omega⟩, ⟨by omega, by omega⟩, by omega, by omega, by omega⟩), (show (0 ≤ ((I_328 1) : Int) ∧ ((I_328 1) : Int) ≤ 9) ∧ ((0 : Int) = 0 → 1 ≤ ((I_328 1) : Int)) ∧ ((0 : Int) = 0 ∨ (0 : Int) = 1) ∧ Mfr ≤ (I_213 2) from ⟨⟨by omega, by omega⟩, fun _ => by omega, by omega, by omega⟩), (show ((0 : Int) = 0 ∧ KP f_206 Af) ∨ ((0 : Int) = 1 ∧ RWR f_206 Af y ∧ (gz f_206 y = 17 → 0 ≤ gz f_206 (y + 1) ∧ gz f_206 (y + 1) < gz Af 0) ∧ (gz f_206 y = 1923 → 0 ≤ gz f_206 (y + 2) ∧ gz f_206 (y + 2) < 6)) from (Or.inl ⟨rfl, (RWR.kp w_207 (by omega))⟩))⟩ (hP.sub [3, 2, 0, 1] rfl) (hD.sub [3, 2, 0, 1] rfl rfl) dX12_test_135
        ·
          have c_221 := (zeq (x := iZ (I_2 0)) (y := iZ 23) rfl rfl ⟨by omega, by omega⟩ ⟨by omega, by omega⟩).mp c_221
          refine lv_aload_n hx hb dX12_test_66 rfl (lv_at hl 1 rfl) ?_
          refine lv_iload_n hx hb dX12_test_67 rfl (lv_at hl 2 rfl) ?_
          refine lv_iconst (v := iZ 1) hx hb dX12_test_68 (by decide) ?_
          refine lv_iadd hx hb dX12_test_69 ?_
          refine lv_topi (fun x_334 ex_334 => ?_)
          obtain rfl : x_334 = iZ (y + 1) := ex_334.trans (iZ_add y 1)
          refine CSV (As := [.int (iZ (y + 1))]) (rest := []) (wc := [(hm, .inr (12, [.ref Ma, .ref Mn, .int (iZ Mst), .long Mtp, .long Mbt, .ref Ms, .ref My, .ref Mt, .ref Mp, .ref Mx, .int (iZ Mtd), .int (iZ Msz), .int (iZ (I_213 1)), .int (iZ (I_213 2)), .int (iZ (I_213 3)), .int (iZ (I_213 4)), .int (iZ Mfk), .int (iZ Mfp), .int (iZ Mfs), .int (iZ Mse), .int (iZ Mlt), .ref Mo, .int (iZ Mdp), .int (iZ Mct), .ref Mk, .ref Ml, .ref Mb, .ref Mh, .ref Mc, .int (iZ Mdr), .int (iZ Mrs), .ref Mz, .ref Mr, .ref Mq, .int (iZ Mit), .int (iZ Mmk)])), (Mx, .inl (k 0, 900, .inl Xf)), (Ma, .inl (k 1, 5340, .inl f_206)), (Mn, .inl (k 2, 36, .inr (.inl Nf)))]) (wr := []) hx hb hml hown hts hKK hP hD hS hA hSY hRR (m_rockTo l D k sa sv hm Ma Mn Ms My Mt Mp Mx Mo Mk Ml Mb Mh Mc Mz Mr Mq Mst Mtd Msz (I_213 1) (I_213 2) (I_213 3) (I_213 4) Mfk Mfp Mfs Mse Mlt Mdp Mct Mdr Mrs Mit Mmk Mtp Mbt Xf f_206 Nf (y + 1) ⟨⟨by omega, by omega⟩, ⟨by omega, by omega⟩, ⟨by omega, by omega⟩, by omega, by omega, by omega⟩ ⟨by omega, by omega⟩ ⟨by omega, by omega⟩ ⟨by omega, by omega⟩) ci_X12_rockTo qm_X12_225 ⟨Nat.le_of_ble_eq_true rfl, Nat.le_of_ble_eq_true rfl⟩ ⟨Nat.le_of_ble_eq_true rfl, Nat.le_of_ble_eq_true rfl⟩ [2, 3, 0, 1] [] rfl rfl rfl rfl rfl (by decide) 0 rfl rfl rfl hl.1 rfl (Nat.le_of_ble_eq_true rfl) dX12_test_70 (fun u_335 H locs hφ hP hD hS => ?_)
          obtain ⟨I_336, L_337, F_338, G_339⟩ := u_335
          obtain ⟨p_341, p_342, p_343⟩ : ((0 ≤ ((I_336 2) : Int) ∧ ((I_336 2) : Int) ≤ (I_336 3)) ∧ (((I_336 3) : Int) ≤ Msz ∧ (Msz : Int) ≤ 900) ∧ (0 ≤ ((I_336 1) : Int) ∧ ((I_336 1) : Int) ≤ 4) ∧ (((I_336 1) : Int) = 0 ∨ ((I_336 2) : Int) < (I_336 3)) ∧ (-1 ≤ ((I_336 4) : Int) ∧ ((I_336 4) : Int) ≤ 100000)) ∧ ((0 ≤ ((I_336 5) : Int) ∧ ((I_336 5) : Int) ≤ 9) ∧ (((I_336 0) : Int) = 0 → 1 ≤ ((I_336 5) : Int)) ∧ (((I_336 0) : Int) = 0 ∨ ((I_336 0) : Int) = 1) ∧ (I_213 2) ≤ (I_336 2)) ∧ ((((I_336 0) : Int) = 0 ∧ KP (F_338 0) f_206) ∨ (((I_336 0) : Int) = 1 ∧ ∃ v6 : Int, 0 ≤ v6 ∧ v6 < gz f_206 0 ∧ (F_338 0) = upd f_206 (iZ (y + 1)).toNatClampNeg (iZ v6))) := hφ
          refine W.eq (g2 := F0 m 73 ls [.int (iZ (I_336 0))]) rfl ?_
          rcases p_343 with ⟨qt_344, et_344⟩ | ⟨qt_344, vt_344, g1t_344, g2t_344, ht_344⟩
          ·
            rw [qt_344]
            have kp_345 : KP (F_338 0) f_206 := by first | exact et_344 | (rw [et_344]; exact KP.rf _)
            refine lv_if_eq (tgt := 101) hx hb dX12_test_73 (by decide) (fun _ => ?_) (fun c => absurd (by decide) c)
            refine lv_iconst (v := iZ 0) hx hb dX12_test_101 (by decide) ?_
            exact EWz hx hb hr hlocks hS (fun i => [0, (I_336 1), (I_336 2), (I_336 3), (I_336 4), (I_336 5), (I_336 6)].getD i 0, fun i => [0].getD i 0, fun i => [(F_338 0)].getD i (fun _ => 0), fun i => [].getD i (fun _ => 0)) rfl rfl ⟨(show (0 ≤ ((I_336 2) : Int) ∧ ((I_336 2) : Int) ≤ (I_336 3)) ∧ (((I_336 3) : Int) ≤ Msz ∧ (Msz : Int) ≤ 900) ∧ (0 ≤ ((I_336 1) : Int) ∧ ((I_336 1) : Int) ≤ 4) ∧ (((I_336 1) : Int) = 0 ∨ ((I_336 2) : Int) < (I_336 3)) ∧ (-1 ≤ ((I_336 4) : Int) ∧ ((I_336 4) : Int) ≤ 100000) from ⟨⟨by omega, by omega⟩, ⟨by omega, by omega⟩, ⟨by omega, by omega⟩, by omega, by omega, by omega⟩), (show (0 ≤ ((I_336 5) : Int) ∧ ((I_336 5) : Int) ≤ 9) ∧ ((0 : Int) = 0 → 1 ≤ ((I_336 5) : Int)) ∧ ((0 : Int) = 0 ∨ (0 : Int) = 1) ∧ Mfr ≤ (I_336 2) from ⟨⟨by omega, by omega⟩, fun _ => by omega, by omega, by omega⟩), (show ((0 : Int) = 0 ∧ KP (F_338 0) Af) ∨ ((0 : Int) = 1 ∧ RWR (F_338 0) Af y ∧ (gz (F_338 0) y = 17 → 0 ≤ gz (F_338 0) (y + 1) ∧ gz (F_338 0) (y + 1) < gz Af 0) ∧ (gz (F_338 0) y = 1923 → 0 ≤ gz (F_338 0) (y + 2) ∧ gz (F_338 0) (y + 2) < 6)) from (Or.inl ⟨rfl, (KP.tr kp_345 (RWR.kp w_207 (by omega)))⟩))⟩ (hP.sub [0, 1, 2, 3] rfl) (hD.sub [0, 1, 2, 3] rfl rfl) dX12_test_102
          ·
            rw [qt_344]
            have w_347 := RWR.up (y := y) ht_344 (by omega) (by omega) ⟨by omega, by omega⟩
            have uu_348 := gz_upc (j := y) ht_344 ⟨by omega, by omega⟩ ⟨by omega, by omega⟩ (by omega)
            have uu_349 := gz_upc (j := (y + 1)) ht_344 ⟨by omega, by omega⟩ ⟨by omega, by omega⟩ (by omega)
            have uu_350 := gz_upc (j := (y + 2)) ht_344 ⟨by omega, by omega⟩ ⟨by omega, by omega⟩ (by omega)
            have uu_351 := gz_upc (j := 0) ht_344 ⟨by omega, by omega⟩ ⟨by omega, by omega⟩ (by omega)
            refine lv_if_eq (tgt := 101) hx hb dX12_test_73 (by decide) (fun c => absurd c (by decide)) (fun _ => ?_)
            refine lv_aload_n hx hb dX12_test_76 rfl (lv_at hl 1 rfl) ?_
            refine va_ldcS hx hb hown hRR dX12_test_77 ?_
            refine lv_bipush (v := iZ 24) hx hb dX12_test_79 (by decide) ?_
            refine CSV (As := [.ref sa, .int (iZ 24)]) (rest := []) (wc := [(hm, .inr (12, [.ref Ma, .ref Mn, .int (iZ Mst), .long Mtp, .long Mbt, .ref Ms, .ref My, .ref Mt, .ref Mp, .ref Mx, .int (iZ Mtd), .int (iZ Msz), .int (iZ (I_336 1)), .int (iZ (I_336 2)), .int (iZ (I_336 3)), .int (iZ (I_336 4)), .int (iZ Mfk), .int (iZ (I_336 6)), .int (iZ (I_336 5)), .int (iZ Mse), .int (iZ Mlt), .ref Mo, .int (iZ Mdp), .int (iZ Mct), .ref Mk, .ref Ml, .ref Mb, .ref Mh, .ref Mc, .int (iZ Mdr), .int (iZ Mrs), .ref Mz, .ref Mr, .ref Mq, .int (iZ Mit), .int (iZ Mmk)])), (Mx, .inl (k 0, 900, .inl Xf))]) (wr := [(Ma, .inl (k 1, 5340, .inl (F_338 0))), (Mn, .inl (k 2, 36, .inr (.inl Nf)))]) hx hb hml hown hts hKK hP hD hS hA hSY hRR (m_wantWord l D k sa sv hm Ma Mn Ms My Mt Mp Mx Mo Mk Ml Mb Mh Mc Mz Mr Mq Mst Mtd Msz (I_336 1) (I_336 2) (I_336 3) (I_336 4) Mfk (I_336 6) (I_336 5) Mse Mlt Mdp Mct Mdr Mrs Mit Mmk Mtp Mbt Xf 24 ⟨⟨by omega, by omega⟩, ⟨by omega, by omega⟩, ⟨by omega, by omega⟩, by omega, by omega, by omega⟩ ⟨by omega, by omega⟩ ⟨by omega, by omega⟩) ci_X12_wantWord qm_X12_184 ⟨Nat.le_of_ble_eq_true rfl, Nat.le_of_ble_eq_true rfl⟩ ⟨Nat.le_of_ble_eq_true rfl, Nat.le_of_ble_eq_true rfl⟩ [0, 1] [2, 3] rfl rfl rfl rfl rfl (by decide) 0 rfl rfl rfl hl.1 rfl (Nat.le_of_ble_eq_true rfl) dX12_test_81 (fun u_353 H locs hφ hP hD hS => ?_)
            obtain ⟨I_354, L_355, F_356, G_357⟩ := u_353
            obtain ⟨p_359, p_360⟩ : ((0 ≤ ((I_354 2) : Int) ∧ ((I_354 2) : Int) ≤ (I_354 3)) ∧ (((I_354 3) : Int) ≤ Msz ∧ (Msz : Int) ≤ 900) ∧ (0 ≤ ((I_354 1) : Int) ∧ ((I_354 1) : Int) ≤ 4) ∧ (((I_354 1) : Int) = 0 ∨ ((I_354 2) : Int) < (I_354 3)) ∧ (-1 ≤ ((I_354 4) : Int) ∧ ((I_354 4) : Int) ≤ 100000)) ∧ ((0 ≤ ((I_354 5) : Int) ∧ ((I_354 5) : Int) ≤ 9) ∧ (((I_354 0) : Int) = 0 → 1 ≤ ((I_354 5) : Int)) ∧ (((I_354 0) : Int) = 0 ∨ ((I_354 0) : Int) = 1) ∧ (I_336 2) ≤ (I_354 2)) := hφ
            refine W.eq (g2 := F0 m 84 ls [.int (iZ (I_354 0))]) rfl ?_
            rcases (show ((I_354 0) = 0) ∨ ((I_354 0) = 1) from (by omega)) with s_361 | s_361
            ·
              rw [s_361]
              refine lv_if_eq (tgt := 101) hx hb dX12_test_84 (by decide) (fun _ => ?_) (fun c => absurd (by decide) c)
              refine lv_iconst (v := iZ 0) hx hb dX12_test_101 (by decide) ?_
              exact EWz hx hb hr hlocks hS (fun i => [0, (I_354 1), (I_354 2), (I_354 3), (I_354 4), (I_354 5), (I_354 6)].getD i 0, fun i => [0].getD i 0, fun i => [(F_338 0)].getD i (fun _ => 0), fun i => [].getD i (fun _ => 0)) rfl rfl ⟨(show (0 ≤ ((I_354 2) : Int) ∧ ((I_354 2) : Int) ≤ (I_354 3)) ∧ (((I_354 3) : Int) ≤ Msz ∧ (Msz : Int) ≤ 900) ∧ (0 ≤ ((I_354 1) : Int) ∧ ((I_354 1) : Int) ≤ 4) ∧ (((I_354 1) : Int) = 0 ∨ ((I_354 2) : Int) < (I_354 3)) ∧ (-1 ≤ ((I_354 4) : Int) ∧ ((I_354 4) : Int) ≤ 100000) from ⟨⟨by omega, by omega⟩, ⟨by omega, by omega⟩, ⟨by omega, by omega⟩, by omega, by omega, by omega⟩), (show (0 ≤ ((I_354 5) : Int) ∧ ((I_354 5) : Int) ≤ 9) ∧ ((0 : Int) = 0 → 1 ≤ ((I_354 5) : Int)) ∧ ((0 : Int) = 0 ∨ (0 : Int) = 1) ∧ Mfr ≤ (I_354 2) from ⟨⟨by omega, by omega⟩, fun _ => by omega, by omega, by omega⟩), (show ((0 : Int) = 0 ∧ KP (F_338 0) Af) ∨ ((0 : Int) = 1 ∧ RWR (F_338 0) Af y ∧ (gz (F_338 0) y = 17 → 0 ≤ gz (F_338 0) (y + 1) ∧ gz (F_338 0) (y + 1) < gz Af 0) ∧ (gz (F_338 0) y = 1923 → 0 ≤ gz (F_338 0) (y + 2) ∧ gz (F_338 0) (y + 2) < 6)) from (Or.inl ⟨rfl, (RWR.kp (RWR.tr w_347 w_207) (by omega))⟩))⟩ (hP.sub [2, 3, 0, 1] rfl) (hD.sub [2, 3, 0, 1] rfl rfl) dX12_test_102
            ·
              rw [s_361]
              refine lv_if_eq (tgt := 101) hx hb dX12_test_84 (by decide) (fun c => absurd c (by decide)) (fun _ => ?_)
              refine lv_aload_n hx hb dX12_test_87 rfl (lv_at hl 1 rfl) ?_
              refine lv_iload_n hx hb dX12_test_88 rfl (lv_at hl 2 rfl) ?_
              refine lv_iconst (v := iZ 2) hx hb dX12_test_89 (by decide) ?_
              refine lv_iadd hx hb dX12_test_90 ?_
              refine lv_topi (fun x_364 ex_364 => ?_)
              obtain rfl : x_364 = iZ (y + 2) := ex_364.trans (iZ_add y 2)
              refine CSV (As := [.int (iZ (y + 2))]) (rest := []) (wc := [(hm, .inr (12, [.ref Ma, .ref Mn, .int (iZ Mst), .long Mtp, .long Mbt, .ref Ms, .ref My, .ref Mt, .ref Mp, .ref Mx, .int (iZ Mtd), .int (iZ Msz), .int (iZ (I_354 1)), .int (iZ (I_354 2)), .int (iZ (I_354 3)), .int (iZ (I_354 4)), .int (iZ Mfk), .int (iZ (I_354 6)), .int (iZ (I_354 5)), .int (iZ Mse), .int (iZ Mlt), .ref Mo, .int (iZ Mdp), .int (iZ Mct), .ref Mk, .ref Ml, .ref Mb, .ref Mh, .ref Mc, .int (iZ Mdr), .int (iZ Mrs), .ref Mz, .ref Mr, .ref Mq, .int (iZ Mit), .int (iZ Mmk)])), (Mx, .inl (k 0, 900, .inl Xf)), (Ma, .inl (k 1, 5340, .inl (F_338 0))), (Mn, .inl (k 2, 36, .inr (.inl Nf)))]) (wr := []) hx hb hml hown hts hKK hP hD hS hA hSY hRR (m_rockTo l D k sa sv hm Ma Mn Ms My Mt Mp Mx Mo Mk Ml Mb Mh Mc Mz Mr Mq Mst Mtd Msz (I_354 1) (I_354 2) (I_354 3) (I_354 4) Mfk (I_354 6) (I_354 5) Mse Mlt Mdp Mct Mdr Mrs Mit Mmk Mtp Mbt Xf (F_338 0) Nf (y + 2) ⟨⟨by omega, by omega⟩, ⟨by omega, by omega⟩, ⟨by omega, by omega⟩, by omega, by omega, by omega⟩ ⟨by omega, by omega⟩ ⟨by omega, by omega⟩ ⟨by omega, by omega⟩) ci_X12_rockTo qm_X12_225 ⟨Nat.le_of_ble_eq_true rfl, Nat.le_of_ble_eq_true rfl⟩ ⟨Nat.le_of_ble_eq_true rfl, Nat.le_of_ble_eq_true rfl⟩ [2, 3, 0, 1] [] rfl rfl rfl rfl rfl (by decide) 0 rfl rfl rfl hl.1 rfl (Nat.le_of_ble_eq_true rfl) dX12_test_91 (fun u_365 H locs hφ hP hD hS => ?_)
              obtain ⟨I_366, L_367, F_368, G_369⟩ := u_365
              obtain ⟨p_371, p_372, p_373⟩ : ((0 ≤ ((I_366 2) : Int) ∧ ((I_366 2) : Int) ≤ (I_366 3)) ∧ (((I_366 3) : Int) ≤ Msz ∧ (Msz : Int) ≤ 900) ∧ (0 ≤ ((I_366 1) : Int) ∧ ((I_366 1) : Int) ≤ 4) ∧ (((I_366 1) : Int) = 0 ∨ ((I_366 2) : Int) < (I_366 3)) ∧ (-1 ≤ ((I_366 4) : Int) ∧ ((I_366 4) : Int) ≤ 100000)) ∧ ((0 ≤ ((I_366 5) : Int) ∧ ((I_366 5) : Int) ≤ 9) ∧ (((I_366 0) : Int) = 0 → 1 ≤ ((I_366 5) : Int)) ∧ (((I_366 0) : Int) = 0 ∨ ((I_366 0) : Int) = 1) ∧ (I_354 2) ≤ (I_366 2)) ∧ ((((I_366 0) : Int) = 0 ∧ KP (F_368 0) (F_338 0)) ∨ (((I_366 0) : Int) = 1 ∧ ∃ v6 : Int, 0 ≤ v6 ∧ v6 < gz (F_338 0) 0 ∧ (F_368 0) = upd (F_338 0) (iZ (y + 2)).toNatClampNeg (iZ v6))) := hφ
              refine W.eq (g2 := F0 m 94 ls [.int (iZ (I_366 0))]) rfl ?_
              rcases p_373 with ⟨qt_374, et_374⟩ | ⟨qt_374, vt_374, g1t_374, g2t_374, ht_374⟩
              ·
                rw [qt_374]
                have kp_375 : KP (F_368 0) (F_338 0) := by first | exact et_374 | (rw [et_374]; exact KP.rf _)
                refine lv_if_eq (tgt := 101) hx hb dX12_test_94 (by decide) (fun _ => ?_) (fun c => absurd (by decide) c)
                refine lv_iconst (v := iZ 0) hx hb dX12_test_101 (by decide) ?_
                exact EWz hx hb hr hlocks hS (fun i => [0, (I_366 1), (I_366 2), (I_366 3), (I_366 4), (I_366 5), (I_366 6)].getD i 0, fun i => [0].getD i 0, fun i => [(F_368 0)].getD i (fun _ => 0), fun i => [].getD i (fun _ => 0)) rfl rfl ⟨(show (0 ≤ ((I_366 2) : Int) ∧ ((I_366 2) : Int) ≤ (I_366 3)) ∧ (((I_366 3) : Int) ≤ Msz ∧ (Msz : Int) ≤ 900) ∧ (0 ≤ ((I_366 1) : Int) ∧ ((I_366 1) : Int) ≤ 4) ∧ (((I_366 1) : Int) = 0 ∨ ((I_366 2) : Int) < (I_366 3)) ∧ (-1 ≤ ((I_366 4) : Int) ∧ ((I_366 4) : Int) ≤ 100000) from ⟨⟨by omega, by omega⟩, ⟨by omega, by omega⟩, ⟨by omega, by omega⟩, by omega, by omega, by omega⟩), (show (0 ≤ ((I_366 5) : Int) ∧ ((I_366 5) : Int) ≤ 9) ∧ ((0 : Int) = 0 → 1 ≤ ((I_366 5) : Int)) ∧ ((0 : Int) = 0 ∨ (0 : Int) = 1) ∧ Mfr ≤ (I_366 2) from ⟨⟨by omega, by omega⟩, fun _ => by omega, by omega, by omega⟩), (show ((0 : Int) = 0 ∧ KP (F_368 0) Af) ∨ ((0 : Int) = 1 ∧ RWR (F_368 0) Af y ∧ (gz (F_368 0) y = 17 → 0 ≤ gz (F_368 0) (y + 1) ∧ gz (F_368 0) (y + 1) < gz Af 0) ∧ (gz (F_368 0) y = 1923 → 0 ≤ gz (F_368 0) (y + 2) ∧ gz (F_368 0) (y + 2) < 6)) from (Or.inl ⟨rfl, (KP.tr kp_375 (RWR.kp (RWR.tr w_347 w_207) (by omega)))⟩))⟩ (hP.sub [0, 1, 2, 3] rfl) (hD.sub [0, 1, 2, 3] rfl rfl) dX12_test_102
              ·
                rw [qt_374]
                have w_377 := RWR.up (y := y) ht_374 (by omega) (by omega) ⟨by omega, by omega⟩
                have uu_378 := gz_upc (j := y) ht_374 ⟨by omega, by omega⟩ ⟨by omega, by omega⟩ (by omega)
                have uu_379 := gz_upc (j := (y + 1)) ht_374 ⟨by omega, by omega⟩ ⟨by omega, by omega⟩ (by omega)
                have uu_380 := gz_upc (j := (y + 2)) ht_374 ⟨by omega, by omega⟩ ⟨by omega, by omega⟩ (by omega)
                have uu_381 := gz_upc (j := 0) ht_374 ⟨by omega, by omega⟩ ⟨by omega, by omega⟩ (by omega)
                refine lv_if_eq (tgt := 101) hx hb dX12_test_94 (by decide) (fun c => absurd c (by decide)) (fun _ => ?_)
                refine lv_iconst (v := iZ 1) hx hb dX12_test_97 (by decide) ?_
                refine lv_goto (tgt := 102) hx hb dX12_test_98 (by decide) ?_
                exact EWz hx hb hr hlocks hS (fun i => [1, (I_366 1), (I_366 2), (I_366 3), (I_366 4), (I_366 5), (I_366 6)].getD i 0, fun i => [0].getD i 0, fun i => [(F_368 0)].getD i (fun _ => 0), fun i => [].getD i (fun _ => 0)) rfl rfl ⟨(show (0 ≤ ((I_366 2) : Int) ∧ ((I_366 2) : Int) ≤ (I_366 3)) ∧ (((I_366 3) : Int) ≤ Msz ∧ (Msz : Int) ≤ 900) ∧ (0 ≤ ((I_366 1) : Int) ∧ ((I_366 1) : Int) ≤ 4) ∧ (((I_366 1) : Int) = 0 ∨ ((I_366 2) : Int) < (I_366 3)) ∧ (-1 ≤ ((I_366 4) : Int) ∧ ((I_366 4) : Int) ≤ 100000) from ⟨⟨by omega, by omega⟩, ⟨by omega, by omega⟩, ⟨by omega, by omega⟩, by omega, by omega, by omega⟩), (show (0 ≤ ((I_366 5) : Int) ∧ ((I_366 5) : Int) ≤ 9) ∧ ((1 : Int) = 0 → 1 ≤ ((I_366 5) : Int)) ∧ ((1 : Int) = 0 ∨ (1 : Int) = 1) ∧ Mfr ≤ (I_366 2) from ⟨⟨by omega, by omega⟩, fun _ => by omega, by omega, by omega⟩), (show ((1 : Int) = 0 ∧ KP (F_368 0) Af) ∨ ((1 : Int) = 1 ∧ RWR (F_368 0) Af y ∧ (gz (F_368 0) y = 17 → 0 ≤ gz (F_368 0) (y + 1) ∧ gz (F_368 0) (y + 1) < gz Af 0) ∧ (gz (F_368 0) y = 1923 → 0 ≤ gz (F_368 0) (y + 2) ∧ gz (F_368 0) (y + 2) < 6)) from (Or.inr ⟨rfl, (RWR.tr w_377 (RWR.tr w_347 w_207)), fun h9 => by omega, fun h9 => by omega⟩))⟩ (hP.sub [0, 1, 2, 3] rfl) (hD.sub [0, 1, 2, 3] rfl rfl) dX12_test_102
      ·
        have c_220 := (zeq (x := iZ (I_2 0)) (y := iZ 9) rfl rfl ⟨by omega, by omega⟩ ⟨by omega, by omega⟩).mp c_220
        refine lv_aload_n hx hb dX12_test_52 rfl (lv_at hl 1 rfl) ?_
        refine lv_iload_n hx hb dX12_test_53 rfl (lv_at hl 2 rfl) ?_
        refine lv_iconst (v := iZ 1) hx hb dX12_test_54 (by decide) ?_
        refine lv_iadd hx hb dX12_test_55 ?_
        refine lv_topi (fun x_383 ex_383 => ?_)
        obtain rfl : x_383 = iZ (y + 1) := ex_383.trans (iZ_add y 1)
        refine CSV (As := [.int (iZ (y + 1))]) (rest := []) (wc := [(hm, .inr (12, [.ref Ma, .ref Mn, .int (iZ Mst), .long Mtp, .long Mbt, .ref Ms, .ref My, .ref Mt, .ref Mp, .ref Mx, .int (iZ Mtd), .int (iZ Msz), .int (iZ (I_213 1)), .int (iZ (I_213 2)), .int (iZ (I_213 3)), .int (iZ (I_213 4)), .int (iZ Mfk), .int (iZ Mfp), .int (iZ Mfs), .int (iZ Mse), .int (iZ Mlt), .ref Mo, .int (iZ Mdp), .int (iZ Mct), .ref Mk, .ref Ml, .ref Mb, .ref Mh, .ref Mc, .int (iZ Mdr), .int (iZ Mrs), .ref Mz, .ref Mr, .ref Mq, .int (iZ Mit), .int (iZ Mmk)])), (Mx, .inl (k 0, 900, .inl Xf)), (Ma, .inl (k 1, 5340, .inl f_206)), (Mn, .inl (k 2, 36, .inr (.inl Nf)))]) (wr := []) hx hb hml hown hts hKK hP hD hS hA hSY hRR (m_rockTo l D k sa sv hm Ma Mn Ms My Mt Mp Mx Mo Mk Ml Mb Mh Mc Mz Mr Mq Mst Mtd Msz (I_213 1) (I_213 2) (I_213 3) (I_213 4) Mfk Mfp Mfs Mse Mlt Mdp Mct Mdr Mrs Mit Mmk Mtp Mbt Xf f_206 Nf (y + 1) ⟨⟨by omega, by omega⟩, ⟨by omega, by omega⟩, ⟨by omega, by omega⟩, by omega, by omega, by omega⟩ ⟨by omega, by omega⟩ ⟨by omega, by omega⟩ ⟨by omega, by omega⟩) ci_X12_rockTo qm_X12_225 ⟨Nat.le_of_ble_eq_true rfl, Nat.le_of_ble_eq_true rfl⟩ ⟨Nat.le_of_ble_eq_true rfl, Nat.le_of_ble_eq_true rfl⟩ [2, 3, 0, 1] [] rfl rfl rfl rfl rfl (by decide) 0 rfl rfl rfl hl.1 rfl (Nat.le_of_ble_eq_true rfl) dX12_test_56 (fun u_384 H locs hφ hP hD hS => ?_)
        obtain ⟨I_385, L_386, F_387, G_388⟩ := u_384
        obtain ⟨p_390, p_391, p_392⟩ : ((0 ≤ ((I_385 2) : Int) ∧ ((I_385 2) : Int) ≤ (I_385 3)) ∧ (((I_385 3) : Int) ≤ Msz ∧ (Msz : Int) ≤ 900) ∧ (0 ≤ ((I_385 1) : Int) ∧ ((I_385 1) : Int) ≤ 4) ∧ (((I_385 1) : Int) = 0 ∨ ((I_385 2) : Int) < (I_385 3)) ∧ (-1 ≤ ((I_385 4) : Int) ∧ ((I_385 4) : Int) ≤ 100000)) ∧ ((0 ≤ ((I_385 5) : Int) ∧ ((I_385 5) : Int) ≤ 9) ∧ (((I_385 0) : Int) = 0 → 1 ≤ ((I_385 5) : Int)) ∧ (((I_385 0) : Int) = 0 ∨ ((I_385 0) : Int) = 1) ∧ (I_213 2) ≤ (I_385 2)) ∧ ((((I_385 0) : Int) = 0 ∧ KP (F_387 0) f_206) ∨ (((I_385 0) : Int) = 1 ∧ ∃ v6 : Int, 0 ≤ v6 ∧ v6 < gz f_206 0 ∧ (F_387 0) = upd f_206 (iZ (y + 1)).toNatClampNeg (iZ v6))) := hφ
        refine W.eq (g2 := F0 m 59 ls [.int (iZ (I_385 0))]) rfl ?_
        rcases p_392 with ⟨qt_393, et_393⟩ | ⟨qt_393, vt_393, g1t_393, g2t_393, ht_393⟩
        ·
          rw [qt_393]
          have kp_394 : KP (F_387 0) f_206 := by first | exact et_393 | (rw [et_393]; exact KP.rf _)
          exact EWz hx hb hr hlocks hS (fun i => [0, (I_385 1), (I_385 2), (I_385 3), (I_385 4), (I_385 5), (I_385 6)].getD i 0, fun i => [0].getD i 0, fun i => [(F_387 0)].getD i (fun _ => 0), fun i => [].getD i (fun _ => 0)) rfl rfl ⟨(show (0 ≤ ((I_385 2) : Int) ∧ ((I_385 2) : Int) ≤ (I_385 3)) ∧ (((I_385 3) : Int) ≤ Msz ∧ (Msz : Int) ≤ 900) ∧ (0 ≤ ((I_385 1) : Int) ∧ ((I_385 1) : Int) ≤ 4) ∧ (((I_385 1) : Int) = 0 ∨ ((I_385 2) : Int) < (I_385 3)) ∧ (-1 ≤ ((I_385 4) : Int) ∧ ((I_385 4) : Int) ≤ 100000) from ⟨⟨by omega, by omega⟩, ⟨by omega, by omega⟩, ⟨by omega, by omega⟩, by omega, by omega, by omega⟩), (show (0 ≤ ((I_385 5) : Int) ∧ ((I_385 5) : Int) ≤ 9) ∧ ((0 : Int) = 0 → 1 ≤ ((I_385 5) : Int)) ∧ ((0 : Int) = 0 ∨ (0 : Int) = 1) ∧ Mfr ≤ (I_385 2) from ⟨⟨by omega, by omega⟩, fun _ => by omega, by omega, by omega⟩), (show ((0 : Int) = 0 ∧ KP (F_387 0) Af) ∨ ((0 : Int) = 1 ∧ RWR (F_387 0) Af y ∧ (gz (F_387 0) y = 17 → 0 ≤ gz (F_387 0) (y + 1) ∧ gz (F_387 0) (y + 1) < gz Af 0) ∧ (gz (F_387 0) y = 1923 → 0 ≤ gz (F_387 0) (y + 2) ∧ gz (F_387 0) (y + 2) < 6)) from (Or.inl ⟨rfl, (KP.tr kp_394 (RWR.kp w_207 (by omega)))⟩))⟩ (hP.sub [0, 1, 2, 3] rfl) (hD.sub [0, 1, 2, 3] rfl rfl) dX12_test_59
        ·
          rw [qt_393]
          have w_395 := RWR.up (y := y) ht_393 (by omega) (by omega) ⟨by omega, by omega⟩
          have uu_396 := gz_upc (j := y) ht_393 ⟨by omega, by omega⟩ ⟨by omega, by omega⟩ (by omega)
          have uu_397 := gz_upc (j := (y + 1)) ht_393 ⟨by omega, by omega⟩ ⟨by omega, by omega⟩ (by omega)
          have uu_398 := gz_upc (j := (y + 2)) ht_393 ⟨by omega, by omega⟩ ⟨by omega, by omega⟩ (by omega)
          have uu_399 := gz_upc (j := 0) ht_393 ⟨by omega, by omega⟩ ⟨by omega, by omega⟩ (by omega)
          exact EWz hx hb hr hlocks hS (fun i => [1, (I_385 1), (I_385 2), (I_385 3), (I_385 4), (I_385 5), (I_385 6)].getD i 0, fun i => [0].getD i 0, fun i => [(F_387 0)].getD i (fun _ => 0), fun i => [].getD i (fun _ => 0)) rfl rfl ⟨(show (0 ≤ ((I_385 2) : Int) ∧ ((I_385 2) : Int) ≤ (I_385 3)) ∧ (((I_385 3) : Int) ≤ Msz ∧ (Msz : Int) ≤ 900) ∧ (0 ≤ ((I_385 1) : Int) ∧ ((I_385 1) : Int) ≤ 4) ∧ (((I_385 1) : Int) = 0 ∨ ((I_385 2) : Int) < (I_385 3)) ∧ (-1 ≤ ((I_385 4) : Int) ∧ ((I_385 4) : Int) ≤ 100000) from ⟨⟨by omega, by omega⟩, ⟨by omega, by omega⟩, ⟨by omega, by omega⟩, by omega, by omega, by omega⟩), (show (0 ≤ ((I_385 5) : Int) ∧ ((I_385 5) : Int) ≤ 9) ∧ ((1 : Int) = 0 → 1 ≤ ((I_385 5) : Int)) ∧ ((1 : Int) = 0 ∨ (1 : Int) = 1) ∧ Mfr ≤ (I_385 2) from ⟨⟨by omega, by omega⟩, fun _ => by omega, by omega, by omega⟩), (show ((1 : Int) = 0 ∧ KP (F_387 0) Af) ∨ ((1 : Int) = 1 ∧ RWR (F_387 0) Af y ∧ (gz (F_387 0) y = 17 → 0 ≤ gz (F_387 0) (y + 1) ∧ gz (F_387 0) (y + 1) < gz Af 0) ∧ (gz (F_387 0) y = 1923 → 0 ≤ gz (F_387 0) (y + 2) ∧ gz (F_387 0) (y + 2) < 6)) from (Or.inr ⟨rfl, (RWR.tr w_395 w_207), fun h9 => by omega, fun h9 => by omega⟩))⟩ (hP.sub [0, 1, 2, 3] rfl) (hD.sub [0, 1, 2, 3] rfl rfl) dX12_test_59
    ·
      have c_204 := mt (zeq (x := iZ (I_2 0)) (y := iZ 9) rfl rfl ⟨by omega, by omega⟩ ⟨by omega, by omega⟩).mpr c_204
      refine lv_iload_n hx hb dX12_test_19 rfl (lv_at hl 0 rfl) ?_
      refine lv_bipush (v := iZ 23) hx hb dX12_test_20 (by decide) ?_
      refine lv_icmp_eq (tgt := 31) hx hb dX12_test_22 (by decide) (fun c_400 => ?_) (fun c_400 => ?_)
      ·
        have c_400 := (zeq (x := iZ (I_2 0)) (y := iZ 23) rfl rfl ⟨by omega, by omega⟩ ⟨by omega, by omega⟩).mp c_400
        refine lv_aload_n hx hb dX12_test_31 rfl (lv_at hl 1 rfl) ?_
        refine va_get (D := D) (ci := 12) (v := .ref Ma) (C := RX12) (T := TX12) (N := 36) hx hb hts iX12 hown hK hP 2 rfl rfl 0 (by decide) (hts _ qf_X12_7) (fun _ h => h) rfl dX12_test_32 ?_
        refine lv_iload_n hx hb dX12_test_35 rfl (lv_at hl 2 rfl) ?_
        refine lv_sipush (v := iZ 1900) hx hb dX12_test_36 (by decide) ?_
        refine lv_iload_n hx hb dX12_test_39 rfl (lv_at hl 0 rfl) ?_
        refine lv_iadd hx hb dX12_test_40 ?_
        refine lv_topi (fun x_401 ex_401 => ?_)
        obtain rfl : x_401 = iZ (1900 + (I_2 0)) := ex_401.trans (iZ_add 1900 (I_2 0))
        refine va_iast hx hb hK hP hD hS 0 1 rfl rfl (zin (e := y) (n := 5340) ⟨by omega, by omega⟩ (by decide)) dX12_test_41 (fun H locs hP hD hS => ?_)
        obtain ⟨f_402, hf_402⟩ : ∃ gg9, gg9 = upd Af (iZ y).toNatClampNeg (iZ (1900 + (I_2 0))) := ⟨_, rfl⟩
        rw [← hf_402] at hP hD
        have w_403 := RWR.up (y := y) hf_402 (by omega) (by omega) ⟨by omega, by omega⟩
        have uu_404 := gz_upc (j := y) hf_402 ⟨by omega, by omega⟩ ⟨by omega, by omega⟩ (by omega)
        have uu_405 := gz_upc (j := (y + 1)) hf_402 ⟨by omega, by omega⟩ ⟨by omega, by omega⟩ (by omega)
        have uu_406 := gz_upc (j := (y + 2)) hf_402 ⟨by omega, by omega⟩ ⟨by omega, by omega⟩ (by omega)
        have uu_407 := gz_upc (j := 0) hf_402 ⟨by omega, by omega⟩ ⟨by omega, by omega⟩ (by omega)
        refine lv_aload_n hx hb dX12_test_42 rfl (lv_at hl 1 rfl) ?_
        refine CWV (As := []) (rest := []) (wc := [(hm, .inr (12, [.ref Ma, .ref Mn, .int (iZ Mst), .long Mtp, .long Mbt, .ref Ms, .ref My, .ref Mt, .ref Mp, .ref Mx, .int (iZ Mtd), .int (iZ Msz), .int (iZ Mtk), .int (iZ Mfr), .int (iZ Men), .int (iZ Mva), .int (iZ Mfk), .int (iZ Mfp), .int (iZ Mfs), .int (iZ Mse), .int (iZ Mlt), .ref Mo, .int (iZ Mdp), .int (iZ Mct), .ref Mk, .ref Ml, .ref Mb, .ref Mh, .ref Mc, .int (iZ Mdr), .int (iZ Mrs), .ref Mz, .ref Mr, .ref Mq, .int (iZ Mit), .int (iZ Mmk)])), (Mx, .inl (k 0, 900, .inl Xf))]) (wr := [(Ma, .inl (k 1, 5340, .inl f_402)), (Mn, .inl (k 2, 36, .inr (.inl Nf)))]) hx hb hml hown hts hKK hP hD hS hA (m_onward l D k hm Ma Mn Ms My Mt Mp Mx Mo Mk Ml Mb Mh Mc Mz Mr Mq Mst Mtd Msz Mtk Mfr Men Mva Mfk Mfp Mfs Mse Mlt Mdp Mct Mdr Mrs Mit Mmk Mtp Mbt Xf ⟨⟨by omega, by omega⟩, by omega⟩) ci_X12_onward qm_X12_158 ⟨Nat.le_of_ble_eq_true rfl, Nat.le_of_ble_eq_true rfl⟩ ⟨Nat.le_of_ble_eq_true rfl, Nat.le_of_ble_eq_true rfl⟩ [2, 3] [0, 1] rfl rfl rfl rfl rfl (by decide) 0 rfl rfl rfl hl.1 rfl (Nat.le_of_ble_eq_true rfl) dX12_test_43 (fun u_408 H locs hφ hP hD hS => ?_)
        obtain ⟨I_409, L_410, F_411, G_412⟩ := u_408
        obtain ⟨p_414, p_415⟩ : ((0 ≤ ((I_409 2) : Int) ∧ ((I_409 2) : Int) ≤ (I_409 3)) ∧ (((I_409 3) : Int) ≤ Msz ∧ (Msz : Int) ≤ 900) ∧ (0 ≤ ((I_409 1) : Int) ∧ ((I_409 1) : Int) ≤ 4) ∧ (((I_409 1) : Int) = 0 ∨ ((I_409 2) : Int) < (I_409 3)) ∧ (-1 ≤ ((I_409 4) : Int) ∧ ((I_409 4) : Int) ≤ 100000)) ∧ (Men ≤ (I_409 2)) := hφ
        refine W.eq (g2 := F0 m 46 ls []) rfl ?_
        refine lv_iload_n hx hb dX12_test_46 rfl (lv_at hl 0 rfl) ?_
        refine lv_bipush (v := iZ 9) hx hb dX12_test_47 (by decide) ?_
        refine lv_icmp_ne (tgt := 60) hx hb dX12_test_49 (by decide) (fun c_416 => ?_) (fun c_416 => ?_)
        ·
          have c_416 := mt (zeq (x := iZ (I_2 0)) (y := iZ 9) rfl rfl ⟨by omega, by omega⟩ ⟨by omega, by omega⟩).mpr c_416
          refine lv_iload_n hx hb dX12_test_60 rfl (lv_at hl 0 rfl) ?_
          refine lv_bipush (v := iZ 23) hx hb dX12_test_61 (by decide) ?_
          refine lv_icmp_ne (tgt := 103) hx hb dX12_test_63 (by decide) (fun c_417 => ?_) (fun c_417 => ?_)
          ·
            have c_417 := mt (zeq (x := iZ (I_2 0)) (y := iZ 23) rfl rfl ⟨by omega, by omega⟩ ⟨by omega, by omega⟩).mpr c_417
            refine lv_aload_n hx hb dX12_test_103 rfl (lv_at hl 1 rfl) ?_
            refine lv_bipush (v := iZ 60) hx hb dX12_test_104 (by decide) ?_
            refine CPV (As := [.int (iZ 60)]) (rest := []) hx hb hml hown hts hKK (hP.sub (ws' := [(hm, .inr (12, [.ref Ma, .ref Mn, .int (iZ Mst), .long Mtp, .long Mbt, .ref Ms, .ref My, .ref Mt, .ref Mp, .ref Mx, .int (iZ Mtd), .int (iZ Msz), .int (iZ (I_409 1)), .int (iZ (I_409 2)), .int (iZ (I_409 3)), .int (iZ (I_409 4)), .int (iZ Mfk), .int (iZ Mfp), .int (iZ Mfs), .int (iZ Mse), .int (iZ Mlt), .ref Mo, .int (iZ Mdp), .int (iZ Mct), .ref Mk, .ref Ml, .ref Mb, .ref Mh, .ref Mc, .int (iZ Mdr), .int (iZ Mrs), .ref Mz, .ref Mr, .ref Mq, .int (iZ Mit), .int (iZ Mmk)]))]) [2] rfl) (m_isSign l D k ([.ref Ma, .ref Mn, .int (iZ Mst), .long Mtp, .long Mbt, .ref Ms, .ref My, .ref Mt, .ref Mp, .ref Mx, .int (iZ Mtd), .int (iZ Msz), .int (iZ (I_409 1)), .int (iZ (I_409 2)), .int (iZ (I_409 3)), .int (iZ (I_409 4)), .int (iZ Mfk), .int (iZ Mfp), .int (iZ Mfs), .int (iZ Mse), .int (iZ Mlt), .ref Mo, .int (iZ Mdp), .int (iZ Mct), .ref Mk, .ref Ml, .ref Mb, .ref Mh, .ref Mc, .int (iZ Mdr), .int (iZ Mrs), .ref Mz, .ref Mr, .ref Mq, .int (iZ Mit), .int (iZ Mmk)]) hm (I_409 1) (I_409 4) 60 rfl rfl ⟨by omega, by omega⟩ ⟨by omega, by omega⟩ ⟨by omega, by omega⟩) ci_X12_isSign qm_X12_161 ⟨Nat.le_of_ble_eq_true rfl, Nat.le_of_ble_eq_true rfl⟩ ⟨Nat.le_of_ble_eq_true rfl, Nat.le_of_ble_eq_true rfl⟩ 0 rfl rfl rfl hl.1 rfl (Nat.le_of_ble_eq_true rfl) dX12_test_106 (fun z_418 hz_418 => ?_)
            rcases hz_418 with ⟨qz_418, hz_418⟩ | ⟨qz_418, hz_418⟩
            ·
              subst qz_418
              refine lv_if_ne (tgt := 136) hx hb dX12_test_109 (by decide) (fun _ => ?_) (fun c => absurd c (by decide))
              refine lv_aload_n hx hb dX12_test_136 rfl (lv_at hl 1 rfl) ?_
              refine va_get (D := D) (ci := 12) (v := .ref Ma) (C := RX12) (T := TX12) (N := 36) hx hb hts iX12 hown hK hP 2 rfl rfl 0 (by decide) (hts _ qf_X12_7) (fun _ h => h) rfl dX12_test_137 ?_
              refine lv_iload_n hx hb dX12_test_140 rfl (lv_at hl 2 rfl) ?_
              refine lv_iconst (v := iZ 5) hx hb dX12_test_141 (by decide) ?_
              refine lv_iadd hx hb dX12_test_142 ?_
              refine lv_topi (fun x_420 ex_420 => ?_)
              obtain rfl : x_420 = iZ (y + 5) := ex_420.trans (iZ_add y 5)
              refine lv_aload_n hx hb dX12_test_143 rfl (lv_at hl 1 rfl) ?_
              refine va_get (D := D) (ci := 12) (v := .int (iZ (I_409 4))) (C := RX12) (T := TX12) (N := 36) hx hb hts iX12 hown hK hP 2 rfl rfl 15 (by decide) (hts _ qf_X12_124) (fun _ h => h) rfl dX12_test_144 ?_
              refine va_iast hx hb hK hP hD hS 0 1 rfl rfl (zin (e := (y + 5)) (n := 5340) ⟨by omega, by omega⟩ (by decide)) dX12_test_147 (fun H locs hP hD hS => ?_)
              obtain ⟨f_421, hf_421⟩ : ∃ gg9, gg9 = upd f_402 (iZ (y + 5)).toNatClampNeg (iZ (I_409 4)) := ⟨_, rfl⟩
              rw [← hf_421] at hP hD
              have w_422 := RWR.up (y := y) hf_421 (by omega) (by omega) ⟨by omega, by omega⟩
              have uu_423 := gz_upc (j := y) hf_421 ⟨by omega, by omega⟩ ⟨by omega, by omega⟩ (by omega)
              have uu_424 := gz_upc (j := (y + 1)) hf_421 ⟨by omega, by omega⟩ ⟨by omega, by omega⟩ (by omega)
              have uu_425 := gz_upc (j := (y + 2)) hf_421 ⟨by omega, by omega⟩ ⟨by omega, by omega⟩ (by omega)
              have uu_426 := gz_upc (j := 0) hf_421 ⟨by omega, by omega⟩ ⟨by omega, by omega⟩ (by omega)
              refine lv_aload_n hx hb dX12_test_148 rfl (lv_at hl 1 rfl) ?_
              refine CWV (As := []) (rest := []) (wc := [(hm, .inr (12, [.ref Ma, .ref Mn, .int (iZ Mst), .long Mtp, .long Mbt, .ref Ms, .ref My, .ref Mt, .ref Mp, .ref Mx, .int (iZ Mtd), .int (iZ Msz), .int (iZ (I_409 1)), .int (iZ (I_409 2)), .int (iZ (I_409 3)), .int (iZ (I_409 4)), .int (iZ Mfk), .int (iZ Mfp), .int (iZ Mfs), .int (iZ Mse), .int (iZ Mlt), .ref Mo, .int (iZ Mdp), .int (iZ Mct), .ref Mk, .ref Ml, .ref Mb, .ref Mh, .ref Mc, .int (iZ Mdr), .int (iZ Mrs), .ref Mz, .ref Mr, .ref Mq, .int (iZ Mit), .int (iZ Mmk)])), (Mx, .inl (k 0, 900, .inl Xf))]) (wr := [(Ma, .inl (k 1, 5340, .inl f_421)), (Mn, .inl (k 2, 36, .inr (.inl Nf)))]) hx hb hml hown hts hKK hP hD hS hA (m_onward l D k hm Ma Mn Ms My Mt Mp Mx Mo Mk Ml Mb Mh Mc Mz Mr Mq Mst Mtd Msz (I_409 1) (I_409 2) (I_409 3) (I_409 4) Mfk Mfp Mfs Mse Mlt Mdp Mct Mdr Mrs Mit Mmk Mtp Mbt Xf ⟨⟨by omega, by omega⟩, by omega⟩) ci_X12_onward qm_X12_158 ⟨Nat.le_of_ble_eq_true rfl, Nat.le_of_ble_eq_true rfl⟩ ⟨Nat.le_of_ble_eq_true rfl, Nat.le_of_ble_eq_true rfl⟩ [2, 3] [0, 1] rfl rfl rfl rfl rfl (by decide) 0 rfl rfl rfl hl.1 rfl (Nat.le_of_ble_eq_true rfl) dX12_test_149 (fun u_427 H locs hφ hP hD hS => ?_)
              obtain ⟨I_428, L_429, F_430, G_431⟩ := u_427
              obtain ⟨p_433, p_434⟩ : ((0 ≤ ((I_428 2) : Int) ∧ ((I_428 2) : Int) ≤ (I_428 3)) ∧ (((I_428 3) : Int) ≤ Msz ∧ (Msz : Int) ≤ 900) ∧ (0 ≤ ((I_428 1) : Int) ∧ ((I_428 1) : Int) ≤ 4) ∧ (((I_428 1) : Int) = 0 ∨ ((I_428 2) : Int) < (I_428 3)) ∧ (-1 ≤ ((I_428 4) : Int) ∧ ((I_428 4) : Int) ≤ 100000)) ∧ ((I_409 3) ≤ (I_428 2)) := hφ
              refine W.eq (g2 := F0 m 152 ls []) rfl ?_
              refine lv_aload_n hx hb dX12_test_152 rfl (lv_at hl 1 rfl) ?_
              refine lv_iload_n hx hb dX12_test_153 rfl (lv_at hl 2 rfl) ?_
              refine lv_iconst (v := iZ 1) hx hb dX12_test_154 (by decide) ?_
              refine lv_iadd hx hb dX12_test_155 ?_
              refine lv_topi (fun x_435 ex_435 => ?_)
              obtain rfl : x_435 = iZ (y + 1) := ex_435.trans (iZ_add y 1)
              refine lv_iconst (v := iZ 0) hx hb dX12_test_156 (by decide) ?_
              refine lv_sipush (v := iZ 400) hx hb dX12_test_157 (by decide) ?_
              refine CWV (As := [.int (iZ (y + 1)), .int (iZ 0), .int (iZ 400)]) (rest := []) (wc := [(hm, .inr (12, [.ref Ma, .ref Mn, .int (iZ Mst), .long Mtp, .long Mbt, .ref Ms, .ref My, .ref Mt, .ref Mp, .ref Mx, .int (iZ Mtd), .int (iZ Msz), .int (iZ (I_428 1)), .int (iZ (I_428 2)), .int (iZ (I_428 3)), .int (iZ (I_428 4)), .int (iZ Mfk), .int (iZ Mfp), .int (iZ Mfs), .int (iZ Mse), .int (iZ Mlt), .ref Mo, .int (iZ Mdp), .int (iZ Mct), .ref Mk, .ref Ml, .ref Mb, .ref Mh, .ref Mc, .int (iZ Mdr), .int (iZ Mrs), .ref Mz, .ref Mr, .ref Mq, .int (iZ Mit), .int (iZ Mmk)])), (Mx, .inl (k 0, 900, .inl Xf)), (Ma, .inl (k 1, 5340, .inl f_421))]) (wr := [(Mn, .inl (k 2, 36, .inr (.inl Nf)))]) hx hb hml hown hts hKK hP hD hS hA (m_number l D k hm Ma Mn Ms My Mt Mp Mx Mo Mk Ml Mb Mh Mc Mz Mr Mq Mst Mtd Msz (I_428 1) (I_428 2) (I_428 3) (I_428 4) Mfk Mfp Mfs Mse Mlt Mdp Mct Mdr Mrs Mit Mmk Mtp Mbt Xf f_421 (y + 1) 0 400 ⟨⟨by omega, by omega⟩, ⟨by omega, by omega⟩, ⟨by omega, by omega⟩, by omega, by omega, by omega⟩ ⟨by omega, by omega⟩ ⟨by omega, by omega⟩ ⟨by omega, by omega⟩ ⟨by omega, by omega⟩) ci_X12_number qm_X12_188 ⟨Nat.le_of_ble_eq_true rfl, Nat.le_of_ble_eq_true rfl⟩ ⟨Nat.le_of_ble_eq_true rfl, Nat.le_of_ble_eq_true rfl⟩ [2, 3, 0] [1] rfl rfl rfl rfl rfl (by decide) 0 rfl rfl rfl hl.1 rfl (Nat.le_of_ble_eq_true rfl) dX12_test_160 (fun u_436 H locs hφ hP hD hS => ?_)
              obtain ⟨I_437, L_438, F_439, G_440⟩ := u_436
              obtain ⟨p_442, p_443, p_444⟩ : ((0 ≤ ((I_437 2) : Int) ∧ ((I_437 2) : Int) ≤ (I_437 3)) ∧ (((I_437 3) : Int) ≤ Msz ∧ (Msz : Int) ≤ 900) ∧ (0 ≤ ((I_437 1) : Int) ∧ ((I_437 1) : Int) ≤ 4) ∧ (((I_437 1) : Int) = 0 ∨ ((I_437 2) : Int) < (I_437 3)) ∧ (-1 ≤ ((I_437 4) : Int) ∧ ((I_437 4) : Int) ≤ 100000)) ∧ ((0 ≤ ((I_437 5) : Int) ∧ ((I_437 5) : Int) ≤ 9) ∧ (((I_437 0) : Int) = 0 → 1 ≤ ((I_437 5) : Int)) ∧ (((I_437 0) : Int) = 0 ∨ ((I_437 0) : Int) = 1) ∧ (I_428 2) ≤ (I_437 2)) ∧ ((((I_437 0) : Int) = 0 ∧ (F_439 0) = f_421) ∨ (((I_437 0) : Int) = 1 ∧ ∃ v6 : Int, 0 ≤ v6 ∧ v6 ≤ 400 ∧ (F_439 0) = upd f_421 (iZ (y + 1)).toNatClampNeg (iZ v6))) := hφ
              refine W.eq (g2 := F0 m 163 ls [.int (iZ (I_437 0))]) rfl ?_
              rcases p_444 with ⟨qt_445, et_445⟩ | ⟨qt_445, vt_445, g1t_445, g2t_445, ht_445⟩
              ·
                rw [qt_445]
                have kp_446 : KP (F_439 0) f_421 := by first | exact et_445 | (rw [et_445]; exact KP.rf _)
                exact EWz hx hb hr hlocks hS (fun i => [0, (I_437 1), (I_437 2), (I_437 3), (I_437 4), (I_437 5), (I_437 6)].getD i 0, fun i => [0].getD i 0, fun i => [(F_439 0)].getD i (fun _ => 0), fun i => [].getD i (fun _ => 0)) rfl rfl ⟨(show (0 ≤ ((I_437 2) : Int) ∧ ((I_437 2) : Int) ≤ (I_437 3)) ∧ (((I_437 3) : Int) ≤ Msz ∧ (Msz : Int) ≤ 900) ∧ (0 ≤ ((I_437 1) : Int) ∧ ((I_437 1) : Int) ≤ 4) ∧ (((I_437 1) : Int) = 0 ∨ ((I_437 2) : Int) < (I_437 3)) ∧ (-1 ≤ ((I_437 4) : Int) ∧ ((I_437 4) : Int) ≤ 100000) from ⟨⟨by omega, by omega⟩, ⟨by omega, by omega⟩, ⟨by omega, by omega⟩, by omega, by omega, by omega⟩), (show (0 ≤ ((I_437 5) : Int) ∧ ((I_437 5) : Int) ≤ 9) ∧ ((0 : Int) = 0 → 1 ≤ ((I_437 5) : Int)) ∧ ((0 : Int) = 0 ∨ (0 : Int) = 1) ∧ Mfr ≤ (I_437 2) from ⟨⟨by omega, by omega⟩, fun _ => by omega, by omega, by omega⟩), (show ((0 : Int) = 0 ∧ KP (F_439 0) Af) ∨ ((0 : Int) = 1 ∧ RWR (F_439 0) Af y ∧ (gz (F_439 0) y = 17 → 0 ≤ gz (F_439 0) (y + 1) ∧ gz (F_439 0) (y + 1) < gz Af 0) ∧ (gz (F_439 0) y = 1923 → 0 ≤ gz (F_439 0) (y + 2) ∧ gz (F_439 0) (y + 2) < 6)) from (Or.inl ⟨rfl, (KP.tr kp_446 (RWR.kp (RWR.tr w_422 w_403) (by omega)))⟩))⟩ (hP.sub [1, 2, 3, 0] rfl) (hD.sub [1, 2, 3, 0] rfl rfl) dX12_test_163
              ·
                rw [qt_445]
                have w_447 := RWR.up (y := y) ht_445 (by omega) (by omega) ⟨by omega, by omega⟩
                have uu_448 := gz_upc (j := y) ht_445 ⟨by omega, by omega⟩ ⟨by omega, by omega⟩ (by omega)
                have uu_449 := gz_upc (j := (y + 1)) ht_445 ⟨by omega, by omega⟩ ⟨by omega, by omega⟩ (by omega)
                have uu_450 := gz_upc (j := (y + 2)) ht_445 ⟨by omega, by omega⟩ ⟨by omega, by omega⟩ (by omega)
                have uu_451 := gz_upc (j := 0) ht_445 ⟨by omega, by omega⟩ ⟨by omega, by omega⟩ (by omega)
                exact EWz hx hb hr hlocks hS (fun i => [1, (I_437 1), (I_437 2), (I_437 3), (I_437 4), (I_437 5), (I_437 6)].getD i 0, fun i => [0].getD i 0, fun i => [(F_439 0)].getD i (fun _ => 0), fun i => [].getD i (fun _ => 0)) rfl rfl ⟨(show (0 ≤ ((I_437 2) : Int) ∧ ((I_437 2) : Int) ≤ (I_437 3)) ∧ (((I_437 3) : Int) ≤ Msz ∧ (Msz : Int) ≤ 900) ∧ (0 ≤ ((I_437 1) : Int) ∧ ((I_437 1) : Int) ≤ 4) ∧ (((I_437 1) : Int) = 0 ∨ ((I_437 2) : Int) < (I_437 3)) ∧ (-1 ≤ ((I_437 4) : Int) ∧ ((I_437 4) : Int) ≤ 100000) from ⟨⟨by omega, by omega⟩, ⟨by omega, by omega⟩, ⟨by omega, by omega⟩, by omega, by omega, by omega⟩), (show (0 ≤ ((I_437 5) : Int) ∧ ((I_437 5) : Int) ≤ 9) ∧ ((1 : Int) = 0 → 1 ≤ ((I_437 5) : Int)) ∧ ((1 : Int) = 0 ∨ (1 : Int) = 1) ∧ Mfr ≤ (I_437 2) from ⟨⟨by omega, by omega⟩, fun _ => by omega, by omega, by omega⟩), (show ((1 : Int) = 0 ∧ KP (F_439 0) Af) ∨ ((1 : Int) = 1 ∧ RWR (F_439 0) Af y ∧ (gz (F_439 0) y = 17 → 0 ≤ gz (F_439 0) (y + 1) ∧ gz (F_439 0) (y + 1) < gz Af 0) ∧ (gz (F_439 0) y = 1923 → 0 ≤ gz (F_439 0) (y + 2) ∧ gz (F_439 0) (y + 2) < 6)) from (Or.inr ⟨rfl, (RWR.tr w_447 (RWR.tr w_422 w_403)), fun h9 => by omega, fun h9 => by omega⟩))⟩ (hP.sub [1, 2, 3, 0] rfl) (hD.sub [1, 2, 3, 0] rfl rfl) dX12_test_163
            ·
              subst qz_418
              refine lv_if_ne (tgt := 136) hx hb dX12_test_109 (by decide) (fun c => absurd (by decide) c) (fun _ => ?_)
              refine lv_aload_n hx hb dX12_test_112 rfl (lv_at hl 1 rfl) ?_
              refine lv_bipush (v := iZ 62) hx hb dX12_test_113 (by decide) ?_
              refine CPV (As := [.int (iZ 62)]) (rest := []) hx hb hml hown hts hKK (hP.sub (ws' := [(hm, .inr (12, [.ref Ma, .ref Mn, .int (iZ Mst), .long Mtp, .long Mbt, .ref Ms, .ref My, .ref Mt, .ref Mp, .ref Mx, .int (iZ Mtd), .int (iZ Msz), .int (iZ (I_409 1)), .int (iZ (I_409 2)), .int (iZ (I_409 3)), .int (iZ (I_409 4)), .int (iZ Mfk), .int (iZ Mfp), .int (iZ Mfs), .int (iZ Mse), .int (iZ Mlt), .ref Mo, .int (iZ Mdp), .int (iZ Mct), .ref Mk, .ref Ml, .ref Mb, .ref Mh, .ref Mc, .int (iZ Mdr), .int (iZ Mrs), .ref Mz, .ref Mr, .ref Mq, .int (iZ Mit), .int (iZ Mmk)]))]) [2] rfl) (m_isSign l D k ([.ref Ma, .ref Mn, .int (iZ Mst), .long Mtp, .long Mbt, .ref Ms, .ref My, .ref Mt, .ref Mp, .ref Mx, .int (iZ Mtd), .int (iZ Msz), .int (iZ (I_409 1)), .int (iZ (I_409 2)), .int (iZ (I_409 3)), .int (iZ (I_409 4)), .int (iZ Mfk), .int (iZ Mfp), .int (iZ Mfs), .int (iZ Mse), .int (iZ Mlt), .ref Mo, .int (iZ Mdp), .int (iZ Mct), .ref Mk, .ref Ml, .ref Mb, .ref Mh, .ref Mc, .int (iZ Mdr), .int (iZ Mrs), .ref Mz, .ref Mr, .ref Mq, .int (iZ Mit), .int (iZ Mmk)]) hm (I_409 1) (I_409 4) 62 rfl rfl ⟨by omega, by omega⟩ ⟨by omega, by omega⟩ ⟨by omega, by omega⟩) ci_X12_isSign qm_X12_161 ⟨Nat.le_of_ble_eq_true rfl, Nat.le_of_ble_eq_true rfl⟩ ⟨Nat.le_of_ble_eq_true rfl, Nat.le_of_ble_eq_true rfl⟩ 0 rfl rfl rfl hl.1 rfl (Nat.le_of_ble_eq_true rfl) dX12_test_115 (fun z_453 hz_453 => ?_)
              rcases hz_453 with ⟨qz_453, hz_453⟩ | ⟨qz_453, hz_453⟩
              ·
                subst qz_453
                refine lv_if_ne (tgt := 136) hx hb dX12_test_118 (by decide) (fun _ => ?_) (fun c => absurd c (by decide))
                refine lv_aload_n hx hb dX12_test_136 rfl (lv_at hl 1 rfl) ?_
                refine va_get (D := D) (ci := 12) (v := .ref Ma) (C := RX12) (T := TX12) (N := 36) hx hb hts iX12 hown hK hP 2 rfl rfl 0 (by decide) (hts _ qf_X12_7) (fun _ h => h) rfl dX12_test_137 ?_
                refine lv_iload_n hx hb dX12_test_140 rfl (lv_at hl 2 rfl) ?_
                refine lv_iconst (v := iZ 5) hx hb dX12_test_141 (by decide) ?_
                refine lv_iadd hx hb dX12_test_142 ?_
                refine lv_topi (fun x_455 ex_455 => ?_)
                obtain rfl : x_455 = iZ (y + 5) := ex_455.trans (iZ_add y 5)
                refine lv_aload_n hx hb dX12_test_143 rfl (lv_at hl 1 rfl) ?_
                refine va_get (D := D) (ci := 12) (v := .int (iZ (I_409 4))) (C := RX12) (T := TX12) (N := 36) hx hb hts iX12 hown hK hP 2 rfl rfl 15 (by decide) (hts _ qf_X12_124) (fun _ h => h) rfl dX12_test_144 ?_
                refine va_iast hx hb hK hP hD hS 0 1 rfl rfl (zin (e := (y + 5)) (n := 5340) ⟨by omega, by omega⟩ (by decide)) dX12_test_147 (fun H locs hP hD hS => ?_)
                obtain ⟨f_456, hf_456⟩ : ∃ gg9, gg9 = upd f_402 (iZ (y + 5)).toNatClampNeg (iZ (I_409 4)) := ⟨_, rfl⟩
                rw [← hf_456] at hP hD
                have w_457 := RWR.up (y := y) hf_456 (by omega) (by omega) ⟨by omega, by omega⟩
                have uu_458 := gz_upc (j := y) hf_456 ⟨by omega, by omega⟩ ⟨by omega, by omega⟩ (by omega)
                have uu_459 := gz_upc (j := (y + 1)) hf_456 ⟨by omega, by omega⟩ ⟨by omega, by omega⟩ (by omega)
                have uu_460 := gz_upc (j := (y + 2)) hf_456 ⟨by omega, by omega⟩ ⟨by omega, by omega⟩ (by omega)
                have uu_461 := gz_upc (j := 0) hf_456 ⟨by omega, by omega⟩ ⟨by omega, by omega⟩ (by omega)
                refine lv_aload_n hx hb dX12_test_148 rfl (lv_at hl 1 rfl) ?_
                refine CWV (As := []) (rest := []) (wc := [(hm, .inr (12, [.ref Ma, .ref Mn, .int (iZ Mst), .long Mtp, .long Mbt, .ref Ms, .ref My, .ref Mt, .ref Mp, .ref Mx, .int (iZ Mtd), .int (iZ Msz), .int (iZ (I_409 1)), .int (iZ (I_409 2)), .int (iZ (I_409 3)), .int (iZ (I_409 4)), .int (iZ Mfk), .int (iZ Mfp), .int (iZ Mfs), .int (iZ Mse), .int (iZ Mlt), .ref Mo, .int (iZ Mdp), .int (iZ Mct), .ref Mk, .ref Ml, .ref Mb, .ref Mh, .ref Mc, .int (iZ Mdr), .int (iZ Mrs), .ref Mz, .ref Mr, .ref Mq, .int (iZ Mit), .int (iZ Mmk)])), (Mx, .inl (k 0, 900, .inl Xf))]) (wr := [(Ma, .inl (k 1, 5340, .inl f_456)), (Mn, .inl (k 2, 36, .inr (.inl Nf)))]) hx hb hml hown hts hKK hP hD hS hA (m_onward l D k hm Ma Mn Ms My Mt Mp Mx Mo Mk Ml Mb Mh Mc Mz Mr Mq Mst Mtd Msz (I_409 1) (I_409 2) (I_409 3) (I_409 4) Mfk Mfp Mfs Mse Mlt Mdp Mct Mdr Mrs Mit Mmk Mtp Mbt Xf ⟨⟨by omega, by omega⟩, by omega⟩) ci_X12_onward qm_X12_158 ⟨Nat.le_of_ble_eq_true rfl, Nat.le_of_ble_eq_true rfl⟩ ⟨Nat.le_of_ble_eq_true rfl, Nat.le_of_ble_eq_true rfl⟩ [2, 3] [0, 1] rfl rfl rfl rfl rfl (by decide) 0 rfl rfl rfl hl.1 rfl (Nat.le_of_ble_eq_true rfl) dX12_test_149 (fun u_462 H locs hφ hP hD hS => ?_)
                obtain ⟨I_463, L_464, F_465, G_466⟩ := u_462
                obtain ⟨p_468, p_469⟩ : ((0 ≤ ((I_463 2) : Int) ∧ ((I_463 2) : Int) ≤ (I_463 3)) ∧ (((I_463 3) : Int) ≤ Msz ∧ (Msz : Int) ≤ 900) ∧ (0 ≤ ((I_463 1) : Int) ∧ ((I_463 1) : Int) ≤ 4) ∧ (((I_463 1) : Int) = 0 ∨ ((I_463 2) : Int) < (I_463 3)) ∧ (-1 ≤ ((I_463 4) : Int) ∧ ((I_463 4) : Int) ≤ 100000)) ∧ ((I_409 3) ≤ (I_463 2)) := hφ
                refine W.eq (g2 := F0 m 152 ls []) rfl ?_
                refine lv_aload_n hx hb dX12_test_152 rfl (lv_at hl 1 rfl) ?_
                refine lv_iload_n hx hb dX12_test_153 rfl (lv_at hl 2 rfl) ?_
                refine lv_iconst (v := iZ 1) hx hb dX12_test_154 (by decide) ?_
                refine lv_iadd hx hb dX12_test_155 ?_
                refine lv_topi (fun x_470 ex_470 => ?_)
                obtain rfl : x_470 = iZ (y + 1) := ex_470.trans (iZ_add y 1)
                refine lv_iconst (v := iZ 0) hx hb dX12_test_156 (by decide) ?_
                refine lv_sipush (v := iZ 400) hx hb dX12_test_157 (by decide) ?_
                refine CWV (As := [.int (iZ (y + 1)), .int (iZ 0), .int (iZ 400)]) (rest := []) (wc := [(hm, .inr (12, [.ref Ma, .ref Mn, .int (iZ Mst), .long Mtp, .long Mbt, .ref Ms, .ref My, .ref Mt, .ref Mp, .ref Mx, .int (iZ Mtd), .int (iZ Msz), .int (iZ (I_463 1)), .int (iZ (I_463 2)), .int (iZ (I_463 3)), .int (iZ (I_463 4)), .int (iZ Mfk), .int (iZ Mfp), .int (iZ Mfs), .int (iZ Mse), .int (iZ Mlt), .ref Mo, .int (iZ Mdp), .int (iZ Mct), .ref Mk, .ref Ml, .ref Mb, .ref Mh, .ref Mc, .int (iZ Mdr), .int (iZ Mrs), .ref Mz, .ref Mr, .ref Mq, .int (iZ Mit), .int (iZ Mmk)])), (Mx, .inl (k 0, 900, .inl Xf)), (Ma, .inl (k 1, 5340, .inl f_456))]) (wr := [(Mn, .inl (k 2, 36, .inr (.inl Nf)))]) hx hb hml hown hts hKK hP hD hS hA (m_number l D k hm Ma Mn Ms My Mt Mp Mx Mo Mk Ml Mb Mh Mc Mz Mr Mq Mst Mtd Msz (I_463 1) (I_463 2) (I_463 3) (I_463 4) Mfk Mfp Mfs Mse Mlt Mdp Mct Mdr Mrs Mit Mmk Mtp Mbt Xf f_456 (y + 1) 0 400 ⟨⟨by omega, by omega⟩, ⟨by omega, by omega⟩, ⟨by omega, by omega⟩, by omega, by omega, by omega⟩ ⟨by omega, by omega⟩ ⟨by omega, by omega⟩ ⟨by omega, by omega⟩ ⟨by omega, by omega⟩) ci_X12_number qm_X12_188 ⟨Nat.le_of_ble_eq_true rfl, Nat.le_of_ble_eq_true rfl⟩ ⟨Nat.le_of_ble_eq_true rfl, Nat.le_of_ble_eq_true rfl⟩ [2, 3, 0] [1] rfl rfl rfl rfl rfl (by decide) 0 rfl rfl rfl hl.1 rfl (Nat.le_of_ble_eq_true rfl) dX12_test_160 (fun u_471 H locs hφ hP hD hS => ?_)
                obtain ⟨I_472, L_473, F_474, G_475⟩ := u_471
                obtain ⟨p_477, p_478, p_479⟩ : ((0 ≤ ((I_472 2) : Int) ∧ ((I_472 2) : Int) ≤ (I_472 3)) ∧ (((I_472 3) : Int) ≤ Msz ∧ (Msz : Int) ≤ 900) ∧ (0 ≤ ((I_472 1) : Int) ∧ ((I_472 1) : Int) ≤ 4) ∧ (((I_472 1) : Int) = 0 ∨ ((I_472 2) : Int) < (I_472 3)) ∧ (-1 ≤ ((I_472 4) : Int) ∧ ((I_472 4) : Int) ≤ 100000)) ∧ ((0 ≤ ((I_472 5) : Int) ∧ ((I_472 5) : Int) ≤ 9) ∧ (((I_472 0) : Int) = 0 → 1 ≤ ((I_472 5) : Int)) ∧ (((I_472 0) : Int) = 0 ∨ ((I_472 0) : Int) = 1) ∧ (I_463 2) ≤ (I_472 2)) ∧ ((((I_472 0) : Int) = 0 ∧ (F_474 0) = f_456) ∨ (((I_472 0) : Int) = 1 ∧ ∃ v6 : Int, 0 ≤ v6 ∧ v6 ≤ 400 ∧ (F_474 0) = upd f_456 (iZ (y + 1)).toNatClampNeg (iZ v6))) := hφ
                refine W.eq (g2 := F0 m 163 ls [.int (iZ (I_472 0))]) rfl ?_
                rcases p_479 with ⟨qt_480, et_480⟩ | ⟨qt_480, vt_480, g1t_480, g2t_480, ht_480⟩
                ·
                  rw [qt_480]
                  have kp_481 : KP (F_474 0) f_456 := by first | exact et_480 | (rw [et_480]; exact KP.rf _)
                  exact EWz hx hb hr hlocks hS (fun i => [0, (I_472 1), (I_472 2), (I_472 3), (I_472 4), (I_472 5), (I_472 6)].getD i 0, fun i => [0].getD i 0, fun i => [(F_474 0)].getD i (fun _ => 0), fun i => [].getD i (fun _ => 0)) rfl rfl ⟨(show (0 ≤ ((I_472 2) : Int) ∧ ((I_472 2) : Int) ≤ (I_472 3)) ∧ (((I_472 3) : Int) ≤ Msz ∧ (Msz : Int) ≤ 900) ∧ (0 ≤ ((I_472 1) : Int) ∧ ((I_472 1) : Int) ≤ 4) ∧ (((I_472 1) : Int) = 0 ∨ ((I_472 2) : Int) < (I_472 3)) ∧ (-1 ≤ ((I_472 4) : Int) ∧ ((I_472 4) : Int) ≤ 100000) from ⟨⟨by omega, by omega⟩, ⟨by omega, by omega⟩, ⟨by omega, by omega⟩, by omega, by omega, by omega⟩), (show (0 ≤ ((I_472 5) : Int) ∧ ((I_472 5) : Int) ≤ 9) ∧ ((0 : Int) = 0 → 1 ≤ ((I_472 5) : Int)) ∧ ((0 : Int) = 0 ∨ (0 : Int) = 1) ∧ Mfr ≤ (I_472 2) from ⟨⟨by omega, by omega⟩, fun _ => by omega, by omega, by omega⟩), (show ((0 : Int) = 0 ∧ KP (F_474 0) Af) ∨ ((0 : Int) = 1 ∧ RWR (F_474 0) Af y ∧ (gz (F_474 0) y = 17 → 0 ≤ gz (F_474 0) (y + 1) ∧ gz (F_474 0) (y + 1) < gz Af 0) ∧ (gz (F_474 0) y = 1923 → 0 ≤ gz (F_474 0) (y + 2) ∧ gz (F_474 0) (y + 2) < 6)) from (Or.inl ⟨rfl, (KP.tr kp_481 (RWR.kp (RWR.tr w_457 w_403) (by omega)))⟩))⟩ (hP.sub [1, 2, 3, 0] rfl) (hD.sub [1, 2, 3, 0] rfl rfl) dX12_test_163
                ·
                  rw [qt_480]
                  have w_482 := RWR.up (y := y) ht_480 (by omega) (by omega) ⟨by omega, by omega⟩
                  have uu_483 := gz_upc (j := y) ht_480 ⟨by omega, by omega⟩ ⟨by omega, by omega⟩ (by omega)
                  have uu_484 := gz_upc (j := (y + 1)) ht_480 ⟨by omega, by omega⟩ ⟨by omega, by omega⟩ (by omega)
                  have uu_485 := gz_upc (j := (y + 2)) ht_480 ⟨by omega, by omega⟩ ⟨by omega, by omega⟩ (by omega)
                  have uu_486 := gz_upc (j := 0) ht_480 ⟨by omega, by omega⟩ ⟨by omega, by omega⟩ (by omega)
                  exact EWz hx hb hr hlocks hS (fun i => [1, (I_472 1), (I_472 2), (I_472 3), (I_472 4), (I_472 5), (I_472 6)].getD i 0, fun i => [0].getD i 0, fun i => [(F_474 0)].getD i (fun _ => 0), fun i => [].getD i (fun _ => 0)) rfl rfl ⟨(show (0 ≤ ((I_472 2) : Int) ∧ ((I_472 2) : Int) ≤ (I_472 3)) ∧ (((I_472 3) : Int) ≤ Msz ∧ (Msz : Int) ≤ 900) ∧ (0 ≤ ((I_472 1) : Int) ∧ ((I_472 1) : Int) ≤ 4) ∧ (((I_472 1) : Int) = 0 ∨ ((I_472 2) : Int) < (I_472 3)) ∧ (-1 ≤ ((I_472 4) : Int) ∧ ((I_472 4) : Int) ≤ 100000) from ⟨⟨by omega, by omega⟩, ⟨by omega, by omega⟩, ⟨by omega, by omega⟩, by omega, by omega, by omega⟩), (show (0 ≤ ((I_472 5) : Int) ∧ ((I_472 5) : Int) ≤ 9) ∧ ((1 : Int) = 0 → 1 ≤ ((I_472 5) : Int)) ∧ ((1 : Int) = 0 ∨ (1 : Int) = 1) ∧ Mfr ≤ (I_472 2) from ⟨⟨by omega, by omega⟩, fun _ => by omega, by omega, by omega⟩), (show ((1 : Int) = 0 ∧ KP (F_474 0) Af) ∨ ((1 : Int) = 1 ∧ RWR (F_474 0) Af y ∧ (gz (F_474 0) y = 17 → 0 ≤ gz (F_474 0) (y + 1) ∧ gz (F_474 0) (y + 1) < gz Af 0) ∧ (gz (F_474 0) y = 1923 → 0 ≤ gz (F_474 0) (y + 2) ∧ gz (F_474 0) (y + 2) < 6)) from (Or.inr ⟨rfl, (RWR.tr w_482 (RWR.tr w_457 w_403)), fun h9 => by omega, fun h9 => by omega⟩))⟩ (hP.sub [1, 2, 3, 0] rfl) (hD.sub [1, 2, 3, 0] rfl rfl) dX12_test_163
              ·
                subst qz_453
                refine lv_if_ne (tgt := 136) hx hb dX12_test_118 (by decide) (fun c => absurd (by decide) c) (fun _ => ?_)
                refine lv_aload_n hx hb dX12_test_121 rfl (lv_at hl 1 rfl) ?_
                refine lv_bipush (v := iZ 61) hx hb dX12_test_122 (by decide) ?_
                refine CPV (As := [.int (iZ 61)]) (rest := []) hx hb hml hown hts hKK (hP.sub (ws' := [(hm, .inr (12, [.ref Ma, .ref Mn, .int (iZ Mst), .long Mtp, .long Mbt, .ref Ms, .ref My, .ref Mt, .ref Mp, .ref Mx, .int (iZ Mtd), .int (iZ Msz), .int (iZ (I_409 1)), .int (iZ (I_409 2)), .int (iZ (I_409 3)), .int (iZ (I_409 4)), .int (iZ Mfk), .int (iZ Mfp), .int (iZ Mfs), .int (iZ Mse), .int (iZ Mlt), .ref Mo, .int (iZ Mdp), .int (iZ Mct), .ref Mk, .ref Ml, .ref Mb, .ref Mh, .ref Mc, .int (iZ Mdr), .int (iZ Mrs), .ref Mz, .ref Mr, .ref Mq, .int (iZ Mit), .int (iZ Mmk)]))]) [2] rfl) (m_isSign l D k ([.ref Ma, .ref Mn, .int (iZ Mst), .long Mtp, .long Mbt, .ref Ms, .ref My, .ref Mt, .ref Mp, .ref Mx, .int (iZ Mtd), .int (iZ Msz), .int (iZ (I_409 1)), .int (iZ (I_409 2)), .int (iZ (I_409 3)), .int (iZ (I_409 4)), .int (iZ Mfk), .int (iZ Mfp), .int (iZ Mfs), .int (iZ Mse), .int (iZ Mlt), .ref Mo, .int (iZ Mdp), .int (iZ Mct), .ref Mk, .ref Ml, .ref Mb, .ref Mh, .ref Mc, .int (iZ Mdr), .int (iZ Mrs), .ref Mz, .ref Mr, .ref Mq, .int (iZ Mit), .int (iZ Mmk)]) hm (I_409 1) (I_409 4) 61 rfl rfl ⟨by omega, by omega⟩ ⟨by omega, by omega⟩ ⟨by omega, by omega⟩) ci_X12_isSign qm_X12_161 ⟨Nat.le_of_ble_eq_true rfl, Nat.le_of_ble_eq_true rfl⟩ ⟨Nat.le_of_ble_eq_true rfl, Nat.le_of_ble_eq_true rfl⟩ 0 rfl rfl rfl hl.1 rfl (Nat.le_of_ble_eq_true rfl) dX12_test_124 (fun z_488 hz_488 => ?_)
                rcases hz_488 with ⟨qz_488, hz_488⟩ | ⟨qz_488, hz_488⟩
                ·
                  subst qz_488
                  refine lv_if_ne (tgt := 136) hx hb dX12_test_127 (by decide) (fun _ => ?_) (fun c => absurd c (by decide))
                  refine lv_aload_n hx hb dX12_test_136 rfl (lv_at hl 1 rfl) ?_
                  refine va_get (D := D) (ci := 12) (v := .ref Ma) (C := RX12) (T := TX12) (N := 36) hx hb hts iX12 hown hK hP 2 rfl rfl 0 (by decide) (hts _ qf_X12_7) (fun _ h => h) rfl dX12_test_137 ?_
                  refine lv_iload_n hx hb dX12_test_140 rfl (lv_at hl 2 rfl) ?_
                  refine lv_iconst (v := iZ 5) hx hb dX12_test_141 (by decide) ?_
                  refine lv_iadd hx hb dX12_test_142 ?_
                  refine lv_topi (fun x_490 ex_490 => ?_)
                  obtain rfl : x_490 = iZ (y + 5) := ex_490.trans (iZ_add y 5)
                  refine lv_aload_n hx hb dX12_test_143 rfl (lv_at hl 1 rfl) ?_
                  refine va_get (D := D) (ci := 12) (v := .int (iZ (I_409 4))) (C := RX12) (T := TX12) (N := 36) hx hb hts iX12 hown hK hP 2 rfl rfl 15 (by decide) (hts _ qf_X12_124) (fun _ h => h) rfl dX12_test_144 ?_
                  refine va_iast hx hb hK hP hD hS 0 1 rfl rfl (zin (e := (y + 5)) (n := 5340) ⟨by omega, by omega⟩ (by decide)) dX12_test_147 (fun H locs hP hD hS => ?_)
                  obtain ⟨f_491, hf_491⟩ : ∃ gg9, gg9 = upd f_402 (iZ (y + 5)).toNatClampNeg (iZ (I_409 4)) := ⟨_, rfl⟩
                  rw [← hf_491] at hP hD
                  have w_492 := RWR.up (y := y) hf_491 (by omega) (by omega) ⟨by omega, by omega⟩
                  have uu_493 := gz_upc (j := y) hf_491 ⟨by omega, by omega⟩ ⟨by omega, by omega⟩ (by omega)
                  have uu_494 := gz_upc (j := (y + 1)) hf_491 ⟨by omega, by omega⟩ ⟨by omega, by omega⟩ (by omega)
                  have uu_495 := gz_upc (j := (y + 2)) hf_491 ⟨by omega, by omega⟩ ⟨by omega, by omega⟩ (by omega)
                  have uu_496 := gz_upc (j := 0) hf_491 ⟨by omega, by omega⟩ ⟨by omega, by omega⟩ (by omega)
                  refine lv_aload_n hx hb dX12_test_148 rfl (lv_at hl 1 rfl) ?_
                  refine CWV (As := []) (rest := []) (wc := [(hm, .inr (12, [.ref Ma, .ref Mn, .int (iZ Mst), .long Mtp, .long Mbt, .ref Ms, .ref My, .ref Mt, .ref Mp, .ref Mx, .int (iZ Mtd), .int (iZ Msz), .int (iZ (I_409 1)), .int (iZ (I_409 2)), .int (iZ (I_409 3)), .int (iZ (I_409 4)), .int (iZ Mfk), .int (iZ Mfp), .int (iZ Mfs), .int (iZ Mse), .int (iZ Mlt), .ref Mo, .int (iZ Mdp), .int (iZ Mct), .ref Mk, .ref Ml, .ref Mb, .ref Mh, .ref Mc, .int (iZ Mdr), .int (iZ Mrs), .ref Mz, .ref Mr, .ref Mq, .int (iZ Mit), .int (iZ Mmk)])), (Mx, .inl (k 0, 900, .inl Xf))]) (wr := [(Ma, .inl (k 1, 5340, .inl f_491)), (Mn, .inl (k 2, 36, .inr (.inl Nf)))]) hx hb hml hown hts hKK hP hD hS hA (m_onward l D k hm Ma Mn Ms My Mt Mp Mx Mo Mk Ml Mb Mh Mc Mz Mr Mq Mst Mtd Msz (I_409 1) (I_409 2) (I_409 3) (I_409 4) Mfk Mfp Mfs Mse Mlt Mdp Mct Mdr Mrs Mit Mmk Mtp Mbt Xf ⟨⟨by omega, by omega⟩, by omega⟩) ci_X12_onward qm_X12_158 ⟨Nat.le_of_ble_eq_true rfl, Nat.le_of_ble_eq_true rfl⟩ ⟨Nat.le_of_ble_eq_true rfl, Nat.le_of_ble_eq_true rfl⟩ [2, 3] [0, 1] rfl rfl rfl rfl rfl (by decide) 0 rfl rfl rfl hl.1 rfl (Nat.le_of_ble_eq_true rfl) dX12_test_149 (fun u_497 H locs hφ hP hD hS => ?_)
                  obtain ⟨I_498, L_499, F_500, G_501⟩ := u_497
                  obtain ⟨p_503, p_504⟩ : ((0 ≤ ((I_498 2) : Int) ∧ ((I_498 2) : Int) ≤ (I_498 3)) ∧ (((I_498 3) : Int) ≤ Msz ∧ (Msz : Int) ≤ 900) ∧ (0 ≤ ((I_498 1) : Int) ∧ ((I_498 1) : Int) ≤ 4) ∧ (((I_498 1) : Int) = 0 ∨ ((I_498 2) : Int) < (I_498 3)) ∧ (-1 ≤ ((I_498 4) : Int) ∧ ((I_498 4) : Int) ≤ 100000)) ∧ ((I_409 3) ≤ (I_498 2)) := hφ
                  refine W.eq (g2 := F0 m 152 ls []) rfl ?_
                  refine lv_aload_n hx hb dX12_test_152 rfl (lv_at hl 1 rfl) ?_
                  refine lv_iload_n hx hb dX12_test_153 rfl (lv_at hl 2 rfl) ?_
                  refine lv_iconst (v := iZ 1) hx hb dX12_test_154 (by decide) ?_
                  refine lv_iadd hx hb dX12_test_155 ?_
                  refine lv_topi (fun x_505 ex_505 => ?_)
                  obtain rfl : x_505 = iZ (y + 1) := ex_505.trans (iZ_add y 1)
                  refine lv_iconst (v := iZ 0) hx hb dX12_test_156 (by decide) ?_
                  refine lv_sipush (v := iZ 400) hx hb dX12_test_157 (by decide) ?_
                  refine CWV (As := [.int (iZ (y + 1)), .int (iZ 0), .int (iZ 400)]) (rest := []) (wc := [(hm, .inr (12, [.ref Ma, .ref Mn, .int (iZ Mst), .long Mtp, .long Mbt, .ref Ms, .ref My, .ref Mt, .ref Mp, .ref Mx, .int (iZ Mtd), .int (iZ Msz), .int (iZ (I_498 1)), .int (iZ (I_498 2)), .int (iZ (I_498 3)), .int (iZ (I_498 4)), .int (iZ Mfk), .int (iZ Mfp), .int (iZ Mfs), .int (iZ Mse), .int (iZ Mlt), .ref Mo, .int (iZ Mdp), .int (iZ Mct), .ref Mk, .ref Ml, .ref Mb, .ref Mh, .ref Mc, .int (iZ Mdr), .int (iZ Mrs), .ref Mz, .ref Mr, .ref Mq, .int (iZ Mit), .int (iZ Mmk)])), (Mx, .inl (k 0, 900, .inl Xf)), (Ma, .inl (k 1, 5340, .inl f_491))]) (wr := [(Mn, .inl (k 2, 36, .inr (.inl Nf)))]) hx hb hml hown hts hKK hP hD hS hA (m_number l D k hm Ma Mn Ms My Mt Mp Mx Mo Mk Ml Mb Mh Mc Mz Mr Mq Mst Mtd Msz (I_498 1) (I_498 2) (I_498 3) (I_498 4) Mfk Mfp Mfs Mse Mlt Mdp Mct Mdr Mrs Mit Mmk Mtp Mbt Xf f_491 (y + 1) 0 400 ⟨⟨by omega, by omega⟩, ⟨by omega, by omega⟩, ⟨by omega, by omega⟩, by omega, by omega, by omega⟩ ⟨by omega, by omega⟩ ⟨by omega, by omega⟩ ⟨by omega, by omega⟩ ⟨by omega, by omega⟩) ci_X12_number qm_X12_188 ⟨Nat.le_of_ble_eq_true rfl, Nat.le_of_ble_eq_true rfl⟩ ⟨Nat.le_of_ble_eq_true rfl, Nat.le_of_ble_eq_true rfl⟩ [2, 3, 0] [1] rfl rfl rfl rfl rfl (by decide) 0 rfl rfl rfl hl.1 rfl (Nat.le_of_ble_eq_true rfl) dX12_test_160 (fun u_506 H locs hφ hP hD hS => ?_)
                  obtain ⟨I_507, L_508, F_509, G_510⟩ := u_506
                  obtain ⟨p_512, p_513, p_514⟩ : ((0 ≤ ((I_507 2) : Int) ∧ ((I_507 2) : Int) ≤ (I_507 3)) ∧ (((I_507 3) : Int) ≤ Msz ∧ (Msz : Int) ≤ 900) ∧ (0 ≤ ((I_507 1) : Int) ∧ ((I_507 1) : Int) ≤ 4) ∧ (((I_507 1) : Int) = 0 ∨ ((I_507 2) : Int) < (I_507 3)) ∧ (-1 ≤ ((I_507 4) : Int) ∧ ((I_507 4) : Int) ≤ 100000)) ∧ ((0 ≤ ((I_507 5) : Int) ∧ ((I_507 5) : Int) ≤ 9) ∧ (((I_507 0) : Int) = 0 → 1 ≤ ((I_507 5) : Int)) ∧ (((I_507 0) : Int) = 0 ∨ ((I_507 0) : Int) = 1) ∧ (I_498 2) ≤ (I_507 2)) ∧ ((((I_507 0) : Int) = 0 ∧ (F_509 0) = f_491) ∨ (((I_507 0) : Int) = 1 ∧ ∃ v6 : Int, 0 ≤ v6 ∧ v6 ≤ 400 ∧ (F_509 0) = upd f_491 (iZ (y + 1)).toNatClampNeg (iZ v6))) := hφ
                  refine W.eq (g2 := F0 m 163 ls [.int (iZ (I_507 0))]) rfl ?_
                  rcases p_514 with ⟨qt_515, et_515⟩ | ⟨qt_515, vt_515, g1t_515, g2t_515, ht_515⟩
                  ·
                    rw [qt_515]
                    have kp_516 : KP (F_509 0) f_491 := by first | exact et_515 | (rw [et_515]; exact KP.rf _)
                    exact EWz hx hb hr hlocks hS (fun i => [0, (I_507 1), (I_507 2), (I_507 3), (I_507 4), (I_507 5), (I_507 6)].getD i 0, fun i => [0].getD i 0, fun i => [(F_509 0)].getD i (fun _ => 0), fun i => [].getD i (fun _ => 0)) rfl rfl ⟨(show (0 ≤ ((I_507 2) : Int) ∧ ((I_507 2) : Int) ≤ (I_507 3)) ∧ (((I_507 3) : Int) ≤ Msz ∧ (Msz : Int) ≤ 900) ∧ (0 ≤ ((I_507 1) : Int) ∧ ((I_507 1) : Int) ≤ 4) ∧ (((I_507 1) : Int) = 0 ∨ ((I_507 2) : Int) < (I_507 3)) ∧ (-1 ≤ ((I_507 4) : Int) ∧ ((I_507 4) : Int) ≤ 100000) from ⟨⟨by omega, by omega⟩, ⟨by omega, by omega⟩, ⟨by omega, by omega⟩, by omega, by omega, by omega⟩), (show (0 ≤ ((I_507 5) : Int) ∧ ((I_507 5) : Int) ≤ 9) ∧ ((0 : Int) = 0 → 1 ≤ ((I_507 5) : Int)) ∧ ((0 : Int) = 0 ∨ (0 : Int) = 1) ∧ Mfr ≤ (I_507 2) from ⟨⟨by omega, by omega⟩, fun _ => by omega, by omega, by omega⟩), (show ((0 : Int) = 0 ∧ KP (F_509 0) Af) ∨ ((0 : Int) = 1 ∧ RWR (F_509 0) Af y ∧ (gz (F_509 0) y = 17 → 0 ≤ gz (F_509 0) (y + 1) ∧ gz (F_509 0) (y + 1) < gz Af 0) ∧ (gz (F_509 0) y = 1923 → 0 ≤ gz (F_509 0) (y + 2) ∧ gz (F_509 0) (y + 2) < 6)) from (Or.inl ⟨rfl, (KP.tr kp_516 (RWR.kp (RWR.tr w_492 w_403) (by omega)))⟩))⟩ (hP.sub [1, 2, 3, 0] rfl) (hD.sub [1, 2, 3, 0] rfl rfl) dX12_test_163
                  ·
                    rw [qt_515]
                    have w_517 := RWR.up (y := y) ht_515 (by omega) (by omega) ⟨by omega, by omega⟩
                    have uu_518 := gz_upc (j := y) ht_515 ⟨by omega, by omega⟩ ⟨by omega, by omega⟩ (by omega)
                    have uu_519 := gz_upc (j := (y + 1)) ht_515 ⟨by omega, by omega⟩ ⟨by omega, by omega⟩ (by omega)
                    have uu_520 := gz_upc (j := (y + 2)) ht_515 ⟨by omega, by omega⟩ ⟨by omega, by omega⟩ (by omega)
                    have uu_521 := gz_upc (j := 0) ht_515 ⟨by omega, by omega⟩ ⟨by omega, by omega⟩ (by omega)
                    exact EWz hx hb hr hlocks hS (fun i => [1, (I_507 1), (I_507 2), (I_507 3), (I_507 4), (I_507 5), (I_507 6)].getD i 0, fun i => [0].getD i 0, fun i => [(F_509 0)].getD i (fun _ => 0), fun i => [].getD i (fun _ => 0)) rfl rfl ⟨(show (0 ≤ ((I_507 2) : Int) ∧ ((I_507 2) : Int) ≤ (I_507 3)) ∧ (((I_507 3) : Int) ≤ Msz ∧ (Msz : Int) ≤ 900) ∧ (0 ≤ ((I_507 1) : Int) ∧ ((I_507 1) : Int) ≤ 4) ∧ (((I_507 1) : Int) = 0 ∨ ((I_507 2) : Int) < (I_507 3)) ∧ (-1 ≤ ((I_507 4) : Int) ∧ ((I_507 4) : Int) ≤ 100000) from ⟨⟨by omega, by omega⟩, ⟨by omega, by omega⟩, ⟨by omega, by omega⟩, by omega, by omega, by omega⟩), (show (0 ≤ ((I_507 5) : Int) ∧ ((I_507 5) : Int) ≤ 9) ∧ ((1 : Int) = 0 → 1 ≤ ((I_507 5) : Int)) ∧ ((1 : Int) = 0 ∨ (1 : Int) = 1) ∧ Mfr ≤ (I_507 2) from ⟨⟨by omega, by omega⟩, fun _ => by omega, by omega, by omega⟩), (show ((1 : Int) = 0 ∧ KP (F_509 0) Af) ∨ ((1 : Int) = 1 ∧ RWR (F_509 0) Af y ∧ (gz (F_509 0) y = 17 → 0 ≤ gz (F_509 0) (y + 1) ∧ gz (F_509 0) (y + 1) < gz Af 0) ∧ (gz (F_509 0) y = 1923 → 0 ≤ gz (F_509 0) (y + 2) ∧ gz (F_509 0) (y + 2) < 6)) from (Or.inr ⟨rfl, (RWR.tr w_517 (RWR.tr w_492 w_403)), fun h9 => by omega, fun h9 => by omega⟩))⟩ (hP.sub [1, 2, 3, 0] rfl) (hD.sub [1, 2, 3, 0] rfl rfl) dX12_test_163
                ·
                  subst qz_488
                  refine lv_if_ne (tgt := 136) hx hb dX12_test_127 (by decide) (fun c => absurd (by decide) c) (fun _ => ?_)
                  refine lv_aload_n hx hb dX12_test_130 rfl (lv_at hl 1 rfl) ?_
                  refine lv_iconst (v := iZ 2) hx hb dX12_test_131 (by decide) ?_
                  refine CWV (As := [.int (iZ 2)]) (rest := []) (wc := [(hm, .inr (12, [.ref Ma, .ref Mn, .int (iZ Mst), .long Mtp, .long Mbt, .ref Ms, .ref My, .ref Mt, .ref Mp, .ref Mx, .int (iZ Mtd), .int (iZ Msz), .int (iZ (I_409 1)), .int (iZ (I_409 2)), .int (iZ (I_409 3)), .int (iZ (I_409 4)), .int (iZ Mfk), .int (iZ Mfp), .int (iZ Mfs), .int (iZ Mse), .int (iZ Mlt), .ref Mo, .int (iZ Mdp), .int (iZ Mct), .ref Mk, .ref Ml, .ref Mb, .ref Mh, .ref Mc, .int (iZ Mdr), .int (iZ Mrs), .ref Mz, .ref Mr, .ref Mq, .int (iZ Mit), .int (iZ Mmk)]))]) (wr := [(Ma, .inl (k 1, 5340, .inl f_402)), (Mn, .inl (k 2, 36, .inr (.inl Nf))), (Mx, .inl (k 0, 900, .inl Xf))]) hx hb hml hown hts hKK hP hD hS hA (m_fails l D k hm Ma Mn Ms My Mt Mp Mx Mo Mk Ml Mb Mh Mc Mz Mr Mq Mst Mtd Msz (I_409 1) (I_409 2) (I_409 3) (I_409 4) Mfk Mfp Mfs Mse Mlt Mdp Mct Mdr Mrs Mit Mmk Mtp Mbt 2 ⟨by omega, by omega⟩ ⟨by omega, by omega⟩ ⟨by omega, by omega⟩) ci_X12_fails qm_X12_164 ⟨Nat.le_of_ble_eq_true rfl, Nat.le_of_ble_eq_true rfl⟩ ⟨Nat.le_of_ble_eq_true rfl, Nat.le_of_ble_eq_true rfl⟩ [2] [0, 1, 3] rfl rfl rfl rfl rfl (by decide) 0 rfl rfl rfl hl.1 rfl (Nat.le_of_ble_eq_true rfl) dX12_test_132 (fun u_523 H locs hφ hP hD hS => ?_)
                  obtain ⟨I_524, L_525, F_526, G_527⟩ := u_523
                  have p_529 : 1 ≤ ((I_524 1) : Int) ∧ ((I_524 1) : Int) ≤ 9 := hφ
                  refine W.eq (g2 := F0 m 135 ls [.int (iZ 0)]) rfl ?_
                  exact EWz hx hb hr hlocks hS (fun i => [0, (I_409 1), (I_409 2), (I_409 3), (I_409 4), (I_524 1), (I_524 2)].getD i 0, fun i => [0].getD i 0, fun i => [f_402].getD i (fun _ => 0), fun i => [].getD i (fun _ => 0)) rfl rfl ⟨(show (0 ≤ ((I_409 2) : Int) ∧ ((I_409 2) : Int) ≤ (I_409 3)) ∧ (((I_409 3) : Int) ≤ Msz ∧ (Msz : Int) ≤ 900) ∧ (0 ≤ ((I_409 1) : Int) ∧ ((I_409 1) : Int) ≤ 4) ∧ (((I_409 1) : Int) = 0 ∨ ((I_409 2) : Int) < (I_409 3)) ∧ (-1 ≤ ((I_409 4) : Int) ∧ ((I_409 4) : Int) ≤ 100000) from ⟨⟨by omega, by omega⟩, ⟨by omega, by omega⟩, ⟨by omega, by omega⟩, by omega, by omega, by omega⟩), (show (0 ≤ ((I_524 1) : Int) ∧ ((I_524 1) : Int) ≤ 9) ∧ ((0 : Int) = 0 → 1 ≤ ((I_524 1) : Int)) ∧ ((0 : Int) = 0 ∨ (0 : Int) = 1) ∧ Mfr ≤ (I_409 2) from ⟨⟨by omega, by omega⟩, fun _ => by omega, by omega, by omega⟩), (show ((0 : Int) = 0 ∧ KP f_402 Af) ∨ ((0 : Int) = 1 ∧ RWR f_402 Af y ∧ (gz f_402 y = 17 → 0 ≤ gz f_402 (y + 1) ∧ gz f_402 (y + 1) < gz Af 0) ∧ (gz f_402 y = 1923 → 0 ≤ gz f_402 (y + 2) ∧ gz f_402 (y + 2) < 6)) from (Or.inl ⟨rfl, (RWR.kp w_403 (by omega))⟩))⟩ (hP.sub [3, 2, 0, 1] rfl) (hD.sub [3, 2, 0, 1] rfl rfl) dX12_test_135
          ·
            have c_417 := (zeq (x := iZ (I_2 0)) (y := iZ 23) rfl rfl ⟨by omega, by omega⟩ ⟨by omega, by omega⟩).mp c_417
            refine lv_aload_n hx hb dX12_test_66 rfl (lv_at hl 1 rfl) ?_
            refine lv_iload_n hx hb dX12_test_67 rfl (lv_at hl 2 rfl) ?_
            refine lv_iconst (v := iZ 1) hx hb dX12_test_68 (by decide) ?_
            refine lv_iadd hx hb dX12_test_69 ?_
            refine lv_topi (fun x_530 ex_530 => ?_)
            obtain rfl : x_530 = iZ (y + 1) := ex_530.trans (iZ_add y 1)
            refine CSV (As := [.int (iZ (y + 1))]) (rest := []) (wc := [(hm, .inr (12, [.ref Ma, .ref Mn, .int (iZ Mst), .long Mtp, .long Mbt, .ref Ms, .ref My, .ref Mt, .ref Mp, .ref Mx, .int (iZ Mtd), .int (iZ Msz), .int (iZ (I_409 1)), .int (iZ (I_409 2)), .int (iZ (I_409 3)), .int (iZ (I_409 4)), .int (iZ Mfk), .int (iZ Mfp), .int (iZ Mfs), .int (iZ Mse), .int (iZ Mlt), .ref Mo, .int (iZ Mdp), .int (iZ Mct), .ref Mk, .ref Ml, .ref Mb, .ref Mh, .ref Mc, .int (iZ Mdr), .int (iZ Mrs), .ref Mz, .ref Mr, .ref Mq, .int (iZ Mit), .int (iZ Mmk)])), (Mx, .inl (k 0, 900, .inl Xf)), (Ma, .inl (k 1, 5340, .inl f_402)), (Mn, .inl (k 2, 36, .inr (.inl Nf)))]) (wr := []) hx hb hml hown hts hKK hP hD hS hA hSY hRR (m_rockTo l D k sa sv hm Ma Mn Ms My Mt Mp Mx Mo Mk Ml Mb Mh Mc Mz Mr Mq Mst Mtd Msz (I_409 1) (I_409 2) (I_409 3) (I_409 4) Mfk Mfp Mfs Mse Mlt Mdp Mct Mdr Mrs Mit Mmk Mtp Mbt Xf f_402 Nf (y + 1) ⟨⟨by omega, by omega⟩, ⟨by omega, by omega⟩, ⟨by omega, by omega⟩, by omega, by omega, by omega⟩ ⟨by omega, by omega⟩ ⟨by omega, by omega⟩ ⟨by omega, by omega⟩) ci_X12_rockTo qm_X12_225 ⟨Nat.le_of_ble_eq_true rfl, Nat.le_of_ble_eq_true rfl⟩ ⟨Nat.le_of_ble_eq_true rfl, Nat.le_of_ble_eq_true rfl⟩ [2, 3, 0, 1] [] rfl rfl rfl rfl rfl (by decide) 0 rfl rfl rfl hl.1 rfl (Nat.le_of_ble_eq_true rfl) dX12_test_70 (fun u_531 H locs hφ hP hD hS => ?_)
            obtain ⟨I_532, L_533, F_534, G_535⟩ := u_531
            obtain ⟨p_537, p_538, p_539⟩ : ((0 ≤ ((I_532 2) : Int) ∧ ((I_532 2) : Int) ≤ (I_532 3)) ∧ (((I_532 3) : Int) ≤ Msz ∧ (Msz : Int) ≤ 900) ∧ (0 ≤ ((I_532 1) : Int) ∧ ((I_532 1) : Int) ≤ 4) ∧ (((I_532 1) : Int) = 0 ∨ ((I_532 2) : Int) < (I_532 3)) ∧ (-1 ≤ ((I_532 4) : Int) ∧ ((I_532 4) : Int) ≤ 100000)) ∧ ((0 ≤ ((I_532 5) : Int) ∧ ((I_532 5) : Int) ≤ 9) ∧ (((I_532 0) : Int) = 0 → 1 ≤ ((I_532 5) : Int)) ∧ (((I_532 0) : Int) = 0 ∨ ((I_532 0) : Int) = 1) ∧ (I_409 2) ≤ (I_532 2)) ∧ ((((I_532 0) : Int) = 0 ∧ KP (F_534 0) f_402) ∨ (((I_532 0) : Int) = 1 ∧ ∃ v6 : Int, 0 ≤ v6 ∧ v6 < gz f_402 0 ∧ (F_534 0) = upd f_402 (iZ (y + 1)).toNatClampNeg (iZ v6))) := hφ
            refine W.eq (g2 := F0 m 73 ls [.int (iZ (I_532 0))]) rfl ?_
            rcases p_539 with ⟨qt_540, et_540⟩ | ⟨qt_540, vt_540, g1t_540, g2t_540, ht_540⟩
            ·
              rw [qt_540]
              have kp_541 : KP (F_534 0) f_402 := by first | exact et_540 | (rw [et_540]; exact KP.rf _)
              refine lv_if_eq (tgt := 101) hx hb dX12_test_73 (by decide) (fun _ => ?_) (fun c => absurd (by decide) c)
              refine lv_iconst (v := iZ 0) hx hb dX12_test_101 (by decide) ?_
              exact EWz hx hb hr hlocks hS (fun i => [0, (I_532 1), (I_532 2), (I_532 3), (I_532 4), (I_532 5), (I_532 6)].getD i 0, fun i => [0].getD i 0, fun i => [(F_534 0)].getD i (fun _ => 0), fun i => [].getD i (fun _ => 0)) rfl rfl ⟨(show (0 ≤ ((I_532 2) : Int) ∧ ((I_532 2) : Int) ≤ (I_532 3)) ∧ (((I_532 3) : Int) ≤ Msz ∧ (Msz : Int) ≤ 900) ∧ (0 ≤ ((I_532 1) : Int) ∧ ((I_532 1) : Int) ≤ 4) ∧ (((I_532 1) : Int) = 0 ∨ ((I_532 2) : Int) < (I_532 3)) ∧ (-1 ≤ ((I_532 4) : Int) ∧ ((I_532 4) : Int) ≤ 100000) from ⟨⟨by omega, by omega⟩, ⟨by omega, by omega⟩, ⟨by omega, by omega⟩, by omega, by omega, by omega⟩), (show (0 ≤ ((I_532 5) : Int) ∧ ((I_532 5) : Int) ≤ 9) ∧ ((0 : Int) = 0 → 1 ≤ ((I_532 5) : Int)) ∧ ((0 : Int) = 0 ∨ (0 : Int) = 1) ∧ Mfr ≤ (I_532 2) from ⟨⟨by omega, by omega⟩, fun _ => by omega, by omega, by omega⟩), (show ((0 : Int) = 0 ∧ KP (F_534 0) Af) ∨ ((0 : Int) = 1 ∧ RWR (F_534 0) Af y ∧ (gz (F_534 0) y = 17 → 0 ≤ gz (F_534 0) (y + 1) ∧ gz (F_534 0) (y + 1) < gz Af 0) ∧ (gz (F_534 0) y = 1923 → 0 ≤ gz (F_534 0) (y + 2) ∧ gz (F_534 0) (y + 2) < 6)) from (Or.inl ⟨rfl, (KP.tr kp_541 (RWR.kp w_403 (by omega)))⟩))⟩ (hP.sub [0, 1, 2, 3] rfl) (hD.sub [0, 1, 2, 3] rfl rfl) dX12_test_102
            ·
              rw [qt_540]
              have w_543 := RWR.up (y := y) ht_540 (by omega) (by omega) ⟨by omega, by omega⟩
              have uu_544 := gz_upc (j := y) ht_540 ⟨by omega, by omega⟩ ⟨by omega, by omega⟩ (by omega)
              have uu_545 := gz_upc (j := (y + 1)) ht_540 ⟨by omega, by omega⟩ ⟨by omega, by omega⟩ (by omega)
              have uu_546 := gz_upc (j := (y + 2)) ht_540 ⟨by omega, by omega⟩ ⟨by omega, by omega⟩ (by omega)
              have uu_547 := gz_upc (j := 0) ht_540 ⟨by omega, by omega⟩ ⟨by omega, by omega⟩ (by omega)
              refine lv_if_eq (tgt := 101) hx hb dX12_test_73 (by decide) (fun c => absurd c (by decide)) (fun _ => ?_)
              refine lv_aload_n hx hb dX12_test_76 rfl (lv_at hl 1 rfl) ?_
              refine va_ldcS hx hb hown hRR dX12_test_77 ?_
              refine lv_bipush (v := iZ 24) hx hb dX12_test_79 (by decide) ?_
              refine CSV (As := [.ref sa, .int (iZ 24)]) (rest := []) (wc := [(hm, .inr (12, [.ref Ma, .ref Mn, .int (iZ Mst), .long Mtp, .long Mbt, .ref Ms, .ref My, .ref Mt, .ref Mp, .ref Mx, .int (iZ Mtd), .int (iZ Msz), .int (iZ (I_532 1)), .int (iZ (I_532 2)), .int (iZ (I_532 3)), .int (iZ (I_532 4)), .int (iZ Mfk), .int (iZ (I_532 6)), .int (iZ (I_532 5)), .int (iZ Mse), .int (iZ Mlt), .ref Mo, .int (iZ Mdp), .int (iZ Mct), .ref Mk, .ref Ml, .ref Mb, .ref Mh, .ref Mc, .int (iZ Mdr), .int (iZ Mrs), .ref Mz, .ref Mr, .ref Mq, .int (iZ Mit), .int (iZ Mmk)])), (Mx, .inl (k 0, 900, .inl Xf))]) (wr := [(Ma, .inl (k 1, 5340, .inl (F_534 0))), (Mn, .inl (k 2, 36, .inr (.inl Nf)))]) hx hb hml hown hts hKK hP hD hS hA hSY hRR (m_wantWord l D k sa sv hm Ma Mn Ms My Mt Mp Mx Mo Mk Ml Mb Mh Mc Mz Mr Mq Mst Mtd Msz (I_532 1) (I_532 2) (I_532 3) (I_532 4) Mfk (I_532 6) (I_532 5) Mse Mlt Mdp Mct Mdr Mrs Mit Mmk Mtp Mbt Xf 24 ⟨⟨by omega, by omega⟩, ⟨by omega, by omega⟩, ⟨by omega, by omega⟩, by omega, by omega, by omega⟩ ⟨by omega, by omega⟩ ⟨by omega, by omega⟩) ci_X12_wantWord qm_X12_184 ⟨Nat.le_of_ble_eq_true rfl, Nat.le_of_ble_eq_true rfl⟩ ⟨Nat.le_of_ble_eq_true rfl, Nat.le_of_ble_eq_true rfl⟩ [0, 1] [2, 3] rfl rfl rfl rfl rfl (by decide) 0 rfl rfl rfl hl.1 rfl (Nat.le_of_ble_eq_true rfl) dX12_test_81 (fun u_549 H locs hφ hP hD hS => ?_)
              obtain ⟨I_550, L_551, F_552, G_553⟩ := u_549
              obtain ⟨p_555, p_556⟩ : ((0 ≤ ((I_550 2) : Int) ∧ ((I_550 2) : Int) ≤ (I_550 3)) ∧ (((I_550 3) : Int) ≤ Msz ∧ (Msz : Int) ≤ 900) ∧ (0 ≤ ((I_550 1) : Int) ∧ ((I_550 1) : Int) ≤ 4) ∧ (((I_550 1) : Int) = 0 ∨ ((I_550 2) : Int) < (I_550 3)) ∧ (-1 ≤ ((I_550 4) : Int) ∧ ((I_550 4) : Int) ≤ 100000)) ∧ ((0 ≤ ((I_550 5) : Int) ∧ ((I_550 5) : Int) ≤ 9) ∧ (((I_550 0) : Int) = 0 → 1 ≤ ((I_550 5) : Int)) ∧ (((I_550 0) : Int) = 0 ∨ ((I_550 0) : Int) = 1) ∧ (I_532 2) ≤ (I_550 2)) := hφ
              refine W.eq (g2 := F0 m 84 ls [.int (iZ (I_550 0))]) rfl ?_
              rcases (show ((I_550 0) = 0) ∨ ((I_550 0) = 1) from (by omega)) with s_557 | s_557
              ·
                rw [s_557]
                refine lv_if_eq (tgt := 101) hx hb dX12_test_84 (by decide) (fun _ => ?_) (fun c => absurd (by decide) c)
                refine lv_iconst (v := iZ 0) hx hb dX12_test_101 (by decide) ?_
                exact EWz hx hb hr hlocks hS (fun i => [0, (I_550 1), (I_550 2), (I_550 3), (I_550 4), (I_550 5), (I_550 6)].getD i 0, fun i => [0].getD i 0, fun i => [(F_534 0)].getD i (fun _ => 0), fun i => [].getD i (fun _ => 0)) rfl rfl ⟨(show (0 ≤ ((I_550 2) : Int) ∧ ((I_550 2) : Int) ≤ (I_550 3)) ∧ (((I_550 3) : Int) ≤ Msz ∧ (Msz : Int) ≤ 900) ∧ (0 ≤ ((I_550 1) : Int) ∧ ((I_550 1) : Int) ≤ 4) ∧ (((I_550 1) : Int) = 0 ∨ ((I_550 2) : Int) < (I_550 3)) ∧ (-1 ≤ ((I_550 4) : Int) ∧ ((I_550 4) : Int) ≤ 100000) from ⟨⟨by omega, by omega⟩, ⟨by omega, by omega⟩, ⟨by omega, by omega⟩, by omega, by omega, by omega⟩), (show (0 ≤ ((I_550 5) : Int) ∧ ((I_550 5) : Int) ≤ 9) ∧ ((0 : Int) = 0 → 1 ≤ ((I_550 5) : Int)) ∧ ((0 : Int) = 0 ∨ (0 : Int) = 1) ∧ Mfr ≤ (I_550 2) from ⟨⟨by omega, by omega⟩, fun _ => by omega, by omega, by omega⟩), (show ((0 : Int) = 0 ∧ KP (F_534 0) Af) ∨ ((0 : Int) = 1 ∧ RWR (F_534 0) Af y ∧ (gz (F_534 0) y = 17 → 0 ≤ gz (F_534 0) (y + 1) ∧ gz (F_534 0) (y + 1) < gz Af 0) ∧ (gz (F_534 0) y = 1923 → 0 ≤ gz (F_534 0) (y + 2) ∧ gz (F_534 0) (y + 2) < 6)) from (Or.inl ⟨rfl, (RWR.kp (RWR.tr w_543 w_403) (by omega))⟩))⟩ (hP.sub [2, 3, 0, 1] rfl) (hD.sub [2, 3, 0, 1] rfl rfl) dX12_test_102
              ·
                rw [s_557]
                refine lv_if_eq (tgt := 101) hx hb dX12_test_84 (by decide) (fun c => absurd c (by decide)) (fun _ => ?_)
                refine lv_aload_n hx hb dX12_test_87 rfl (lv_at hl 1 rfl) ?_
                refine lv_iload_n hx hb dX12_test_88 rfl (lv_at hl 2 rfl) ?_
                refine lv_iconst (v := iZ 2) hx hb dX12_test_89 (by decide) ?_
                refine lv_iadd hx hb dX12_test_90 ?_
                refine lv_topi (fun x_560 ex_560 => ?_)
                obtain rfl : x_560 = iZ (y + 2) := ex_560.trans (iZ_add y 2)
                refine CSV (As := [.int (iZ (y + 2))]) (rest := []) (wc := [(hm, .inr (12, [.ref Ma, .ref Mn, .int (iZ Mst), .long Mtp, .long Mbt, .ref Ms, .ref My, .ref Mt, .ref Mp, .ref Mx, .int (iZ Mtd), .int (iZ Msz), .int (iZ (I_550 1)), .int (iZ (I_550 2)), .int (iZ (I_550 3)), .int (iZ (I_550 4)), .int (iZ Mfk), .int (iZ (I_550 6)), .int (iZ (I_550 5)), .int (iZ Mse), .int (iZ Mlt), .ref Mo, .int (iZ Mdp), .int (iZ Mct), .ref Mk, .ref Ml, .ref Mb, .ref Mh, .ref Mc, .int (iZ Mdr), .int (iZ Mrs), .ref Mz, .ref Mr, .ref Mq, .int (iZ Mit), .int (iZ Mmk)])), (Mx, .inl (k 0, 900, .inl Xf)), (Ma, .inl (k 1, 5340, .inl (F_534 0))), (Mn, .inl (k 2, 36, .inr (.inl Nf)))]) (wr := []) hx hb hml hown hts hKK hP hD hS hA hSY hRR (m_rockTo l D k sa sv hm Ma Mn Ms My Mt Mp Mx Mo Mk Ml Mb Mh Mc Mz Mr Mq Mst Mtd Msz (I_550 1) (I_550 2) (I_550 3) (I_550 4) Mfk (I_550 6) (I_550 5) Mse Mlt Mdp Mct Mdr Mrs Mit Mmk Mtp Mbt Xf (F_534 0) Nf (y + 2) ⟨⟨by omega, by omega⟩, ⟨by omega, by omega⟩, ⟨by omega, by omega⟩, by omega, by omega, by omega⟩ ⟨by omega, by omega⟩ ⟨by omega, by omega⟩ ⟨by omega, by omega⟩) ci_X12_rockTo qm_X12_225 ⟨Nat.le_of_ble_eq_true rfl, Nat.le_of_ble_eq_true rfl⟩ ⟨Nat.le_of_ble_eq_true rfl, Nat.le_of_ble_eq_true rfl⟩ [2, 3, 0, 1] [] rfl rfl rfl rfl rfl (by decide) 0 rfl rfl rfl hl.1 rfl (Nat.le_of_ble_eq_true rfl) dX12_test_91 (fun u_561 H locs hφ hP hD hS => ?_)
                obtain ⟨I_562, L_563, F_564, G_565⟩ := u_561
                obtain ⟨p_567, p_568, p_569⟩ : ((0 ≤ ((I_562 2) : Int) ∧ ((I_562 2) : Int) ≤ (I_562 3)) ∧ (((I_562 3) : Int) ≤ Msz ∧ (Msz : Int) ≤ 900) ∧ (0 ≤ ((I_562 1) : Int) ∧ ((I_562 1) : Int) ≤ 4) ∧ (((I_562 1) : Int) = 0 ∨ ((I_562 2) : Int) < (I_562 3)) ∧ (-1 ≤ ((I_562 4) : Int) ∧ ((I_562 4) : Int) ≤ 100000)) ∧ ((0 ≤ ((I_562 5) : Int) ∧ ((I_562 5) : Int) ≤ 9) ∧ (((I_562 0) : Int) = 0 → 1 ≤ ((I_562 5) : Int)) ∧ (((I_562 0) : Int) = 0 ∨ ((I_562 0) : Int) = 1) ∧ (I_550 2) ≤ (I_562 2)) ∧ ((((I_562 0) : Int) = 0 ∧ KP (F_564 0) (F_534 0)) ∨ (((I_562 0) : Int) = 1 ∧ ∃ v6 : Int, 0 ≤ v6 ∧ v6 < gz (F_534 0) 0 ∧ (F_564 0) = upd (F_534 0) (iZ (y + 2)).toNatClampNeg (iZ v6))) := hφ
                refine W.eq (g2 := F0 m 94 ls [.int (iZ (I_562 0))]) rfl ?_
                rcases p_569 with ⟨qt_570, et_570⟩ | ⟨qt_570, vt_570, g1t_570, g2t_570, ht_570⟩
                ·
                  rw [qt_570]
                  have kp_571 : KP (F_564 0) (F_534 0) := by first | exact et_570 | (rw [et_570]; exact KP.rf _)
                  refine lv_if_eq (tgt := 101) hx hb dX12_test_94 (by decide) (fun _ => ?_) (fun c => absurd (by decide) c)
                  refine lv_iconst (v := iZ 0) hx hb dX12_test_101 (by decide) ?_
                  exact EWz hx hb hr hlocks hS (fun i => [0, (I_562 1), (I_562 2), (I_562 3), (I_562 4), (I_562 5), (I_562 6)].getD i 0, fun i => [0].getD i 0, fun i => [(F_564 0)].getD i (fun _ => 0), fun i => [].getD i (fun _ => 0)) rfl rfl ⟨(show (0 ≤ ((I_562 2) : Int) ∧ ((I_562 2) : Int) ≤ (I_562 3)) ∧ (((I_562 3) : Int) ≤ Msz ∧ (Msz : Int) ≤ 900) ∧ (0 ≤ ((I_562 1) : Int) ∧ ((I_562 1) : Int) ≤ 4) ∧ (((I_562 1) : Int) = 0 ∨ ((I_562 2) : Int) < (I_562 3)) ∧ (-1 ≤ ((I_562 4) : Int) ∧ ((I_562 4) : Int) ≤ 100000) from ⟨⟨by omega, by omega⟩, ⟨by omega, by omega⟩, ⟨by omega, by omega⟩, by omega, by omega, by omega⟩), (show (0 ≤ ((I_562 5) : Int) ∧ ((I_562 5) : Int) ≤ 9) ∧ ((0 : Int) = 0 → 1 ≤ ((I_562 5) : Int)) ∧ ((0 : Int) = 0 ∨ (0 : Int) = 1) ∧ Mfr ≤ (I_562 2) from ⟨⟨by omega, by omega⟩, fun _ => by omega, by omega, by omega⟩), (show ((0 : Int) = 0 ∧ KP (F_564 0) Af) ∨ ((0 : Int) = 1 ∧ RWR (F_564 0) Af y ∧ (gz (F_564 0) y = 17 → 0 ≤ gz (F_564 0) (y + 1) ∧ gz (F_564 0) (y + 1) < gz Af 0) ∧ (gz (F_564 0) y = 1923 → 0 ≤ gz (F_564 0) (y + 2) ∧ gz (F_564 0) (y + 2) < 6)) from (Or.inl ⟨rfl, (KP.tr kp_571 (RWR.kp (RWR.tr w_543 w_403) (by omega)))⟩))⟩ (hP.sub [0, 1, 2, 3] rfl) (hD.sub [0, 1, 2, 3] rfl rfl) dX12_test_102
                ·
                  rw [qt_570]
                  have w_573 := RWR.up (y := y) ht_570 (by omega) (by omega) ⟨by omega, by omega⟩
                  have uu_574 := gz_upc (j := y) ht_570 ⟨by omega, by omega⟩ ⟨by omega, by omega⟩ (by omega)
                  have uu_575 := gz_upc (j := (y + 1)) ht_570 ⟨by omega, by omega⟩ ⟨by omega, by omega⟩ (by omega)
                  have uu_576 := gz_upc (j := (y + 2)) ht_570 ⟨by omega, by omega⟩ ⟨by omega, by omega⟩ (by omega)
                  have uu_577 := gz_upc (j := 0) ht_570 ⟨by omega, by omega⟩ ⟨by omega, by omega⟩ (by omega)
                  refine lv_if_eq (tgt := 101) hx hb dX12_test_94 (by decide) (fun c => absurd c (by decide)) (fun _ => ?_)
                  refine lv_iconst (v := iZ 1) hx hb dX12_test_97 (by decide) ?_
                  refine lv_goto (tgt := 102) hx hb dX12_test_98 (by decide) ?_
                  exact EWz hx hb hr hlocks hS (fun i => [1, (I_562 1), (I_562 2), (I_562 3), (I_562 4), (I_562 5), (I_562 6)].getD i 0, fun i => [0].getD i 0, fun i => [(F_564 0)].getD i (fun _ => 0), fun i => [].getD i (fun _ => 0)) rfl rfl ⟨(show (0 ≤ ((I_562 2) : Int) ∧ ((I_562 2) : Int) ≤ (I_562 3)) ∧ (((I_562 3) : Int) ≤ Msz ∧ (Msz : Int) ≤ 900) ∧ (0 ≤ ((I_562 1) : Int) ∧ ((I_562 1) : Int) ≤ 4) ∧ (((I_562 1) : Int) = 0 ∨ ((I_562 2) : Int) < (I_562 3)) ∧ (-1 ≤ ((I_562 4) : Int) ∧ ((I_562 4) : Int) ≤ 100000) from ⟨⟨by omega, by omega⟩, ⟨by omega, by omega⟩, ⟨by omega, by omega⟩, by omega, by omega, by omega⟩), (show (0 ≤ ((I_562 5) : Int) ∧ ((I_562 5) : Int) ≤ 9) ∧ ((1 : Int) = 0 → 1 ≤ ((I_562 5) : Int)) ∧ ((1 : Int) = 0 ∨ (1 : Int) = 1) ∧ Mfr ≤ (I_562 2) from ⟨⟨by omega, by omega⟩, fun _ => by omega, by omega, by omega⟩), (show ((1 : Int) = 0 ∧ KP (F_564 0) Af) ∨ ((1 : Int) = 1 ∧ RWR (F_564 0) Af y ∧ (gz (F_564 0) y = 17 → 0 ≤ gz (F_564 0) (y + 1) ∧ gz (F_564 0) (y + 1) < gz Af 0) ∧ (gz (F_564 0) y = 1923 → 0 ≤ gz (F_564 0) (y + 2) ∧ gz (F_564 0) (y + 2) < 6)) from (Or.inr ⟨rfl, (RWR.tr w_573 (RWR.tr w_543 w_403)), fun h9 => by omega, fun h9 => by omega⟩))⟩ (hP.sub [0, 1, 2, 3] rfl) (hD.sub [0, 1, 2, 3] rfl rfl) dX12_test_102
        ·
          have c_416 := (zeq (x := iZ (I_2 0)) (y := iZ 9) rfl rfl ⟨by omega, by omega⟩ ⟨by omega, by omega⟩).mp c_416
          refine lv_aload_n hx hb dX12_test_52 rfl (lv_at hl 1 rfl) ?_
          refine lv_iload_n hx hb dX12_test_53 rfl (lv_at hl 2 rfl) ?_
          refine lv_iconst (v := iZ 1) hx hb dX12_test_54 (by decide) ?_
          refine lv_iadd hx hb dX12_test_55 ?_
          refine lv_topi (fun x_579 ex_579 => ?_)
          obtain rfl : x_579 = iZ (y + 1) := ex_579.trans (iZ_add y 1)
          refine CSV (As := [.int (iZ (y + 1))]) (rest := []) (wc := [(hm, .inr (12, [.ref Ma, .ref Mn, .int (iZ Mst), .long Mtp, .long Mbt, .ref Ms, .ref My, .ref Mt, .ref Mp, .ref Mx, .int (iZ Mtd), .int (iZ Msz), .int (iZ (I_409 1)), .int (iZ (I_409 2)), .int (iZ (I_409 3)), .int (iZ (I_409 4)), .int (iZ Mfk), .int (iZ Mfp), .int (iZ Mfs), .int (iZ Mse), .int (iZ Mlt), .ref Mo, .int (iZ Mdp), .int (iZ Mct), .ref Mk, .ref Ml, .ref Mb, .ref Mh, .ref Mc, .int (iZ Mdr), .int (iZ Mrs), .ref Mz, .ref Mr, .ref Mq, .int (iZ Mit), .int (iZ Mmk)])), (Mx, .inl (k 0, 900, .inl Xf)), (Ma, .inl (k 1, 5340, .inl f_402)), (Mn, .inl (k 2, 36, .inr (.inl Nf)))]) (wr := []) hx hb hml hown hts hKK hP hD hS hA hSY hRR (m_rockTo l D k sa sv hm Ma Mn Ms My Mt Mp Mx Mo Mk Ml Mb Mh Mc Mz Mr Mq Mst Mtd Msz (I_409 1) (I_409 2) (I_409 3) (I_409 4) Mfk Mfp Mfs Mse Mlt Mdp Mct Mdr Mrs Mit Mmk Mtp Mbt Xf f_402 Nf (y + 1) ⟨⟨by omega, by omega⟩, ⟨by omega, by omega⟩, ⟨by omega, by omega⟩, by omega, by omega, by omega⟩ ⟨by omega, by omega⟩ ⟨by omega, by omega⟩ ⟨by omega, by omega⟩) ci_X12_rockTo qm_X12_225 ⟨Nat.le_of_ble_eq_true rfl, Nat.le_of_ble_eq_true rfl⟩ ⟨Nat.le_of_ble_eq_true rfl, Nat.le_of_ble_eq_true rfl⟩ [2, 3, 0, 1] [] rfl rfl rfl rfl rfl (by decide) 0 rfl rfl rfl hl.1 rfl (Nat.le_of_ble_eq_true rfl) dX12_test_56 (fun u_580 H locs hφ hP hD hS => ?_)
          obtain ⟨I_581, L_582, F_583, G_584⟩ := u_580
          obtain ⟨p_586, p_587, p_588⟩ : ((0 ≤ ((I_581 2) : Int) ∧ ((I_581 2) : Int) ≤ (I_581 3)) ∧ (((I_581 3) : Int) ≤ Msz ∧ (Msz : Int) ≤ 900) ∧ (0 ≤ ((I_581 1) : Int) ∧ ((I_581 1) : Int) ≤ 4) ∧ (((I_581 1) : Int) = 0 ∨ ((I_581 2) : Int) < (I_581 3)) ∧ (-1 ≤ ((I_581 4) : Int) ∧ ((I_581 4) : Int) ≤ 100000)) ∧ ((0 ≤ ((I_581 5) : Int) ∧ ((I_581 5) : Int) ≤ 9) ∧ (((I_581 0) : Int) = 0 → 1 ≤ ((I_581 5) : Int)) ∧ (((I_581 0) : Int) = 0 ∨ ((I_581 0) : Int) = 1) ∧ (I_409 2) ≤ (I_581 2)) ∧ ((((I_581 0) : Int) = 0 ∧ KP (F_583 0) f_402) ∨ (((I_581 0) : Int) = 1 ∧ ∃ v6 : Int, 0 ≤ v6 ∧ v6 < gz f_402 0 ∧ (F_583 0) = upd f_402 (iZ (y + 1)).toNatClampNeg (iZ v6))) := hφ
          refine W.eq (g2 := F0 m 59 ls [.int (iZ (I_581 0))]) rfl ?_
          rcases p_588 with ⟨qt_589, et_589⟩ | ⟨qt_589, vt_589, g1t_589, g2t_589, ht_589⟩
          ·
            rw [qt_589]
            have kp_590 : KP (F_583 0) f_402 := by first | exact et_589 | (rw [et_589]; exact KP.rf _)
            exact EWz hx hb hr hlocks hS (fun i => [0, (I_581 1), (I_581 2), (I_581 3), (I_581 4), (I_581 5), (I_581 6)].getD i 0, fun i => [0].getD i 0, fun i => [(F_583 0)].getD i (fun _ => 0), fun i => [].getD i (fun _ => 0)) rfl rfl ⟨(show (0 ≤ ((I_581 2) : Int) ∧ ((I_581 2) : Int) ≤ (I_581 3)) ∧ (((I_581 3) : Int) ≤ Msz ∧ (Msz : Int) ≤ 900) ∧ (0 ≤ ((I_581 1) : Int) ∧ ((I_581 1) : Int) ≤ 4) ∧ (((I_581 1) : Int) = 0 ∨ ((I_581 2) : Int) < (I_581 3)) ∧ (-1 ≤ ((I_581 4) : Int) ∧ ((I_581 4) : Int) ≤ 100000) from ⟨⟨by omega, by omega⟩, ⟨by omega, by omega⟩, ⟨by omega, by omega⟩, by omega, by omega, by omega⟩), (show (0 ≤ ((I_581 5) : Int) ∧ ((I_581 5) : Int) ≤ 9) ∧ ((0 : Int) = 0 → 1 ≤ ((I_581 5) : Int)) ∧ ((0 : Int) = 0 ∨ (0 : Int) = 1) ∧ Mfr ≤ (I_581 2) from ⟨⟨by omega, by omega⟩, fun _ => by omega, by omega, by omega⟩), (show ((0 : Int) = 0 ∧ KP (F_583 0) Af) ∨ ((0 : Int) = 1 ∧ RWR (F_583 0) Af y ∧ (gz (F_583 0) y = 17 → 0 ≤ gz (F_583 0) (y + 1) ∧ gz (F_583 0) (y + 1) < gz Af 0) ∧ (gz (F_583 0) y = 1923 → 0 ≤ gz (F_583 0) (y + 2) ∧ gz (F_583 0) (y + 2) < 6)) from (Or.inl ⟨rfl, (KP.tr kp_590 (RWR.kp w_403 (by omega)))⟩))⟩ (hP.sub [0, 1, 2, 3] rfl) (hD.sub [0, 1, 2, 3] rfl rfl) dX12_test_59
          ·
            rw [qt_589]
            have w_591 := RWR.up (y := y) ht_589 (by omega) (by omega) ⟨by omega, by omega⟩
            have uu_592 := gz_upc (j := y) ht_589 ⟨by omega, by omega⟩ ⟨by omega, by omega⟩ (by omega)
            have uu_593 := gz_upc (j := (y + 1)) ht_589 ⟨by omega, by omega⟩ ⟨by omega, by omega⟩ (by omega)
            have uu_594 := gz_upc (j := (y + 2)) ht_589 ⟨by omega, by omega⟩ ⟨by omega, by omega⟩ (by omega)
            have uu_595 := gz_upc (j := 0) ht_589 ⟨by omega, by omega⟩ ⟨by omega, by omega⟩ (by omega)
            exact EWz hx hb hr hlocks hS (fun i => [1, (I_581 1), (I_581 2), (I_581 3), (I_581 4), (I_581 5), (I_581 6)].getD i 0, fun i => [0].getD i 0, fun i => [(F_583 0)].getD i (fun _ => 0), fun i => [].getD i (fun _ => 0)) rfl rfl ⟨(show (0 ≤ ((I_581 2) : Int) ∧ ((I_581 2) : Int) ≤ (I_581 3)) ∧ (((I_581 3) : Int) ≤ Msz ∧ (Msz : Int) ≤ 900) ∧ (0 ≤ ((I_581 1) : Int) ∧ ((I_581 1) : Int) ≤ 4) ∧ (((I_581 1) : Int) = 0 ∨ ((I_581 2) : Int) < (I_581 3)) ∧ (-1 ≤ ((I_581 4) : Int) ∧ ((I_581 4) : Int) ≤ 100000) from ⟨⟨by omega, by omega⟩, ⟨by omega, by omega⟩, ⟨by omega, by omega⟩, by omega, by omega, by omega⟩), (show (0 ≤ ((I_581 5) : Int) ∧ ((I_581 5) : Int) ≤ 9) ∧ ((1 : Int) = 0 → 1 ≤ ((I_581 5) : Int)) ∧ ((1 : Int) = 0 ∨ (1 : Int) = 1) ∧ Mfr ≤ (I_581 2) from ⟨⟨by omega, by omega⟩, fun _ => by omega, by omega, by omega⟩), (show ((1 : Int) = 0 ∧ KP (F_583 0) Af) ∨ ((1 : Int) = 1 ∧ RWR (F_583 0) Af y ∧ (gz (F_583 0) y = 17 → 0 ≤ gz (F_583 0) (y + 1) ∧ gz (F_583 0) (y + 1) < gz Af 0) ∧ (gz (F_583 0) y = 1923 → 0 ≤ gz (F_583 0) (y + 2) ∧ gz (F_583 0) (y + 2) < 6)) from (Or.inr ⟨rfl, (RWR.tr w_591 w_403), fun h9 => by omega, fun h9 => by omega⟩))⟩ (hP.sub [0, 1, 2, 3] rfl) (hD.sub [0, 1, 2, 3] rfl rfl) dX12_test_59
      ·
        have c_400 := mt (zeq (x := iZ (I_2 0)) (y := iZ 23) rfl rfl ⟨by omega, by omega⟩ ⟨by omega, by omega⟩).mpr c_400
        refine lv_aload_n hx hb dX12_test_25 rfl (lv_at hl 1 rfl) ?_
        refine lv_iconst (v := iZ 2) hx hb dX12_test_26 (by decide) ?_
        refine CWV (As := [.int (iZ 2)]) (rest := []) (wc := [(hm, .inr (12, [.ref Ma, .ref Mn, .int (iZ Mst), .long Mtp, .long Mbt, .ref Ms, .ref My, .ref Mt, .ref Mp, .ref Mx, .int (iZ Mtd), .int (iZ Msz), .int (iZ Mtk), .int (iZ Mfr), .int (iZ Men), .int (iZ Mva), .int (iZ Mfk), .int (iZ Mfp), .int (iZ Mfs), .int (iZ Mse), .int (iZ Mlt), .ref Mo, .int (iZ Mdp), .int (iZ Mct), .ref Mk, .ref Ml, .ref Mb, .ref Mh, .ref Mc, .int (iZ Mdr), .int (iZ Mrs), .ref Mz, .ref Mr, .ref Mq, .int (iZ Mit), .int (iZ Mmk)]))]) (wr := [(Ma, .inl (k 1, 5340, .inl Af)), (Mn, .inl (k 2, 36, .inr (.inl Nf))), (Mx, .inl (k 0, 900, .inl Xf))]) hx hb hml hown hts hKK hP hD hS hA (m_fails l D k hm Ma Mn Ms My Mt Mp Mx Mo Mk Ml Mb Mh Mc Mz Mr Mq Mst Mtd Msz Mtk Mfr Men Mva Mfk Mfp Mfs Mse Mlt Mdp Mct Mdr Mrs Mit Mmk Mtp Mbt 2 ⟨by omega, by omega⟩ ⟨by omega, by omega⟩ ⟨by omega, by omega⟩) ci_X12_fails qm_X12_164 ⟨Nat.le_of_ble_eq_true rfl, Nat.le_of_ble_eq_true rfl⟩ ⟨Nat.le_of_ble_eq_true rfl, Nat.le_of_ble_eq_true rfl⟩ [2] [0, 1, 3] rfl rfl rfl rfl rfl (by decide) 0 rfl rfl rfl hl.1 rfl (Nat.le_of_ble_eq_true rfl) dX12_test_27 (fun u_596 H locs hφ hP hD hS => ?_)
        obtain ⟨I_597, L_598, F_599, G_600⟩ := u_596
        have p_602 : 1 ≤ ((I_597 1) : Int) ∧ ((I_597 1) : Int) ≤ 9 := hφ
        refine W.eq (g2 := F0 m 30 ls [.int (iZ 0)]) rfl ?_
        exact EWz hx hb hr hlocks hS (fun i => [0, Mtk, Mfr, Men, Mva, (I_597 1), (I_597 2)].getD i 0, fun i => [0].getD i 0, fun i => [Af].getD i (fun _ => 0), fun i => [].getD i (fun _ => 0)) rfl rfl ⟨(show (0 ≤ (Mfr : Int) ∧ (Mfr : Int) ≤ Men) ∧ ((Men : Int) ≤ Msz ∧ (Msz : Int) ≤ 900) ∧ (0 ≤ (Mtk : Int) ∧ (Mtk : Int) ≤ 4) ∧ ((Mtk : Int) = 0 ∨ (Mfr : Int) < Men) ∧ (-1 ≤ (Mva : Int) ∧ (Mva : Int) ≤ 100000) from ⟨⟨by omega, by omega⟩, ⟨by omega, by omega⟩, ⟨by omega, by omega⟩, by omega, by omega, by omega⟩), (show (0 ≤ ((I_597 1) : Int) ∧ ((I_597 1) : Int) ≤ 9) ∧ ((0 : Int) = 0 → 1 ≤ ((I_597 1) : Int)) ∧ ((0 : Int) = 0 ∨ (0 : Int) = 1) ∧ Mfr ≤ Mfr from ⟨⟨by omega, by omega⟩, fun _ => by omega, by omega, by omega⟩), (show ((0 : Int) = 0 ∧ KP Af Af) ∨ ((0 : Int) = 1 ∧ RWR Af Af y ∧ (gz Af y = 17 → 0 ≤ gz Af (y + 1) ∧ gz Af (y + 1) < gz Af 0) ∧ (gz Af y = 1923 → 0 ≤ gz Af (y + 2) ∧ gz Af (y + 2) < 6)) from (Or.inl ⟨rfl, (KP.rf _)⟩))⟩ (hP.sub [3, 2, 0, 1] rfl) (hD.sub [3, 2, 0, 1] rfl rfl) dX12_test_30
set_option maxHeartbeats 4000000 in
set_option maxRecDepth 100000 in
theorem m_yearOrder (l : Launch) (D : va_G) (k : Nat → ClassId) (sa sv : Nat) (hm : Nat) (Ma : Nat) (Mn : Nat) (Ms : Nat) (My : Nat) (Mt : Nat) (Mp : Nat) (Mx : Nat) (Mo : Nat) (Mk : Nat) (Ml : Nat) (Mb : Nat) (Mh : Nat) (Mc : Nat) (Mz : Nat) (Mr : Nat) (Mq : Nat) (Mst : Int) (Mtd : Int) (Msz : Int) (Mtk : Int) (Mfr : Int) (Men : Int) (Mva : Int) (Mfk : Int) (Mfp : Int) (Mfs : Int) (Mse : Int) (Mlt : Int) (Mdp : Int) (Mct : Int) (Mdr : Int) (Mrs : Int) (Mit : Int) (Mmk : Int) (Mtp : Int64) (Mbt : Int64) (Xf : Nat → Int32) (Af : Nat → Int32) (Nf : Nat → Int64) (x : Int) (y : Int) (hTI : (0 ≤ (Mfr : Int) ∧ (Mfr : Int) ≤ Men) ∧ ((Men : Int) ≤ Msz ∧ (Msz : Int) ≤ 900) ∧ (0 ≤ (Mtk : Int) ∧ (Mtk : Int) ≤ 4) ∧ ((Mtk : Int) = 0 ∨ (Mfr : Int) < Men) ∧ (-1 ≤ (Mva : Int) ∧ (Mva : Int) ≤ 100000)) (hFS : 0 ≤ Mfs ∧ Mfs ≤ 9) (hn0 : 0 ≤ gz Af 0 ∧ gz Af 0 ≤ 6) (h9x : 15 ≤ x ∧ x ≤ 22) (h9y : 4080 ≤ y ∧ y ≤ 4434) (hky : gz Af y = x) : SD (σ := ((Nat → Int) × (Nat → Int64) × (Nat → Nat → Int32) × (Nat → Nat → Int64))) sa sv l yX12_yearOrder cX12_yearOrder 3 (some .boolean) 9 D k [.ref hm, .int (iZ x), .int (iZ y)] [(hm, .inr (12, [.ref Ma, .ref Mn, .int (iZ Mst), .long Mtp, .long Mbt, .ref Ms, .ref My, .ref Mt, .ref Mp, .ref Mx, .int (iZ Mtd), .int (iZ Msz), .int (iZ Mtk), .int (iZ Mfr), .int (iZ Men), .int (iZ Mva), .int (iZ Mfk), .int (iZ Mfp), .int (iZ Mfs), .int (iZ Mse), .int (iZ Mlt), .ref Mo, .int (iZ Mdp), .int (iZ Mct), .ref Mk, .ref Ml, .ref Mb, .ref Mh, .ref Mc, .int (iZ Mdr), .int (iZ Mrs), .ref Mz, .ref Mr, .ref Mq, .int (iZ Mit), .int (iZ Mmk)])), (Mx, .inl (k 0, 900, .inl Xf)), (Ma, .inl (k 1, 5340, .inl Af)), (Mn, .inl (k 2, 36, .inr (.inl Nf)))] (fun u => some (.int (iZ (u.1 0)))) (fun u => ((0 ≤ ((u.1 2) : Int) ∧ ((u.1 2) : Int) ≤ (u.1 3)) ∧ (((u.1 3) : Int) ≤ Msz ∧ (Msz : Int) ≤ 900) ∧ (0 ≤ ((u.1 1) : Int) ∧ ((u.1 1) : Int) ≤ 4) ∧ (((u.1 1) : Int) = 0 ∨ ((u.1 2) : Int) < (u.1 3)) ∧ (-1 ≤ ((u.1 4) : Int) ∧ ((u.1 4) : Int) ≤ 100000)) ∧ ((0 ≤ ((u.1 5) : Int) ∧ ((u.1 5) : Int) ≤ 9) ∧ (((u.1 0) : Int) = 0 → 1 ≤ ((u.1 5) : Int)) ∧ (((u.1 0) : Int) = 0 ∨ ((u.1 0) : Int) = 1) ∧ Mfr ≤ (u.1 2)) ∧ ((((u.1 0) : Int) = 0 ∧ KP (u.2.2.1 0) Af) ∨ (((u.1 0) : Int) = 1 ∧ RWR (u.2.2.1 0) Af y ∧ (gz (u.2.2.1 0) y = 17 → 0 ≤ gz (u.2.2.1 0) (y + 1) ∧ gz (u.2.2.1 0) (y + 1) < gz Af 0) ∧ (gz (u.2.2.1 0) y = 1923 → 0 ≤ gz (u.2.2.1 0) (y + 2) ∧ gz (u.2.2.1 0) (y + 2) < 6) ∧ ((x : Int) = 21 → gz (u.2.2.1 0) y = 21)))) (fun u => [(hm, .inr (12, [.ref Ma, .ref Mn, .int (iZ Mst), .long Mtp, .long Mbt, .ref Ms, .ref My, .ref Mt, .ref Mp, .ref Mx, .int (iZ Mtd), .int (iZ Msz), .int (iZ (u.1 1)), .int (iZ (u.1 2)), .int (iZ (u.1 3)), .int (iZ (u.1 4)), .int (iZ Mfk), .int (iZ (u.1 6)), .int (iZ (u.1 5)), .int (iZ Mse), .int (iZ Mlt), .ref Mo, .int (iZ Mdp), .int (iZ Mct), .ref Mk, .ref Ml, .ref Mb, .ref Mh, .ref Mc, .int (iZ Mdr), .int (iZ Mrs), .ref Mz, .ref Mr, .ref Mq, .int (iZ Mit), .int (iZ Mmk)])), (Mx, .inl (k 0, 900, .inl Xf)), (Ma, .inl (k 1, 5340, .inl (u.2.2.1 0))), (Mn, .inl (k 2, 36, .inr (.inl Nf)))]) := by
  refine MSS (by decide) (Nat.le_of_ble_eq_true rfl) (fun p e s m below meth c ls A hx hb hml hr hlocks hin hts hown hKK hP hD hS hA hSY hRR hl => ?_)
  have hK := hKK.1
  have hl : lv_has ls 3 [(0, .ref hm), (1, .int (iZ x)), (2, .int (iZ y))] := hl
  refine lv_iload_n hx hb dX12_yearOrder_0 rfl (lv_at hl 1 rfl) ?_
  rcases Classical.em (x = 15) with c_1 | c_1
  ·
    refine lv_tableIn (tgt := 40) (off := 39) hx hb dX12_yearOrder_1 (by rw [iZ_ti ⟨by omega, by omega⟩]; omega) (by rw [iZ_ti ⟨by omega, by omega⟩]; omega) (by rw [iZ_ti ⟨by omega, by omega⟩, c_1]; rfl) (by decide) ?_
    refine lv_aload_n hx hb dX12_yearOrder_40 rfl (lv_at hl 0 rfl) ?_
    refine lv_iload_n hx hb dX12_yearOrder_41 rfl (lv_at hl 2 rfl) ?_
    refine lv_iconst (v := iZ 1) hx hb dX12_yearOrder_42 (by decide) ?_
    refine lv_iadd hx hb dX12_yearOrder_43 ?_
    refine lv_topi (fun x_2 ex_2 => ?_)
    obtain rfl : x_2 = iZ (y + 1) := ex_2.trans (iZ_add y 1)
    refine lv_iconst (v := iZ 1) hx hb dX12_yearOrder_44 (by decide) ?_
    refine lv_bipush (v := iZ 99) hx hb dX12_yearOrder_45 (by decide) ?_
    refine CWV (As := [.int (iZ (y + 1)), .int (iZ 1), .int (iZ 99)]) (rest := []) (wc := [(hm, .inr (12, [.ref Ma, .ref Mn, .int (iZ Mst), .long Mtp, .long Mbt, .ref Ms, .ref My, .ref Mt, .ref Mp, .ref Mx, .int (iZ Mtd), .int (iZ Msz), .int (iZ Mtk), .int (iZ Mfr), .int (iZ Men), .int (iZ Mva), .int (iZ Mfk), .int (iZ Mfp), .int (iZ Mfs), .int (iZ Mse), .int (iZ Mlt), .ref Mo, .int (iZ Mdp), .int (iZ Mct), .ref Mk, .ref Ml, .ref Mb, .ref Mh, .ref Mc, .int (iZ Mdr), .int (iZ Mrs), .ref Mz, .ref Mr, .ref Mq, .int (iZ Mit), .int (iZ Mmk)])), (Mx, .inl (k 0, 900, .inl Xf)), (Ma, .inl (k 1, 5340, .inl Af))]) (wr := [(Mn, .inl (k 2, 36, .inr (.inl Nf)))]) hx hb hml hown hts hKK hP hD hS hA (m_number l D k hm Ma Mn Ms My Mt Mp Mx Mo Mk Ml Mb Mh Mc Mz Mr Mq Mst Mtd Msz Mtk Mfr Men Mva Mfk Mfp Mfs Mse Mlt Mdp Mct Mdr Mrs Mit Mmk Mtp Mbt Xf Af (y + 1) 1 99 ⟨⟨by omega, by omega⟩, ⟨by omega, by omega⟩, ⟨by omega, by omega⟩, by omega, by omega, by omega⟩ ⟨by omega, by omega⟩ ⟨by omega, by omega⟩ ⟨by omega, by omega⟩ ⟨by omega, by omega⟩) ci_X12_number qm_X12_188 ⟨Nat.le_of_ble_eq_true rfl, Nat.le_of_ble_eq_true rfl⟩ ⟨Nat.le_of_ble_eq_true rfl, Nat.le_of_ble_eq_true rfl⟩ [0, 1, 2] [3] rfl rfl rfl rfl rfl (by decide) 0 rfl rfl rfl hl.1 rfl (Nat.le_of_ble_eq_true rfl) dX12_yearOrder_47 (fun u_3 H locs hφ hP hD hS => ?_)
    obtain ⟨I_4, L_5, F_6, G_7⟩ := u_3
    obtain ⟨p_9, p_10, p_11⟩ : ((0 ≤ ((I_4 2) : Int) ∧ ((I_4 2) : Int) ≤ (I_4 3)) ∧ (((I_4 3) : Int) ≤ Msz ∧ (Msz : Int) ≤ 900) ∧ (0 ≤ ((I_4 1) : Int) ∧ ((I_4 1) : Int) ≤ 4) ∧ (((I_4 1) : Int) = 0 ∨ ((I_4 2) : Int) < (I_4 3)) ∧ (-1 ≤ ((I_4 4) : Int) ∧ ((I_4 4) : Int) ≤ 100000)) ∧ ((0 ≤ ((I_4 5) : Int) ∧ ((I_4 5) : Int) ≤ 9) ∧ (((I_4 0) : Int) = 0 → 1 ≤ ((I_4 5) : Int)) ∧ (((I_4 0) : Int) = 0 ∨ ((I_4 0) : Int) = 1) ∧ Mfr ≤ (I_4 2)) ∧ ((((I_4 0) : Int) = 0 ∧ (F_6 0) = Af) ∨ (((I_4 0) : Int) = 1 ∧ ∃ v6 : Int, 1 ≤ v6 ∧ v6 ≤ 99 ∧ (F_6 0) = upd Af (iZ (y + 1)).toNatClampNeg (iZ v6))) := hφ
    refine W.eq (g2 := F0 m 50 ls [.int (iZ (I_4 0))]) rfl ?_
    rcases p_11 with ⟨qt_12, et_12⟩ | ⟨qt_12, vt_12, g1t_12, g2t_12, ht_12⟩
    ·
      rw [qt_12]
      have kp_13 : KP (F_6 0) Af := by first | exact et_12 | (rw [et_12]; exact KP.rf _)
      exact EWz hx hb hr hlocks hS (fun i => [0, (I_4 1), (I_4 2), (I_4 3), (I_4 4), (I_4 5), (I_4 6)].getD i 0, fun i => [0].getD i 0, fun i => [(F_6 0)].getD i (fun _ => 0), fun i => [].getD i (fun _ => 0)) rfl rfl ⟨(show (0 ≤ ((I_4 2) : Int) ∧ ((I_4 2) : Int) ≤ (I_4 3)) ∧ (((I_4 3) : Int) ≤ Msz ∧ (Msz : Int) ≤ 900) ∧ (0 ≤ ((I_4 1) : Int) ∧ ((I_4 1) : Int) ≤ 4) ∧ (((I_4 1) : Int) = 0 ∨ ((I_4 2) : Int) < (I_4 3)) ∧ (-1 ≤ ((I_4 4) : Int) ∧ ((I_4 4) : Int) ≤ 100000) from ⟨⟨by omega, by omega⟩, ⟨by omega, by omega⟩, ⟨by omega, by omega⟩, by omega, by omega, by omega⟩), (show (0 ≤ ((I_4 5) : Int) ∧ ((I_4 5) : Int) ≤ 9) ∧ ((0 : Int) = 0 → 1 ≤ ((I_4 5) : Int)) ∧ ((0 : Int) = 0 ∨ (0 : Int) = 1) ∧ Mfr ≤ (I_4 2) from ⟨⟨by omega, by omega⟩, fun _ => by omega, by omega, by omega⟩), (show ((0 : Int) = 0 ∧ KP (F_6 0) Af) ∨ ((0 : Int) = 1 ∧ RWR (F_6 0) Af y ∧ (gz (F_6 0) y = 17 → 0 ≤ gz (F_6 0) (y + 1) ∧ gz (F_6 0) (y + 1) < gz Af 0) ∧ (gz (F_6 0) y = 1923 → 0 ≤ gz (F_6 0) (y + 2) ∧ gz (F_6 0) (y + 2) < 6) ∧ ((x : Int) = 21 → gz (F_6 0) y = 21)) from (Or.inl ⟨rfl, kp_13⟩))⟩ (hP.sub [1, 2, 3, 0] rfl) (hD.sub [1, 2, 3, 0] rfl rfl) dX12_yearOrder_50
    ·
      rw [qt_12]
      have w_14 := RWR.up (y := y) ht_12 (by omega) (by omega) ⟨by omega, by omega⟩
      have uu_15 := gz_upc (j := y) ht_12 ⟨by omega, by omega⟩ ⟨by omega, by omega⟩ (by omega)
      have uu_16 := gz_upc (j := (y + 1)) ht_12 ⟨by omega, by omega⟩ ⟨by omega, by omega⟩ (by omega)
      have uu_17 := gz_upc (j := (y + 2)) ht_12 ⟨by omega, by omega⟩ ⟨by omega, by omega⟩ (by omega)
      have uu_18 := gz_upc (j := 0) ht_12 ⟨by omega, by omega⟩ ⟨by omega, by omega⟩ (by omega)
      exact EWz hx hb hr hlocks hS (fun i => [1, (I_4 1), (I_4 2), (I_4 3), (I_4 4), (I_4 5), (I_4 6)].getD i 0, fun i => [0].getD i 0, fun i => [(F_6 0)].getD i (fun _ => 0), fun i => [].getD i (fun _ => 0)) rfl rfl ⟨(show (0 ≤ ((I_4 2) : Int) ∧ ((I_4 2) : Int) ≤ (I_4 3)) ∧ (((I_4 3) : Int) ≤ Msz ∧ (Msz : Int) ≤ 900) ∧ (0 ≤ ((I_4 1) : Int) ∧ ((I_4 1) : Int) ≤ 4) ∧ (((I_4 1) : Int) = 0 ∨ ((I_4 2) : Int) < (I_4 3)) ∧ (-1 ≤ ((I_4 4) : Int) ∧ ((I_4 4) : Int) ≤ 100000) from ⟨⟨by omega, by omega⟩, ⟨by omega, by omega⟩, ⟨by omega, by omega⟩, by omega, by omega, by omega⟩), (show (0 ≤ ((I_4 5) : Int) ∧ ((I_4 5) : Int) ≤ 9) ∧ ((1 : Int) = 0 → 1 ≤ ((I_4 5) : Int)) ∧ ((1 : Int) = 0 ∨ (1 : Int) = 1) ∧ Mfr ≤ (I_4 2) from ⟨⟨by omega, by omega⟩, fun _ => by omega, by omega, by omega⟩), (show ((1 : Int) = 0 ∧ KP (F_6 0) Af) ∨ ((1 : Int) = 1 ∧ RWR (F_6 0) Af y ∧ (gz (F_6 0) y = 17 → 0 ≤ gz (F_6 0) (y + 1) ∧ gz (F_6 0) (y + 1) < gz Af 0) ∧ (gz (F_6 0) y = 1923 → 0 ≤ gz (F_6 0) (y + 2) ∧ gz (F_6 0) (y + 2) < 6) ∧ ((x : Int) = 21 → gz (F_6 0) y = 21)) from (Or.inr ⟨rfl, w_14, fun h9 => by omega, fun h9 => by omega, fun h9 => by omega⟩))⟩ (hP.sub [1, 2, 3, 0] rfl) (hD.sub [1, 2, 3, 0] rfl rfl) dX12_yearOrder_50
  ·
    rcases Classical.em (x = 16) with c_19 | c_19
    ·
      refine lv_tableIn (tgt := 51) (off := 50) hx hb dX12_yearOrder_1 (by rw [iZ_ti ⟨by omega, by omega⟩]; omega) (by rw [iZ_ti ⟨by omega, by omega⟩]; omega) (by rw [iZ_ti ⟨by omega, by omega⟩, c_19]; rfl) (by decide) ?_
      refine lv_aload_n hx hb dX12_yearOrder_51 rfl (lv_at hl 0 rfl) ?_
      refine lv_iload_n hx hb dX12_yearOrder_52 rfl (lv_at hl 2 rfl) ?_
      refine lv_iconst (v := iZ 1) hx hb dX12_yearOrder_53 (by decide) ?_
      refine lv_iadd hx hb dX12_yearOrder_54 ?_
      refine lv_topi (fun x_20 ex_20 => ?_)
      obtain rfl : x_20 = iZ (y + 1) := ex_20.trans (iZ_add y 1)
      refine CSV (As := [.int (iZ (y + 1))]) (rest := []) (wc := [(hm, .inr (12, [.ref Ma, .ref Mn, .int (iZ Mst), .long Mtp, .long Mbt, .ref Ms, .ref My, .ref Mt, .ref Mp, .ref Mx, .int (iZ Mtd), .int (iZ Msz), .int (iZ Mtk), .int (iZ Mfr), .int (iZ Men), .int (iZ Mva), .int (iZ Mfk), .int (iZ Mfp), .int (iZ Mfs), .int (iZ Mse), .int (iZ Mlt), .ref Mo, .int (iZ Mdp), .int (iZ Mct), .ref Mk, .ref Ml, .ref Mb, .ref Mh, .ref Mc, .int (iZ Mdr), .int (iZ Mrs), .ref Mz, .ref Mr, .ref Mq, .int (iZ Mit), .int (iZ Mmk)])), (Mx, .inl (k 0, 900, .inl Xf)), (Ma, .inl (k 1, 5340, .inl Af)), (Mn, .inl (k 2, 36, .inr (.inl Nf)))]) (wr := []) hx hb hml hown hts hKK hP hD hS hA hSY hRR (m_rockTo l D k sa sv hm Ma Mn Ms My Mt Mp Mx Mo Mk Ml Mb Mh Mc Mz Mr Mq Mst Mtd Msz Mtk Mfr Men Mva Mfk Mfp Mfs Mse Mlt Mdp Mct Mdr Mrs Mit Mmk Mtp Mbt Xf Af Nf (y + 1) ⟨⟨by omega, by omega⟩, ⟨by omega, by omega⟩, ⟨by omega, by omega⟩, by omega, by omega, by omega⟩ ⟨by omega, by omega⟩ ⟨by omega, by omega⟩ ⟨by omega, by omega⟩) ci_X12_rockTo qm_X12_225 ⟨Nat.le_of_ble_eq_true rfl, Nat.le_of_ble_eq_true rfl⟩ ⟨Nat.le_of_ble_eq_true rfl, Nat.le_of_ble_eq_true rfl⟩ [0, 1, 2, 3] [] rfl rfl rfl rfl rfl (by decide) 0 rfl rfl rfl hl.1 rfl (Nat.le_of_ble_eq_true rfl) dX12_yearOrder_55 (fun u_21 H locs hφ hP hD hS => ?_)
      obtain ⟨I_22, L_23, F_24, G_25⟩ := u_21
      obtain ⟨p_27, p_28, p_29⟩ : ((0 ≤ ((I_22 2) : Int) ∧ ((I_22 2) : Int) ≤ (I_22 3)) ∧ (((I_22 3) : Int) ≤ Msz ∧ (Msz : Int) ≤ 900) ∧ (0 ≤ ((I_22 1) : Int) ∧ ((I_22 1) : Int) ≤ 4) ∧ (((I_22 1) : Int) = 0 ∨ ((I_22 2) : Int) < (I_22 3)) ∧ (-1 ≤ ((I_22 4) : Int) ∧ ((I_22 4) : Int) ≤ 100000)) ∧ ((0 ≤ ((I_22 5) : Int) ∧ ((I_22 5) : Int) ≤ 9) ∧ (((I_22 0) : Int) = 0 → 1 ≤ ((I_22 5) : Int)) ∧ (((I_22 0) : Int) = 0 ∨ ((I_22 0) : Int) = 1) ∧ Mfr ≤ (I_22 2)) ∧ ((((I_22 0) : Int) = 0 ∧ KP (F_24 0) Af) ∨ (((I_22 0) : Int) = 1 ∧ ∃ v6 : Int, 0 ≤ v6 ∧ v6 < gz Af 0 ∧ (F_24 0) = upd Af (iZ (y + 1)).toNatClampNeg (iZ v6))) := hφ
      refine W.eq (g2 := F0 m 58 ls [.int (iZ (I_22 0))]) rfl ?_
      rcases p_29 with ⟨qt_30, et_30⟩ | ⟨qt_30, vt_30, g1t_30, g2t_30, ht_30⟩
      ·
        rw [qt_30]
        have kp_31 : KP (F_24 0) Af := by first | exact et_30 | (rw [et_30]; exact KP.rf _)
        refine lv_if_eq (tgt := 77) hx hb dX12_yearOrder_58 (by decide) (fun _ => ?_) (fun c => absurd (by decide) c)
        refine lv_iconst (v := iZ 0) hx hb dX12_yearOrder_77 (by decide) ?_
        exact EWz hx hb hr hlocks hS (fun i => [0, (I_22 1), (I_22 2), (I_22 3), (I_22 4), (I_22 5), (I_22 6)].getD i 0, fun i => [0].getD i 0, fun i => [(F_24 0)].getD i (fun _ => 0), fun i => [].getD i (fun _ => 0)) rfl rfl ⟨(show (0 ≤ ((I_22 2) : Int) ∧ ((I_22 2) : Int) ≤ (I_22 3)) ∧ (((I_22 3) : Int) ≤ Msz ∧ (Msz : Int) ≤ 900) ∧ (0 ≤ ((I_22 1) : Int) ∧ ((I_22 1) : Int) ≤ 4) ∧ (((I_22 1) : Int) = 0 ∨ ((I_22 2) : Int) < (I_22 3)) ∧ (-1 ≤ ((I_22 4) : Int) ∧ ((I_22 4) : Int) ≤ 100000) from ⟨⟨by omega, by omega⟩, ⟨by omega, by omega⟩, ⟨by omega, by omega⟩, by omega, by omega, by omega⟩), (show (0 ≤ ((I_22 5) : Int) ∧ ((I_22 5) : Int) ≤ 9) ∧ ((0 : Int) = 0 → 1 ≤ ((I_22 5) : Int)) ∧ ((0 : Int) = 0 ∨ (0 : Int) = 1) ∧ Mfr ≤ (I_22 2) from ⟨⟨by omega, by omega⟩, fun _ => by omega, by omega, by omega⟩), (show ((0 : Int) = 0 ∧ KP (F_24 0) Af) ∨ ((0 : Int) = 1 ∧ RWR (F_24 0) Af y ∧ (gz (F_24 0) y = 17 → 0 ≤ gz (F_24 0) (y + 1) ∧ gz (F_24 0) (y + 1) < gz Af 0) ∧ (gz (F_24 0) y = 1923 → 0 ≤ gz (F_24 0) (y + 2) ∧ gz (F_24 0) (y + 2) < 6) ∧ ((x : Int) = 21 → gz (F_24 0) y = 21)) from (Or.inl ⟨rfl, kp_31⟩))⟩ (hP.sub [0, 1, 2, 3] rfl) (hD.sub [0, 1, 2, 3] rfl rfl) dX12_yearOrder_78
      ·
        rw [qt_30]
        have w_33 := RWR.up (y := y) ht_30 (by omega) (by omega) ⟨by omega, by omega⟩
        have uu_34 := gz_upc (j := y) ht_30 ⟨by omega, by omega⟩ ⟨by omega, by omega⟩ (by omega)
        have uu_35 := gz_upc (j := (y + 1)) ht_30 ⟨by omega, by omega⟩ ⟨by omega, by omega⟩ (by omega)
        have uu_36 := gz_upc (j := (y + 2)) ht_30 ⟨by omega, by omega⟩ ⟨by omega, by omega⟩ (by omega)
        have uu_37 := gz_upc (j := 0) ht_30 ⟨by omega, by omega⟩ ⟨by omega, by omega⟩ (by omega)
        refine lv_if_eq (tgt := 77) hx hb dX12_yearOrder_58 (by decide) (fun c => absurd c (by decide)) (fun _ => ?_)
        refine lv_aload_n hx hb dX12_yearOrder_61 rfl (lv_at hl 0 rfl) ?_
        refine lv_iload_n hx hb dX12_yearOrder_62 rfl (lv_at hl 2 rfl) ?_
        refine lv_iconst (v := iZ 2) hx hb dX12_yearOrder_63 (by decide) ?_
        refine lv_iadd hx hb dX12_yearOrder_64 ?_
        refine lv_topi (fun x_39 ex_39 => ?_)
        obtain rfl : x_39 = iZ (y + 2) := ex_39.trans (iZ_add y 2)
        refine lv_iconst (v := iZ 0) hx hb dX12_yearOrder_65 (by decide) ?_
        refine lv_iconst (v := iZ 1) hx hb dX12_yearOrder_66 (by decide) ?_
        refine CWV (As := [.int (iZ (y + 2)), .int (iZ 0), .int (iZ 1)]) (rest := []) (wc := [(hm, .inr (12, [.ref Ma, .ref Mn, .int (iZ Mst), .long Mtp, .long Mbt, .ref Ms, .ref My, .ref Mt, .ref Mp, .ref Mx, .int (iZ Mtd), .int (iZ Msz), .int (iZ (I_22 1)), .int (iZ (I_22 2)), .int (iZ (I_22 3)), .int (iZ (I_22 4)), .int (iZ Mfk), .int (iZ (I_22 6)), .int (iZ (I_22 5)), .int (iZ Mse), .int (iZ Mlt), .ref Mo, .int (iZ Mdp), .int (iZ Mct), .ref Mk, .ref Ml, .ref Mb, .ref Mh, .ref Mc, .int (iZ Mdr), .int (iZ Mrs), .ref Mz, .ref Mr, .ref Mq, .int (iZ Mit), .int (iZ Mmk)])), (Mx, .inl (k 0, 900, .inl Xf)), (Ma, .inl (k 1, 5340, .inl (F_24 0)))]) (wr := [(Mn, .inl (k 2, 36, .inr (.inl Nf)))]) hx hb hml hown hts hKK hP hD hS hA (m_number l D k hm Ma Mn Ms My Mt Mp Mx Mo Mk Ml Mb Mh Mc Mz Mr Mq Mst Mtd Msz (I_22 1) (I_22 2) (I_22 3) (I_22 4) Mfk (I_22 6) (I_22 5) Mse Mlt Mdp Mct Mdr Mrs Mit Mmk Mtp Mbt Xf (F_24 0) (y + 2) 0 1 ⟨⟨by omega, by omega⟩, ⟨by omega, by omega⟩, ⟨by omega, by omega⟩, by omega, by omega, by omega⟩ ⟨by omega, by omega⟩ ⟨by omega, by omega⟩ ⟨by omega, by omega⟩ ⟨by omega, by omega⟩) ci_X12_number qm_X12_188 ⟨Nat.le_of_ble_eq_true rfl, Nat.le_of_ble_eq_true rfl⟩ ⟨Nat.le_of_ble_eq_true rfl, Nat.le_of_ble_eq_true rfl⟩ [0, 1, 2] [3] rfl rfl rfl rfl rfl (by decide) 0 rfl rfl rfl hl.1 rfl (Nat.le_of_ble_eq_true rfl) dX12_yearOrder_67 (fun u_40 H locs hφ hP hD hS => ?_)
        obtain ⟨I_41, L_42, F_43, G_44⟩ := u_40
        obtain ⟨p_46, p_47, p_48⟩ : ((0 ≤ ((I_41 2) : Int) ∧ ((I_41 2) : Int) ≤ (I_41 3)) ∧ (((I_41 3) : Int) ≤ Msz ∧ (Msz : Int) ≤ 900) ∧ (0 ≤ ((I_41 1) : Int) ∧ ((I_41 1) : Int) ≤ 4) ∧ (((I_41 1) : Int) = 0 ∨ ((I_41 2) : Int) < (I_41 3)) ∧ (-1 ≤ ((I_41 4) : Int) ∧ ((I_41 4) : Int) ≤ 100000)) ∧ ((0 ≤ ((I_41 5) : Int) ∧ ((I_41 5) : Int) ≤ 9) ∧ (((I_41 0) : Int) = 0 → 1 ≤ ((I_41 5) : Int)) ∧ (((I_41 0) : Int) = 0 ∨ ((I_41 0) : Int) = 1) ∧ (I_22 2) ≤ (I_41 2)) ∧ ((((I_41 0) : Int) = 0 ∧ (F_43 0) = (F_24 0)) ∨ (((I_41 0) : Int) = 1 ∧ ∃ v6 : Int, 0 ≤ v6 ∧ v6 ≤ 1 ∧ (F_43 0) = upd (F_24 0) (iZ (y + 2)).toNatClampNeg (iZ v6))) := hφ
        refine W.eq (g2 := F0 m 70 ls [.int (iZ (I_41 0))]) rfl ?_
        rcases p_48 with ⟨qt_49, et_49⟩ | ⟨qt_49, vt_49, g1t_49, g2t_49, ht_49⟩
        ·
          rw [qt_49]
          have kp_50 : KP (F_43 0) (F_24 0) := by first | exact et_49 | (rw [et_49]; exact KP.rf _)
          refine lv_if_eq (tgt := 77) hx hb dX12_yearOrder_70 (by decide) (fun _ => ?_) (fun c => absurd (by decide) c)
          refine lv_iconst (v := iZ 0) hx hb dX12_yearOrder_77 (by decide) ?_
          exact EWz hx hb hr hlocks hS (fun i => [0, (I_41 1), (I_41 2), (I_41 3), (I_41 4), (I_41 5), (I_41 6)].getD i 0, fun i => [0].getD i 0, fun i => [(F_43 0)].getD i (fun _ => 0), fun i => [].getD i (fun _ => 0)) rfl rfl ⟨(show (0 ≤ ((I_41 2) : Int) ∧ ((I_41 2) : Int) ≤ (I_41 3)) ∧ (((I_41 3) : Int) ≤ Msz ∧ (Msz : Int) ≤ 900) ∧ (0 ≤ ((I_41 1) : Int) ∧ ((I_41 1) : Int) ≤ 4) ∧ (((I_41 1) : Int) = 0 ∨ ((I_41 2) : Int) < (I_41 3)) ∧ (-1 ≤ ((I_41 4) : Int) ∧ ((I_41 4) : Int) ≤ 100000) from ⟨⟨by omega, by omega⟩, ⟨by omega, by omega⟩, ⟨by omega, by omega⟩, by omega, by omega, by omega⟩), (show (0 ≤ ((I_41 5) : Int) ∧ ((I_41 5) : Int) ≤ 9) ∧ ((0 : Int) = 0 → 1 ≤ ((I_41 5) : Int)) ∧ ((0 : Int) = 0 ∨ (0 : Int) = 1) ∧ Mfr ≤ (I_41 2) from ⟨⟨by omega, by omega⟩, fun _ => by omega, by omega, by omega⟩), (show ((0 : Int) = 0 ∧ KP (F_43 0) Af) ∨ ((0 : Int) = 1 ∧ RWR (F_43 0) Af y ∧ (gz (F_43 0) y = 17 → 0 ≤ gz (F_43 0) (y + 1) ∧ gz (F_43 0) (y + 1) < gz Af 0) ∧ (gz (F_43 0) y = 1923 → 0 ≤ gz (F_43 0) (y + 2) ∧ gz (F_43 0) (y + 2) < 6) ∧ ((x : Int) = 21 → gz (F_43 0) y = 21)) from (Or.inl ⟨rfl, (KP.tr kp_50 (RWR.kp w_33 (by omega)))⟩))⟩ (hP.sub [1, 2, 3, 0] rfl) (hD.sub [1, 2, 3, 0] rfl rfl) dX12_yearOrder_78
        ·
          rw [qt_49]
          have w_52 := RWR.up (y := y) ht_49 (by omega) (by omega) ⟨by omega, by omega⟩
          have uu_53 := gz_upc (j := y) ht_49 ⟨by omega, by omega⟩ ⟨by omega, by omega⟩ (by omega)
          have uu_54 := gz_upc (j := (y + 1)) ht_49 ⟨by omega, by omega⟩ ⟨by omega, by omega⟩ (by omega)
          have uu_55 := gz_upc (j := (y + 2)) ht_49 ⟨by omega, by omega⟩ ⟨by omega, by omega⟩ (by omega)
          have uu_56 := gz_upc (j := 0) ht_49 ⟨by omega, by omega⟩ ⟨by omega, by omega⟩ (by omega)
          refine lv_if_eq (tgt := 77) hx hb dX12_yearOrder_70 (by decide) (fun c => absurd c (by decide)) (fun _ => ?_)
          refine lv_iconst (v := iZ 1) hx hb dX12_yearOrder_73 (by decide) ?_
          refine lv_goto (tgt := 78) hx hb dX12_yearOrder_74 (by decide) ?_
          exact EWz hx hb hr hlocks hS (fun i => [1, (I_41 1), (I_41 2), (I_41 3), (I_41 4), (I_41 5), (I_41 6)].getD i 0, fun i => [0].getD i 0, fun i => [(F_43 0)].getD i (fun _ => 0), fun i => [].getD i (fun _ => 0)) rfl rfl ⟨(show (0 ≤ ((I_41 2) : Int) ∧ ((I_41 2) : Int) ≤ (I_41 3)) ∧ (((I_41 3) : Int) ≤ Msz ∧ (Msz : Int) ≤ 900) ∧ (0 ≤ ((I_41 1) : Int) ∧ ((I_41 1) : Int) ≤ 4) ∧ (((I_41 1) : Int) = 0 ∨ ((I_41 2) : Int) < (I_41 3)) ∧ (-1 ≤ ((I_41 4) : Int) ∧ ((I_41 4) : Int) ≤ 100000) from ⟨⟨by omega, by omega⟩, ⟨by omega, by omega⟩, ⟨by omega, by omega⟩, by omega, by omega, by omega⟩), (show (0 ≤ ((I_41 5) : Int) ∧ ((I_41 5) : Int) ≤ 9) ∧ ((1 : Int) = 0 → 1 ≤ ((I_41 5) : Int)) ∧ ((1 : Int) = 0 ∨ (1 : Int) = 1) ∧ Mfr ≤ (I_41 2) from ⟨⟨by omega, by omega⟩, fun _ => by omega, by omega, by omega⟩), (show ((1 : Int) = 0 ∧ KP (F_43 0) Af) ∨ ((1 : Int) = 1 ∧ RWR (F_43 0) Af y ∧ (gz (F_43 0) y = 17 → 0 ≤ gz (F_43 0) (y + 1) ∧ gz (F_43 0) (y + 1) < gz Af 0) ∧ (gz (F_43 0) y = 1923 → 0 ≤ gz (F_43 0) (y + 2) ∧ gz (F_43 0) (y + 2) < 6) ∧ ((x : Int) = 21 → gz (F_43 0) y = 21)) from (Or.inr ⟨rfl, (RWR.tr w_52 w_33), fun h9 => by omega, fun h9 => by omega, fun h9 => by omega⟩))⟩ (hP.sub [1, 2, 3, 0] rfl) (hD.sub [1, 2, 3, 0] rfl rfl) dX12_yearOrder_78
    ·
      rcases Classical.em (x = 17) with c_58 | c_58
      ·
        refine lv_tableIn (tgt := 79) (off := 78) hx hb dX12_yearOrder_1 (by rw [iZ_ti ⟨by omega, by omega⟩]; omega) (by rw [iZ_ti ⟨by omega, by omega⟩]; omega) (by rw [iZ_ti ⟨by omega, by omega⟩, c_58]; rfl) (by decide) ?_
        refine lv_aload_n hx hb dX12_yearOrder_79 rfl (lv_at hl 0 rfl) ?_
        refine lv_iload_n hx hb dX12_yearOrder_80 rfl (lv_at hl 2 rfl) ?_
        refine lv_iconst (v := iZ 1) hx hb dX12_yearOrder_81 (by decide) ?_
        refine lv_iadd hx hb dX12_yearOrder_82 ?_
        refine lv_topi (fun x_59 ex_59 => ?_)
        obtain rfl : x_59 = iZ (y + 1) := ex_59.trans (iZ_add y 1)
        refine CSV (As := [.int (iZ (y + 1))]) (rest := []) (wc := [(hm, .inr (12, [.ref Ma, .ref Mn, .int (iZ Mst), .long Mtp, .long Mbt, .ref Ms, .ref My, .ref Mt, .ref Mp, .ref Mx, .int (iZ Mtd), .int (iZ Msz), .int (iZ Mtk), .int (iZ Mfr), .int (iZ Men), .int (iZ Mva), .int (iZ Mfk), .int (iZ Mfp), .int (iZ Mfs), .int (iZ Mse), .int (iZ Mlt), .ref Mo, .int (iZ Mdp), .int (iZ Mct), .ref Mk, .ref Ml, .ref Mb, .ref Mh, .ref Mc, .int (iZ Mdr), .int (iZ Mrs), .ref Mz, .ref Mr, .ref Mq, .int (iZ Mit), .int (iZ Mmk)])), (Mx, .inl (k 0, 900, .inl Xf)), (Ma, .inl (k 1, 5340, .inl Af)), (Mn, .inl (k 2, 36, .inr (.inl Nf)))]) (wr := []) hx hb hml hown hts hKK hP hD hS hA hSY hRR (m_rockTo l D k sa sv hm Ma Mn Ms My Mt Mp Mx Mo Mk Ml Mb Mh Mc Mz Mr Mq Mst Mtd Msz Mtk Mfr Men Mva Mfk Mfp Mfs Mse Mlt Mdp Mct Mdr Mrs Mit Mmk Mtp Mbt Xf Af Nf (y + 1) ⟨⟨by omega, by omega⟩, ⟨by omega, by omega⟩, ⟨by omega, by omega⟩, by omega, by omega, by omega⟩ ⟨by omega, by omega⟩ ⟨by omega, by omega⟩ ⟨by omega, by omega⟩) ci_X12_rockTo qm_X12_225 ⟨Nat.le_of_ble_eq_true rfl, Nat.le_of_ble_eq_true rfl⟩ ⟨Nat.le_of_ble_eq_true rfl, Nat.le_of_ble_eq_true rfl⟩ [0, 1, 2, 3] [] rfl rfl rfl rfl rfl (by decide) 0 rfl rfl rfl hl.1 rfl (Nat.le_of_ble_eq_true rfl) dX12_yearOrder_83 (fun u_60 H locs hφ hP hD hS => ?_)
        obtain ⟨I_61, L_62, F_63, G_64⟩ := u_60
        obtain ⟨p_66, p_67, p_68⟩ : ((0 ≤ ((I_61 2) : Int) ∧ ((I_61 2) : Int) ≤ (I_61 3)) ∧ (((I_61 3) : Int) ≤ Msz ∧ (Msz : Int) ≤ 900) ∧ (0 ≤ ((I_61 1) : Int) ∧ ((I_61 1) : Int) ≤ 4) ∧ (((I_61 1) : Int) = 0 ∨ ((I_61 2) : Int) < (I_61 3)) ∧ (-1 ≤ ((I_61 4) : Int) ∧ ((I_61 4) : Int) ≤ 100000)) ∧ ((0 ≤ ((I_61 5) : Int) ∧ ((I_61 5) : Int) ≤ 9) ∧ (((I_61 0) : Int) = 0 → 1 ≤ ((I_61 5) : Int)) ∧ (((I_61 0) : Int) = 0 ∨ ((I_61 0) : Int) = 1) ∧ Mfr ≤ (I_61 2)) ∧ ((((I_61 0) : Int) = 0 ∧ KP (F_63 0) Af) ∨ (((I_61 0) : Int) = 1 ∧ ∃ v6 : Int, 0 ≤ v6 ∧ v6 < gz Af 0 ∧ (F_63 0) = upd Af (iZ (y + 1)).toNatClampNeg (iZ v6))) := hφ
        refine W.eq (g2 := F0 m 86 ls [.int (iZ (I_61 0))]) rfl ?_
        rcases p_68 with ⟨qt_69, et_69⟩ | ⟨qt_69, vt_69, g1t_69, g2t_69, ht_69⟩
        ·
          rw [qt_69]
          have kp_70 : KP (F_63 0) Af := by first | exact et_69 | (rw [et_69]; exact KP.rf _)
          exact EWz hx hb hr hlocks hS (fun i => [0, (I_61 1), (I_61 2), (I_61 3), (I_61 4), (I_61 5), (I_61 6)].getD i 0, fun i => [0].getD i 0, fun i => [(F_63 0)].getD i (fun _ => 0), fun i => [].getD i (fun _ => 0)) rfl rfl ⟨(show (0 ≤ ((I_61 2) : Int) ∧ ((I_61 2) : Int) ≤ (I_61 3)) ∧ (((I_61 3) : Int) ≤ Msz ∧ (Msz : Int) ≤ 900) ∧ (0 ≤ ((I_61 1) : Int) ∧ ((I_61 1) : Int) ≤ 4) ∧ (((I_61 1) : Int) = 0 ∨ ((I_61 2) : Int) < (I_61 3)) ∧ (-1 ≤ ((I_61 4) : Int) ∧ ((I_61 4) : Int) ≤ 100000) from ⟨⟨by omega, by omega⟩, ⟨by omega, by omega⟩, ⟨by omega, by omega⟩, by omega, by omega, by omega⟩), (show (0 ≤ ((I_61 5) : Int) ∧ ((I_61 5) : Int) ≤ 9) ∧ ((0 : Int) = 0 → 1 ≤ ((I_61 5) : Int)) ∧ ((0 : Int) = 0 ∨ (0 : Int) = 1) ∧ Mfr ≤ (I_61 2) from ⟨⟨by omega, by omega⟩, fun _ => by omega, by omega, by omega⟩), (show ((0 : Int) = 0 ∧ KP (F_63 0) Af) ∨ ((0 : Int) = 1 ∧ RWR (F_63 0) Af y ∧ (gz (F_63 0) y = 17 → 0 ≤ gz (F_63 0) (y + 1) ∧ gz (F_63 0) (y + 1) < gz Af 0) ∧ (gz (F_63 0) y = 1923 → 0 ≤ gz (F_63 0) (y + 2) ∧ gz (F_63 0) (y + 2) < 6) ∧ ((x : Int) = 21 → gz (F_63 0) y = 21)) from (Or.inl ⟨rfl, kp_70⟩))⟩ (hP.sub [0, 1, 2, 3] rfl) (hD.sub [0, 1, 2, 3] rfl rfl) dX12_yearOrder_86
        ·
          rw [qt_69]
          have w_71 := RWR.up (y := y) ht_69 (by omega) (by omega) ⟨by omega, by omega⟩
          have uu_72 := gz_upc (j := y) ht_69 ⟨by omega, by omega⟩ ⟨by omega, by omega⟩ (by omega)
          have uu_73 := gz_upc (j := (y + 1)) ht_69 ⟨by omega, by omega⟩ ⟨by omega, by omega⟩ (by omega)
          have uu_74 := gz_upc (j := (y + 2)) ht_69 ⟨by omega, by omega⟩ ⟨by omega, by omega⟩ (by omega)
          have uu_75 := gz_upc (j := 0) ht_69 ⟨by omega, by omega⟩ ⟨by omega, by omega⟩ (by omega)
          exact EWz hx hb hr hlocks hS (fun i => [1, (I_61 1), (I_61 2), (I_61 3), (I_61 4), (I_61 5), (I_61 6)].getD i 0, fun i => [0].getD i 0, fun i => [(F_63 0)].getD i (fun _ => 0), fun i => [].getD i (fun _ => 0)) rfl rfl ⟨(show (0 ≤ ((I_61 2) : Int) ∧ ((I_61 2) : Int) ≤ (I_61 3)) ∧ (((I_61 3) : Int) ≤ Msz ∧ (Msz : Int) ≤ 900) ∧ (0 ≤ ((I_61 1) : Int) ∧ ((I_61 1) : Int) ≤ 4) ∧ (((I_61 1) : Int) = 0 ∨ ((I_61 2) : Int) < (I_61 3)) ∧ (-1 ≤ ((I_61 4) : Int) ∧ ((I_61 4) : Int) ≤ 100000) from ⟨⟨by omega, by omega⟩, ⟨by omega, by omega⟩, ⟨by omega, by omega⟩, by omega, by omega, by omega⟩), (show (0 ≤ ((I_61 5) : Int) ∧ ((I_61 5) : Int) ≤ 9) ∧ ((1 : Int) = 0 → 1 ≤ ((I_61 5) : Int)) ∧ ((1 : Int) = 0 ∨ (1 : Int) = 1) ∧ Mfr ≤ (I_61 2) from ⟨⟨by omega, by omega⟩, fun _ => by omega, by omega, by omega⟩), (show ((1 : Int) = 0 ∧ KP (F_63 0) Af) ∨ ((1 : Int) = 1 ∧ RWR (F_63 0) Af y ∧ (gz (F_63 0) y = 17 → 0 ≤ gz (F_63 0) (y + 1) ∧ gz (F_63 0) (y + 1) < gz Af 0) ∧ (gz (F_63 0) y = 1923 → 0 ≤ gz (F_63 0) (y + 2) ∧ gz (F_63 0) (y + 2) < 6) ∧ ((x : Int) = 21 → gz (F_63 0) y = 21)) from (Or.inr ⟨rfl, w_71, fun h9 => by omega, fun h9 => by omega, fun h9 => by omega⟩))⟩ (hP.sub [0, 1, 2, 3] rfl) (hD.sub [0, 1, 2, 3] rfl rfl) dX12_yearOrder_86
      ·
        rcases Classical.em (x = 18) with c_76 | c_76
        ·
          refine lv_tableIn (tgt := 87) (off := 86) hx hb dX12_yearOrder_1 (by rw [iZ_ti ⟨by omega, by omega⟩]; omega) (by rw [iZ_ti ⟨by omega, by omega⟩]; omega) (by rw [iZ_ti ⟨by omega, by omega⟩, c_76]; rfl) (by decide) ?_
          refine lv_aload_n hx hb dX12_yearOrder_87 rfl (lv_at hl 0 rfl) ?_
          refine lv_iload_n hx hb dX12_yearOrder_88 rfl (lv_at hl 2 rfl) ?_
          refine lv_iconst (v := iZ 1) hx hb dX12_yearOrder_89 (by decide) ?_
          refine lv_iadd hx hb dX12_yearOrder_90 ?_
          refine lv_topi (fun x_77 ex_77 => ?_)
          obtain rfl : x_77 = iZ (y + 1) := ex_77.trans (iZ_add y 1)
          refine lv_iconst (v := iZ 0) hx hb dX12_yearOrder_91 (by decide) ?_
          refine lv_bipush (v := iZ 16) hx hb dX12_yearOrder_92 (by decide) ?_
          refine CWV (As := [.int (iZ (y + 1)), .int (iZ 0), .int (iZ 16)]) (rest := []) (wc := [(hm, .inr (12, [.ref Ma, .ref Mn, .int (iZ Mst), .long Mtp, .long Mbt, .ref Ms, .ref My, .ref Mt, .ref Mp, .ref Mx, .int (iZ Mtd), .int (iZ Msz), .int (iZ Mtk), .int (iZ Mfr), .int (iZ Men), .int (iZ Mva), .int (iZ Mfk), .int (iZ Mfp), .int (iZ Mfs), .int (iZ Mse), .int (iZ Mlt), .ref Mo, .int (iZ Mdp), .int (iZ Mct), .ref Mk, .ref Ml, .ref Mb, .ref Mh, .ref Mc, .int (iZ Mdr), .int (iZ Mrs), .ref Mz, .ref Mr, .ref Mq, .int (iZ Mit), .int (iZ Mmk)])), (Mx, .inl (k 0, 900, .inl Xf)), (Ma, .inl (k 1, 5340, .inl Af))]) (wr := [(Mn, .inl (k 2, 36, .inr (.inl Nf)))]) hx hb hml hown hts hKK hP hD hS hA (m_number l D k hm Ma Mn Ms My Mt Mp Mx Mo Mk Ml Mb Mh Mc Mz Mr Mq Mst Mtd Msz Mtk Mfr Men Mva Mfk Mfp Mfs Mse Mlt Mdp Mct Mdr Mrs Mit Mmk Mtp Mbt Xf Af (y + 1) 0 16 ⟨⟨by omega, by omega⟩, ⟨by omega, by omega⟩, ⟨by omega, by omega⟩, by omega, by omega, by omega⟩ ⟨by omega, by omega⟩ ⟨by omega, by omega⟩ ⟨by omega, by omega⟩ ⟨by omega, by omega⟩) ci_X12_number qm_X12_188 ⟨Nat.le_of_ble_eq_true rfl, Nat.le_of_ble_eq_true rfl⟩ ⟨Nat.le_of_ble_eq_true rfl, Nat.le_of_ble_eq_true rfl⟩ [0, 1, 2] [3] rfl rfl rfl rfl rfl (by decide) 0 rfl rfl rfl hl.1 rfl (Nat.le_of_ble_eq_true rfl) dX12_yearOrder_94 (fun u_78 H locs hφ hP hD hS => ?_)
          obtain ⟨I_79, L_80, F_81, G_82⟩ := u_78
          obtain ⟨p_84, p_85, p_86⟩ : ((0 ≤ ((I_79 2) : Int) ∧ ((I_79 2) : Int) ≤ (I_79 3)) ∧ (((I_79 3) : Int) ≤ Msz ∧ (Msz : Int) ≤ 900) ∧ (0 ≤ ((I_79 1) : Int) ∧ ((I_79 1) : Int) ≤ 4) ∧ (((I_79 1) : Int) = 0 ∨ ((I_79 2) : Int) < (I_79 3)) ∧ (-1 ≤ ((I_79 4) : Int) ∧ ((I_79 4) : Int) ≤ 100000)) ∧ ((0 ≤ ((I_79 5) : Int) ∧ ((I_79 5) : Int) ≤ 9) ∧ (((I_79 0) : Int) = 0 → 1 ≤ ((I_79 5) : Int)) ∧ (((I_79 0) : Int) = 0 ∨ ((I_79 0) : Int) = 1) ∧ Mfr ≤ (I_79 2)) ∧ ((((I_79 0) : Int) = 0 ∧ (F_81 0) = Af) ∨ (((I_79 0) : Int) = 1 ∧ ∃ v6 : Int, 0 ≤ v6 ∧ v6 ≤ 16 ∧ (F_81 0) = upd Af (iZ (y + 1)).toNatClampNeg (iZ v6))) := hφ
          refine W.eq (g2 := F0 m 97 ls [.int (iZ (I_79 0))]) rfl ?_
          rcases p_86 with ⟨qt_87, et_87⟩ | ⟨qt_87, vt_87, g1t_87, g2t_87, ht_87⟩
          ·
            rw [qt_87]
            have kp_88 : KP (F_81 0) Af := by first | exact et_87 | (rw [et_87]; exact KP.rf _)
            exact EWz hx hb hr hlocks hS (fun i => [0, (I_79 1), (I_79 2), (I_79 3), (I_79 4), (I_79 5), (I_79 6)].getD i 0, fun i => [0].getD i 0, fun i => [(F_81 0)].getD i (fun _ => 0), fun i => [].getD i (fun _ => 0)) rfl rfl ⟨(show (0 ≤ ((I_79 2) : Int) ∧ ((I_79 2) : Int) ≤ (I_79 3)) ∧ (((I_79 3) : Int) ≤ Msz ∧ (Msz : Int) ≤ 900) ∧ (0 ≤ ((I_79 1) : Int) ∧ ((I_79 1) : Int) ≤ 4) ∧ (((I_79 1) : Int) = 0 ∨ ((I_79 2) : Int) < (I_79 3)) ∧ (-1 ≤ ((I_79 4) : Int) ∧ ((I_79 4) : Int) ≤ 100000) from ⟨⟨by omega, by omega⟩, ⟨by omega, by omega⟩, ⟨by omega, by omega⟩, by omega, by omega, by omega⟩), (show (0 ≤ ((I_79 5) : Int) ∧ ((I_79 5) : Int) ≤ 9) ∧ ((0 : Int) = 0 → 1 ≤ ((I_79 5) : Int)) ∧ ((0 : Int) = 0 ∨ (0 : Int) = 1) ∧ Mfr ≤ (I_79 2) from ⟨⟨by omega, by omega⟩, fun _ => by omega, by omega, by omega⟩), (show ((0 : Int) = 0 ∧ KP (F_81 0) Af) ∨ ((0 : Int) = 1 ∧ RWR (F_81 0) Af y ∧ (gz (F_81 0) y = 17 → 0 ≤ gz (F_81 0) (y + 1) ∧ gz (F_81 0) (y + 1) < gz Af 0) ∧ (gz (F_81 0) y = 1923 → 0 ≤ gz (F_81 0) (y + 2) ∧ gz (F_81 0) (y + 2) < 6) ∧ ((x : Int) = 21 → gz (F_81 0) y = 21)) from (Or.inl ⟨rfl, kp_88⟩))⟩ (hP.sub [1, 2, 3, 0] rfl) (hD.sub [1, 2, 3, 0] rfl rfl) dX12_yearOrder_97
          ·
            rw [qt_87]
            have w_89 := RWR.up (y := y) ht_87 (by omega) (by omega) ⟨by omega, by omega⟩
            have uu_90 := gz_upc (j := y) ht_87 ⟨by omega, by omega⟩ ⟨by omega, by omega⟩ (by omega)
            have uu_91 := gz_upc (j := (y + 1)) ht_87 ⟨by omega, by omega⟩ ⟨by omega, by omega⟩ (by omega)
            have uu_92 := gz_upc (j := (y + 2)) ht_87 ⟨by omega, by omega⟩ ⟨by omega, by omega⟩ (by omega)
            have uu_93 := gz_upc (j := 0) ht_87 ⟨by omega, by omega⟩ ⟨by omega, by omega⟩ (by omega)
            exact EWz hx hb hr hlocks hS (fun i => [1, (I_79 1), (I_79 2), (I_79 3), (I_79 4), (I_79 5), (I_79 6)].getD i 0, fun i => [0].getD i 0, fun i => [(F_81 0)].getD i (fun _ => 0), fun i => [].getD i (fun _ => 0)) rfl rfl ⟨(show (0 ≤ ((I_79 2) : Int) ∧ ((I_79 2) : Int) ≤ (I_79 3)) ∧ (((I_79 3) : Int) ≤ Msz ∧ (Msz : Int) ≤ 900) ∧ (0 ≤ ((I_79 1) : Int) ∧ ((I_79 1) : Int) ≤ 4) ∧ (((I_79 1) : Int) = 0 ∨ ((I_79 2) : Int) < (I_79 3)) ∧ (-1 ≤ ((I_79 4) : Int) ∧ ((I_79 4) : Int) ≤ 100000) from ⟨⟨by omega, by omega⟩, ⟨by omega, by omega⟩, ⟨by omega, by omega⟩, by omega, by omega, by omega⟩), (show (0 ≤ ((I_79 5) : Int) ∧ ((I_79 5) : Int) ≤ 9) ∧ ((1 : Int) = 0 → 1 ≤ ((I_79 5) : Int)) ∧ ((1 : Int) = 0 ∨ (1 : Int) = 1) ∧ Mfr ≤ (I_79 2) from ⟨⟨by omega, by omega⟩, fun _ => by omega, by omega, by omega⟩), (show ((1 : Int) = 0 ∧ KP (F_81 0) Af) ∨ ((1 : Int) = 1 ∧ RWR (F_81 0) Af y ∧ (gz (F_81 0) y = 17 → 0 ≤ gz (F_81 0) (y + 1) ∧ gz (F_81 0) (y + 1) < gz Af 0) ∧ (gz (F_81 0) y = 1923 → 0 ≤ gz (F_81 0) (y + 2) ∧ gz (F_81 0) (y + 2) < 6) ∧ ((x : Int) = 21 → gz (F_81 0) y = 21)) from (Or.inr ⟨rfl, w_89, fun h9 => by omega, fun h9 => by omega, fun h9 => by omega⟩))⟩ (hP.sub [1, 2, 3, 0] rfl) (hD.sub [1, 2, 3, 0] rfl rfl) dX12_yearOrder_97
        ·
          rcases Classical.em (x = 19) with c_94 | c_94
          ·
            refine lv_tableIn (tgt := 98) (off := 97) hx hb dX12_yearOrder_1 (by rw [iZ_ti ⟨by omega, by omega⟩]; omega) (by rw [iZ_ti ⟨by omega, by omega⟩]; omega) (by rw [iZ_ti ⟨by omega, by omega⟩, c_94]; rfl) (by decide) ?_
            refine lv_aload_n hx hb dX12_yearOrder_98 rfl (lv_at hl 0 rfl) ?_
            refine lv_iload_n hx hb dX12_yearOrder_99 rfl (lv_at hl 2 rfl) ?_
            refine CSV (As := [.int (iZ y)]) (rest := []) (wc := [(hm, .inr (12, [.ref Ma, .ref Mn, .int (iZ Mst), .long Mtp, .long Mbt, .ref Ms, .ref My, .ref Mt, .ref Mp, .ref Mx, .int (iZ Mtd), .int (iZ Msz), .int (iZ Mtk), .int (iZ Mfr), .int (iZ Men), .int (iZ Mva), .int (iZ Mfk), .int (iZ Mfp), .int (iZ Mfs), .int (iZ Mse), .int (iZ Mlt), .ref Mo, .int (iZ Mdp), .int (iZ Mct), .ref Mk, .ref Ml, .ref Mb, .ref Mh, .ref Mc, .int (iZ Mdr), .int (iZ Mrs), .ref Mz, .ref Mr, .ref Mq, .int (iZ Mit), .int (iZ Mmk)])), (Mx, .inl (k 0, 900, .inl Xf)), (Ma, .inl (k 1, 5340, .inl Af)), (Mn, .inl (k 2, 36, .inr (.inl Nf)))]) (wr := []) hx hb hml hown hts hKK hP hD hS hA hSY hRR (m_test l D k sa sv hm Ma Mn Ms My Mt Mp Mx Mo Mk Ml Mb Mh Mc Mz Mr Mq Mst Mtd Msz Mtk Mfr Men Mva Mfk Mfp Mfs Mse Mlt Mdp Mct Mdr Mrs Mit Mmk Mtp Mbt Xf Af Nf y ⟨⟨by omega, by omega⟩, ⟨by omega, by omega⟩, ⟨by omega, by omega⟩, by omega, by omega, by omega⟩ ⟨by omega, by omega⟩ ⟨by omega, by omega⟩ ⟨by omega, by omega⟩) ci_X12_test qm_X12_228 ⟨Nat.le_of_ble_eq_true rfl, Nat.le_of_ble_eq_true rfl⟩ ⟨Nat.le_of_ble_eq_true rfl, Nat.le_of_ble_eq_true rfl⟩ [0, 1, 2, 3] [] rfl rfl rfl rfl rfl (by decide) 0 rfl rfl rfl hl.1 rfl (Nat.le_of_ble_eq_true rfl) dX12_yearOrder_100 (fun u_95 H locs hφ hP hD hS => ?_)
            obtain ⟨I_96, L_97, F_98, G_99⟩ := u_95
            obtain ⟨p_101, p_102, p_103⟩ : ((0 ≤ ((I_96 2) : Int) ∧ ((I_96 2) : Int) ≤ (I_96 3)) ∧ (((I_96 3) : Int) ≤ Msz ∧ (Msz : Int) ≤ 900) ∧ (0 ≤ ((I_96 1) : Int) ∧ ((I_96 1) : Int) ≤ 4) ∧ (((I_96 1) : Int) = 0 ∨ ((I_96 2) : Int) < (I_96 3)) ∧ (-1 ≤ ((I_96 4) : Int) ∧ ((I_96 4) : Int) ≤ 100000)) ∧ ((0 ≤ ((I_96 5) : Int) ∧ ((I_96 5) : Int) ≤ 9) ∧ (((I_96 0) : Int) = 0 → 1 ≤ ((I_96 5) : Int)) ∧ (((I_96 0) : Int) = 0 ∨ ((I_96 0) : Int) = 1) ∧ Mfr ≤ (I_96 2)) ∧ ((((I_96 0) : Int) = 0 ∧ KP (F_98 0) Af) ∨ (((I_96 0) : Int) = 1 ∧ RWR (F_98 0) Af y ∧ (gz (F_98 0) y = 17 → 0 ≤ gz (F_98 0) (y + 1) ∧ gz (F_98 0) (y + 1) < gz Af 0) ∧ (gz (F_98 0) y = 1923 → 0 ≤ gz (F_98 0) (y + 2) ∧ gz (F_98 0) (y + 2) < 6))) := hφ
            refine W.eq (g2 := F0 m 103 ls [.int (iZ (I_96 0))]) rfl ?_
            rcases p_103 with ⟨qt_104, et_104⟩ | ⟨qt_104, rwt_104, r1t_104, r2t_104⟩
            ·
              rw [qt_104]
              exact EWz hx hb hr hlocks hS (fun i => [0, (I_96 1), (I_96 2), (I_96 3), (I_96 4), (I_96 5), (I_96 6)].getD i 0, fun i => [0].getD i 0, fun i => [(F_98 0)].getD i (fun _ => 0), fun i => [].getD i (fun _ => 0)) rfl rfl ⟨(show (0 ≤ ((I_96 2) : Int) ∧ ((I_96 2) : Int) ≤ (I_96 3)) ∧ (((I_96 3) : Int) ≤ Msz ∧ (Msz : Int) ≤ 900) ∧ (0 ≤ ((I_96 1) : Int) ∧ ((I_96 1) : Int) ≤ 4) ∧ (((I_96 1) : Int) = 0 ∨ ((I_96 2) : Int) < (I_96 3)) ∧ (-1 ≤ ((I_96 4) : Int) ∧ ((I_96 4) : Int) ≤ 100000) from ⟨⟨by omega, by omega⟩, ⟨by omega, by omega⟩, ⟨by omega, by omega⟩, by omega, by omega, by omega⟩), (show (0 ≤ ((I_96 5) : Int) ∧ ((I_96 5) : Int) ≤ 9) ∧ ((0 : Int) = 0 → 1 ≤ ((I_96 5) : Int)) ∧ ((0 : Int) = 0 ∨ (0 : Int) = 1) ∧ Mfr ≤ (I_96 2) from ⟨⟨by omega, by omega⟩, fun _ => by omega, by omega, by omega⟩), (show ((0 : Int) = 0 ∧ KP (F_98 0) Af) ∨ ((0 : Int) = 1 ∧ RWR (F_98 0) Af y ∧ (gz (F_98 0) y = 17 → 0 ≤ gz (F_98 0) (y + 1) ∧ gz (F_98 0) (y + 1) < gz Af 0) ∧ (gz (F_98 0) y = 1923 → 0 ≤ gz (F_98 0) (y + 2) ∧ gz (F_98 0) (y + 2) < 6) ∧ ((x : Int) = 21 → gz (F_98 0) y = 21)) from (Or.inl ⟨rfl, et_104⟩))⟩ (hP.sub [0, 1, 2, 3] rfl) (hD.sub [0, 1, 2, 3] rfl rfl) dX12_yearOrder_103
            ·
              rw [qt_104]
              exact EWz hx hb hr hlocks hS (fun i => [1, (I_96 1), (I_96 2), (I_96 3), (I_96 4), (I_96 5), (I_96 6)].getD i 0, fun i => [0].getD i 0, fun i => [(F_98 0)].getD i (fun _ => 0), fun i => [].getD i (fun _ => 0)) rfl rfl ⟨(show (0 ≤ ((I_96 2) : Int) ∧ ((I_96 2) : Int) ≤ (I_96 3)) ∧ (((I_96 3) : Int) ≤ Msz ∧ (Msz : Int) ≤ 900) ∧ (0 ≤ ((I_96 1) : Int) ∧ ((I_96 1) : Int) ≤ 4) ∧ (((I_96 1) : Int) = 0 ∨ ((I_96 2) : Int) < (I_96 3)) ∧ (-1 ≤ ((I_96 4) : Int) ∧ ((I_96 4) : Int) ≤ 100000) from ⟨⟨by omega, by omega⟩, ⟨by omega, by omega⟩, ⟨by omega, by omega⟩, by omega, by omega, by omega⟩), (show (0 ≤ ((I_96 5) : Int) ∧ ((I_96 5) : Int) ≤ 9) ∧ ((1 : Int) = 0 → 1 ≤ ((I_96 5) : Int)) ∧ ((1 : Int) = 0 ∨ (1 : Int) = 1) ∧ Mfr ≤ (I_96 2) from ⟨⟨by omega, by omega⟩, fun _ => by omega, by omega, by omega⟩), (show ((1 : Int) = 0 ∧ KP (F_98 0) Af) ∨ ((1 : Int) = 1 ∧ RWR (F_98 0) Af y ∧ (gz (F_98 0) y = 17 → 0 ≤ gz (F_98 0) (y + 1) ∧ gz (F_98 0) (y + 1) < gz Af 0) ∧ (gz (F_98 0) y = 1923 → 0 ≤ gz (F_98 0) (y + 2) ∧ gz (F_98 0) (y + 2) < 6) ∧ ((x : Int) = 21 → gz (F_98 0) y = 21)) from (Or.inr ⟨rfl, rwt_104, r1t_104, r2t_104, fun h9 => absurd h9 (by omega)⟩))⟩ (hP.sub [0, 1, 2, 3] rfl) (hD.sub [0, 1, 2, 3] rfl rfl) dX12_yearOrder_103
          ·
            rcases Classical.em (x = 20) with c_105 | c_105
            ·
              refine lv_tableIn (tgt := 40) (off := 39) hx hb dX12_yearOrder_1 (by rw [iZ_ti ⟨by omega, by omega⟩]; omega) (by rw [iZ_ti ⟨by omega, by omega⟩]; omega) (by rw [iZ_ti ⟨by omega, by omega⟩, c_105]; rfl) (by decide) ?_
              refine lv_aload_n hx hb dX12_yearOrder_40 rfl (lv_at hl 0 rfl) ?_
              refine lv_iload_n hx hb dX12_yearOrder_41 rfl (lv_at hl 2 rfl) ?_
              refine lv_iconst (v := iZ 1) hx hb dX12_yearOrder_42 (by decide) ?_
              refine lv_iadd hx hb dX12_yearOrder_43 ?_
              refine lv_topi (fun x_106 ex_106 => ?_)
              obtain rfl : x_106 = iZ (y + 1) := ex_106.trans (iZ_add y 1)
              refine lv_iconst (v := iZ 1) hx hb dX12_yearOrder_44 (by decide) ?_
              refine lv_bipush (v := iZ 99) hx hb dX12_yearOrder_45 (by decide) ?_
              refine CWV (As := [.int (iZ (y + 1)), .int (iZ 1), .int (iZ 99)]) (rest := []) (wc := [(hm, .inr (12, [.ref Ma, .ref Mn, .int (iZ Mst), .long Mtp, .long Mbt, .ref Ms, .ref My, .ref Mt, .ref Mp, .ref Mx, .int (iZ Mtd), .int (iZ Msz), .int (iZ Mtk), .int (iZ Mfr), .int (iZ Men), .int (iZ Mva), .int (iZ Mfk), .int (iZ Mfp), .int (iZ Mfs), .int (iZ Mse), .int (iZ Mlt), .ref Mo, .int (iZ Mdp), .int (iZ Mct), .ref Mk, .ref Ml, .ref Mb, .ref Mh, .ref Mc, .int (iZ Mdr), .int (iZ Mrs), .ref Mz, .ref Mr, .ref Mq, .int (iZ Mit), .int (iZ Mmk)])), (Mx, .inl (k 0, 900, .inl Xf)), (Ma, .inl (k 1, 5340, .inl Af))]) (wr := [(Mn, .inl (k 2, 36, .inr (.inl Nf)))]) hx hb hml hown hts hKK hP hD hS hA (m_number l D k hm Ma Mn Ms My Mt Mp Mx Mo Mk Ml Mb Mh Mc Mz Mr Mq Mst Mtd Msz Mtk Mfr Men Mva Mfk Mfp Mfs Mse Mlt Mdp Mct Mdr Mrs Mit Mmk Mtp Mbt Xf Af (y + 1) 1 99 ⟨⟨by omega, by omega⟩, ⟨by omega, by omega⟩, ⟨by omega, by omega⟩, by omega, by omega, by omega⟩ ⟨by omega, by omega⟩ ⟨by omega, by omega⟩ ⟨by omega, by omega⟩ ⟨by omega, by omega⟩) ci_X12_number qm_X12_188 ⟨Nat.le_of_ble_eq_true rfl, Nat.le_of_ble_eq_true rfl⟩ ⟨Nat.le_of_ble_eq_true rfl, Nat.le_of_ble_eq_true rfl⟩ [0, 1, 2] [3] rfl rfl rfl rfl rfl (by decide) 0 rfl rfl rfl hl.1 rfl (Nat.le_of_ble_eq_true rfl) dX12_yearOrder_47 (fun u_107 H locs hφ hP hD hS => ?_)
              obtain ⟨I_108, L_109, F_110, G_111⟩ := u_107
              obtain ⟨p_113, p_114, p_115⟩ : ((0 ≤ ((I_108 2) : Int) ∧ ((I_108 2) : Int) ≤ (I_108 3)) ∧ (((I_108 3) : Int) ≤ Msz ∧ (Msz : Int) ≤ 900) ∧ (0 ≤ ((I_108 1) : Int) ∧ ((I_108 1) : Int) ≤ 4) ∧ (((I_108 1) : Int) = 0 ∨ ((I_108 2) : Int) < (I_108 3)) ∧ (-1 ≤ ((I_108 4) : Int) ∧ ((I_108 4) : Int) ≤ 100000)) ∧ ((0 ≤ ((I_108 5) : Int) ∧ ((I_108 5) : Int) ≤ 9) ∧ (((I_108 0) : Int) = 0 → 1 ≤ ((I_108 5) : Int)) ∧ (((I_108 0) : Int) = 0 ∨ ((I_108 0) : Int) = 1) ∧ Mfr ≤ (I_108 2)) ∧ ((((I_108 0) : Int) = 0 ∧ (F_110 0) = Af) ∨ (((I_108 0) : Int) = 1 ∧ ∃ v6 : Int, 1 ≤ v6 ∧ v6 ≤ 99 ∧ (F_110 0) = upd Af (iZ (y + 1)).toNatClampNeg (iZ v6))) := hφ
              refine W.eq (g2 := F0 m 50 ls [.int (iZ (I_108 0))]) rfl ?_
              rcases p_115 with ⟨qt_116, et_116⟩ | ⟨qt_116, vt_116, g1t_116, g2t_116, ht_116⟩
              ·
                rw [qt_116]
                have kp_117 : KP (F_110 0) Af := by first | exact et_116 | (rw [et_116]; exact KP.rf _)
                exact EWz hx hb hr hlocks hS (fun i => [0, (I_108 1), (I_108 2), (I_108 3), (I_108 4), (I_108 5), (I_108 6)].getD i 0, fun i => [0].getD i 0, fun i => [(F_110 0)].getD i (fun _ => 0), fun i => [].getD i (fun _ => 0)) rfl rfl ⟨(show (0 ≤ ((I_108 2) : Int) ∧ ((I_108 2) : Int) ≤ (I_108 3)) ∧ (((I_108 3) : Int) ≤ Msz ∧ (Msz : Int) ≤ 900) ∧ (0 ≤ ((I_108 1) : Int) ∧ ((I_108 1) : Int) ≤ 4) ∧ (((I_108 1) : Int) = 0 ∨ ((I_108 2) : Int) < (I_108 3)) ∧ (-1 ≤ ((I_108 4) : Int) ∧ ((I_108 4) : Int) ≤ 100000) from ⟨⟨by omega, by omega⟩, ⟨by omega, by omega⟩, ⟨by omega, by omega⟩, by omega, by omega, by omega⟩), (show (0 ≤ ((I_108 5) : Int) ∧ ((I_108 5) : Int) ≤ 9) ∧ ((0 : Int) = 0 → 1 ≤ ((I_108 5) : Int)) ∧ ((0 : Int) = 0 ∨ (0 : Int) = 1) ∧ Mfr ≤ (I_108 2) from ⟨⟨by omega, by omega⟩, fun _ => by omega, by omega, by omega⟩), (show ((0 : Int) = 0 ∧ KP (F_110 0) Af) ∨ ((0 : Int) = 1 ∧ RWR (F_110 0) Af y ∧ (gz (F_110 0) y = 17 → 0 ≤ gz (F_110 0) (y + 1) ∧ gz (F_110 0) (y + 1) < gz Af 0) ∧ (gz (F_110 0) y = 1923 → 0 ≤ gz (F_110 0) (y + 2) ∧ gz (F_110 0) (y + 2) < 6) ∧ ((x : Int) = 21 → gz (F_110 0) y = 21)) from (Or.inl ⟨rfl, kp_117⟩))⟩ (hP.sub [1, 2, 3, 0] rfl) (hD.sub [1, 2, 3, 0] rfl rfl) dX12_yearOrder_50
              ·
                rw [qt_116]
                have w_118 := RWR.up (y := y) ht_116 (by omega) (by omega) ⟨by omega, by omega⟩
                have uu_119 := gz_upc (j := y) ht_116 ⟨by omega, by omega⟩ ⟨by omega, by omega⟩ (by omega)
                have uu_120 := gz_upc (j := (y + 1)) ht_116 ⟨by omega, by omega⟩ ⟨by omega, by omega⟩ (by omega)
                have uu_121 := gz_upc (j := (y + 2)) ht_116 ⟨by omega, by omega⟩ ⟨by omega, by omega⟩ (by omega)
                have uu_122 := gz_upc (j := 0) ht_116 ⟨by omega, by omega⟩ ⟨by omega, by omega⟩ (by omega)
                exact EWz hx hb hr hlocks hS (fun i => [1, (I_108 1), (I_108 2), (I_108 3), (I_108 4), (I_108 5), (I_108 6)].getD i 0, fun i => [0].getD i 0, fun i => [(F_110 0)].getD i (fun _ => 0), fun i => [].getD i (fun _ => 0)) rfl rfl ⟨(show (0 ≤ ((I_108 2) : Int) ∧ ((I_108 2) : Int) ≤ (I_108 3)) ∧ (((I_108 3) : Int) ≤ Msz ∧ (Msz : Int) ≤ 900) ∧ (0 ≤ ((I_108 1) : Int) ∧ ((I_108 1) : Int) ≤ 4) ∧ (((I_108 1) : Int) = 0 ∨ ((I_108 2) : Int) < (I_108 3)) ∧ (-1 ≤ ((I_108 4) : Int) ∧ ((I_108 4) : Int) ≤ 100000) from ⟨⟨by omega, by omega⟩, ⟨by omega, by omega⟩, ⟨by omega, by omega⟩, by omega, by omega, by omega⟩), (show (0 ≤ ((I_108 5) : Int) ∧ ((I_108 5) : Int) ≤ 9) ∧ ((1 : Int) = 0 → 1 ≤ ((I_108 5) : Int)) ∧ ((1 : Int) = 0 ∨ (1 : Int) = 1) ∧ Mfr ≤ (I_108 2) from ⟨⟨by omega, by omega⟩, fun _ => by omega, by omega, by omega⟩), (show ((1 : Int) = 0 ∧ KP (F_110 0) Af) ∨ ((1 : Int) = 1 ∧ RWR (F_110 0) Af y ∧ (gz (F_110 0) y = 17 → 0 ≤ gz (F_110 0) (y + 1) ∧ gz (F_110 0) (y + 1) < gz Af 0) ∧ (gz (F_110 0) y = 1923 → 0 ≤ gz (F_110 0) (y + 2) ∧ gz (F_110 0) (y + 2) < 6) ∧ ((x : Int) = 21 → gz (F_110 0) y = 21)) from (Or.inr ⟨rfl, w_118, fun h9 => by omega, fun h9 => by omega, fun h9 => by omega⟩))⟩ (hP.sub [1, 2, 3, 0] rfl) (hD.sub [1, 2, 3, 0] rfl rfl) dX12_yearOrder_50
            ·
              refine lv_tableOut (tgt := 104) hx hb dX12_yearOrder_1 (by rw [iZ_ti ⟨by omega, by omega⟩]; omega) (by decide) ?_
              refine lv_iconst (v := iZ 1) hx hb dX12_yearOrder_104 (by decide) ?_
              exact EWz hx hb hr hlocks hS (fun i => [1, Mtk, Mfr, Men, Mva, Mfs, Mfp].getD i 0, fun i => [0].getD i 0, fun i => [Af].getD i (fun _ => 0), fun i => [].getD i (fun _ => 0)) rfl rfl ⟨(show (0 ≤ (Mfr : Int) ∧ (Mfr : Int) ≤ Men) ∧ ((Men : Int) ≤ Msz ∧ (Msz : Int) ≤ 900) ∧ (0 ≤ (Mtk : Int) ∧ (Mtk : Int) ≤ 4) ∧ ((Mtk : Int) = 0 ∨ (Mfr : Int) < Men) ∧ (-1 ≤ (Mva : Int) ∧ (Mva : Int) ≤ 100000) from ⟨⟨by omega, by omega⟩, ⟨by omega, by omega⟩, ⟨by omega, by omega⟩, by omega, by omega, by omega⟩), (show (0 ≤ (Mfs : Int) ∧ (Mfs : Int) ≤ 9) ∧ ((1 : Int) = 0 → 1 ≤ (Mfs : Int)) ∧ ((1 : Int) = 0 ∨ (1 : Int) = 1) ∧ Mfr ≤ Mfr from ⟨⟨by omega, by omega⟩, fun _ => by omega, by omega, by omega⟩), (show ((1 : Int) = 0 ∧ KP Af Af) ∨ ((1 : Int) = 1 ∧ RWR Af Af y ∧ (gz Af y = 17 → 0 ≤ gz Af (y + 1) ∧ gz Af (y + 1) < gz Af 0) ∧ (gz Af y = 1923 → 0 ≤ gz Af (y + 2) ∧ gz Af (y + 2) < 6) ∧ ((x : Int) = 21 → gz Af y = 21)) from (Or.inr ⟨rfl, (RWR.rf _ _), fun h9 => by omega, fun h9 => by omega, fun h9 => by omega⟩))⟩ (hP.sub [0, 1, 2, 3] rfl) (hD.sub [0, 1, 2, 3] rfl rfl) dX12_yearOrder_105
