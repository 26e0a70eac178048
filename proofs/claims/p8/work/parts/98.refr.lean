theorem sh_up {f g : Nat → Int32} {c e v d : Int} (hg : g = upd f (iZ e).toNatClampNeg (iZ v)) (hc : 0 ≤ c) (hd : 0 ≤ d) (he : e = c + d ∧ e < 2147483648) : sh g c = upd (sh f c) (iZ d).toNatClampNeg (iZ v) := by
  funext i
  unfold sh
  rw [hg, zcl (e := e) ⟨by omega, by omega⟩, zcl (e := d) ⟨by omega, by omega⟩]
  unfold upd
  by_cases h : i = d.toNat
  · rw [if_pos (by omega), if_pos h]
  · rw [if_neg (by omega), if_neg h]
theorem SKR.like {f g : Nat → Int32} {n lo : Int} (h : ∀ e : Int, 0 ≤ e → e < 36 → gz g e = gz f e) (hn : 0 ≤ n ∧ n < 6) (hf : SKR f n lo) : SKR g n lo := by
  obtain ⟨a, b, c⟩ := hf
  refine ⟨fun r h1 h2 => ?_, ?_, fun e h1 h2 => by rw [h e (by omega) h2]; exact c e h1 h2⟩
  · rw [h _ (by omega) (by omega), h _ (by omega) (by omega), h _ (by omega) (by omega), h _ (by omega) (by omega), h _ (by omega) (by omega), h _ (by omega) (by omega)]
    exact a r h1 h2
  · rw [h _ (by omega) (by omega), h _ (by omega) (by omega), h _ (by omega) (by omega), h _ (by omega) (by omega), h _ (by omega) (by omega), h _ (by omega) (by omega)]
    exact b
theorem SKZ.like {f g : Nat → Int32} {n : Int} (h : ∀ e : Int, 0 ≤ e → e < 36 → gz g e = gz f e) (hn : 0 ≤ n ∧ n ≤ 6) (hf : SKZ f n) : SKZ g n := by
  obtain ⟨a, c⟩ := hf
  refine ⟨fun r h1 h2 => ?_, fun e h1 h2 => by rw [h e (by omega) h2]; exact c e h1 h2⟩
  rw [h _ (by omega) (by omega), h _ (by omega) (by omega), h _ (by omega) (by omega), h _ (by omega) (by omega), h _ (by omega) (by omega), h _ (by omega) (by omega)]
  exact a r h1 h2
/-- a sky that is read: between parts; with n told and one in work -/
def NSZ (f : Nat → Int32) : Prop := (0 ≤ gz f 3560 ∧ gz f 3560 ≤ 6) ∧ (0 ≤ gz f 3561 ∧ gz f 3561 ≤ 8) ∧ gz f 3563 = 0 ∧ gz f 3564 = 0 ∧ gz f 3565 = -1 ∧ SKZ (sh f 3570) (gz f 3560)
def NSK (f : Nat → Int32) (n lo : Int) : Prop := gz f 3560 = n ∧ (0 ≤ n ∧ n < 6) ∧ (0 ≤ gz f 3561 ∧ gz f 3561 ≤ 8) ∧ gz f 3563 = 0 ∧ gz f 3564 = 0 ∧ gz f 3565 = -1 ∧ SKR (sh f 3570) n lo
theorem NSZ.rock {f : Nat → Int32} (h : NSZ f) (hn : gz f 3560 < 6) : NSK f (gz f 3560) 0 := ⟨rfl, ⟨h.1.1, hn⟩, h.2.1, h.2.2.1, h.2.2.2.1, h.2.2.2.2.1, h.2.2.2.2.2.skr ⟨h.1.1, hn⟩⟩
theorem NSK.up {f g : Nat → Int32} {n lo l2 e w v : Int} (h : NSK f n lo) (hg : g = upd f (iZ e).toNatClampNeg (iZ v)) (he : e = 3570 + ((n * 6) + w)) (hw : (w = 0 ∧ 0 ≤ v ∧ v ≤ 20 ∧ l2 = lo) ∨ (w = 1 ∧ l2 ≤ v ∧ 0 ≤ l2 ∧ v ≤ 99) ∨ (w = 2 ∧ 0 ≤ v ∧ v ≤ 11 ∧ l2 = lo) ∨ (w = 3 ∧ 0 ≤ v ∧ v ≤ 9 ∧ l2 = lo) ∨ (w = 4 ∧ 0 ≤ v ∧ v ≤ 99 ∧ l2 = lo) ∨ (w = 5 ∧ 0 ≤ v ∧ v ≤ 20 ∧ l2 = lo)) : NSK g n l2 := by
  obtain ⟨a, b, c, d, e4, e5, s⟩ := h
  have q := fun j hj => gz_upc (j := j) hg (by omega) (by omega) hj
  have q0 := q 3560 (by omega)
  have q1 := q 3561 (by omega)
  have q3 := q 3563 (by omega)
  have q4 := q 3564 (by omega)
  have q5 := q 3565 (by omega)
  exact ⟨by omega, b, by omega, by omega, by omega, by omega, SKR.up s (sh_up hg (by omega) (by omega) ⟨he, by omega⟩) b hw⟩
theorem NSK.far {f g : Nat → Int32} {n lo e v : Int} (h : NSK f n lo) (hg : g = upd f (iZ e).toNatClampNeg (iZ v)) (he : (3606 ≤ e ∧ e < 2147483648) ∨ e = 3562) (hv : -2147483648 ≤ v ∧ v < 2147483648) : NSK g n lo := by
  obtain ⟨a, b, c, d, e4, e5, s⟩ := h
  have q := fun j hj => gz_upc (j := j) hg (by omega) hv hj
  have q0 := q 3560 (by omega)
  have q1 := q 3561 (by omega)
  have q3 := q 3563 (by omega)
  have q4 := q 3564 (by omega)
  have q5 := q 3565 (by omega)
  exact ⟨by omega, b, by omega, by omega, by omega, by omega, SKR.like (fun j h1 h2 => by rw [gz_sh (by omega) h1, gz_sh (by omega) h1]; have := q (3570 + j) (by omega); omega) b s⟩
theorem NSZ.far {f g : Nat → Int32} {e v : Int} (h : NSZ f) (hg : g = upd f (iZ e).toNatClampNeg (iZ v)) (he : (3606 ≤ e ∧ e < 2147483648) ∨ e = 3562) (hv : -2147483648 ≤ v ∧ v < 2147483648) : NSZ g := by
  obtain ⟨b, c, d, e4, e5, s⟩ := h
  have q := fun j hj => gz_upc (j := j) hg (by omega) hv hj
  have q0 := q 3560 (by omega)
  have q1 := q 3561 (by omega)
  have q3 := q 3563 (by omega)
  have q4 := q 3564 (by omega)
  have q5 := q 3565 (by omega)
  refine ⟨by omega, by omega, by omega, by omega, by omega, ?_⟩
  rw [show gz g 3560 = gz f 3560 by omega]
  exact SKZ.like (fun j h1 h2 => by rw [gz_sh (by omega) h1, gz_sh (by omega) h1]; have := q (3570 + j) (by omega); omega) b s
theorem NSZ.ice {f g : Nat → Int32} {v : Int} (h : NSZ f) (hg : g = upd f (iZ 3561).toNatClampNeg (iZ v)) (hv : 0 ≤ v ∧ v ≤ 8) : NSZ g := by
  obtain ⟨b, c, d, e4, e5, s⟩ := h
  have q := fun j hj => gz_upc (j := j) hg (by omega) (by omega) hj
  have q0 := q 3560 (by omega)
  have q1 := q 3561 (by omega)
  have q3 := q 3563 (by omega)
  have q4 := q 3564 (by omega)
  have q5 := q 3565 (by omega)
  refine ⟨by omega, by omega, by omega, by omega, by omega, ?_⟩
  rw [show gz g 3560 = gz f 3560 by omega]
  exact SKZ.like (fun j h1 h2 => by rw [gz_sh (by omega) h1, gz_sh (by omega) h1]; have := q (3570 + j) (by omega); omega) b s
theorem NSK.fin {f g : Nat → Int32} {n v : Int} (h : NSK f n 1) (hg : g = upd f (iZ 3560).toNatClampNeg (iZ v)) (hv : v = n + 1) : NSZ g := by
  obtain ⟨a, b, c, d, e4, e5, s⟩ := h
  have q := fun j hj => gz_upc (j := j) hg (by omega) (by omega) hj
  have q0 := q 3560 (by omega)
  have q1 := q 3561 (by omega)
  have q3 := q 3563 (by omega)
  have q4 := q 3564 (by omega)
  have q5 := q 3565 (by omega)
  refine ⟨by omega, by omega, by omega, by omega, by omega, ?_⟩
  rw [show gz g 3560 = n + 1 by omega]
  exact SKZ.like (f := sh f 3570) (fun j h1 h2 => by rw [gz_sh (by omega) h1, gz_sh (by omega) h1]; have := q (3570 + j) (by omega); omega) (by omega) (s.skz b)
theorem NSZ.start {f g : Nat → Int32} (h : ∀ e : Int, 0 ≤ e → e < 890 → gz g (3560 + e) = if e = 5 then -1 else 0) : NSZ g := by
  have z : ∀ e : Int, 0 ≤ e → e < 890 → ¬ e = 5 → gz g (3560 + e) = 0 := fun e a b c => by rw [h e a b, if_neg c]
  have h0 := z 0 (by omega) (by omega) (by omega)
  have h1 := z 1 (by omega) (by omega) (by omega)
  have h3 := z 3 (by omega) (by omega) (by omega)
  have h4 := z 4 (by omega) (by omega) (by omega)
  have h5 := h 5 (by omega) (by omega)
  rw [if_pos rfl] at h5
  rw [show (3560 + 0 : Int) = 3560 by omega] at h0
  rw [show (3560 + 1 : Int) = 3561 by omega] at h1
  rw [show (3560 + 3 : Int) = 3563 by omega] at h3
  rw [show (3560 + 4 : Int) = 3564 by omega] at h4
  rw [show (3560 + 5 : Int) = 3565 by omega] at h5
  refine ⟨by omega, by omega, h3, h4, h5, ?_⟩
  rw [h0]
  refine ⟨fun r a b => absurd a (by omega), fun e a b => ?_⟩
  rw [gz_sh (by omega) (by omega)]
  have := z (10 + e) (by omega) (by omega) (by omega)
  rw [show 3560 + (10 + e) = 3570 + e by omega] at this
  exact this
/-- what was read is the sky -/
theorem NSZ.m0 {f g : Nat → Int32} (h : NSZ f) (hg : ∀ e : Int, 0 ≤ e → e < 890 → gz g e = gz f (3560 + e)) : M0 g := by
  obtain ⟨b, c, d, e4, e5, s⟩ := h
  have h0 := hg 0 (by omega) (by omega)
  have h1 := hg 1 (by omega) (by omega)
  have h3 := hg 3 (by omega) (by omega)
  have h4 := hg 4 (by omega) (by omega)
  have h5 := hg 5 (by omega) (by omega)
  rw [show (3560 + 0 : Int) = 3560 by omega] at h0
  rw [show (3560 + 1 : Int) = 3561 by omega] at h1
  rw [show (3560 + 3 : Int) = 3563 by omega] at h3
  rw [show (3560 + 4 : Int) = 3564 by omega] at h4
  rw [show (3560 + 5 : Int) = 3565 by omega] at h5
  refine ⟨by omega, by omega, by omega, by omega, by omega, ?_, fun o a b => absurd a (by omega), fun o a b => absurd a (by omega)⟩
  rw [h0]
  exact (SKZ.like (f := sh f 3570) (g := sh g 10) (fun j a1 a2 => by rw [gz_sh (by omega) a1, gz_sh (by omega) a1, hg _ (by omega) (by omega)]; congr 1; omega) b s).1
set_option maxHeartbeats 4000000 in
set_option maxRecDepth 100000 in
theorem m_aRock (l : Launch) (D : va_G) (k : Nat → ClassId) (sa sv : Nat) (hm : Nat) (Ma : Nat) (Mn : Nat) (Ms : Nat) (My : Nat) (Mt : Nat) (Mp : Nat) (Mx : Nat) (Mo : Nat) (Mk : Nat) (Ml : Nat) (Mb : Nat) (Mh : Nat) (Mc : Nat) (Mz : Nat) (Mr : Nat) (Mq : Nat) (Mst : Int) (Mtd : Int) (Msz : Int) (Mtk : Int) (Mfr : Int) (Men : Int) (Mva : Int) (Mfk : Int) (Mfp : Int) (Mfs : Int) (Mse : Int) (Mlt : Int) (Mdp : Int) (Mct : Int) (Mdr : Int) (Mrs : Int) (Mit : Int) (Mmk : Int) (Mtp : Int64) (Mbt : Int64) (Xf : Nat → Int32) (Af : Nat → Int32) (Nf : Nat → Int64) (hTI : (0 ≤ (Mfr : Int) ∧ (Mfr : Int) ≤ Men) ∧ ((Men : Int) ≤ Msz ∧ (Msz : Int) ≤ 900) ∧ (0 ≤ (Mtk : Int) ∧ (Mtk : Int) ≤ 4) ∧ ((Mtk : Int) = 0 ∨ (Mfr : Int) < Men) ∧ (-1 ≤ (Mva : Int) ∧ (Mva : Int) ≤ 100000)) (hFS : 0 ≤ Mfs ∧ Mfs ≤ 9) (hNZ : NSZ Af) (htw : Mtk = 2) : SD (σ := ((Nat → Int) × (Nat → Int64) × (Nat → Nat → Int32) × (Nat → Nat → Int64))) sa sv l yX12_aRock cX12_aRock 3 (some .boolean) 6 D k [.ref hm] [(hm, .inr (12, [.ref Ma, .ref Mn, .int (iZ Mst), .long Mtp, .long Mbt, .ref Ms, .ref My, .ref Mt, .ref Mp, .ref Mx, .int (iZ Mtd), .int (iZ Msz), .int (iZ Mtk), .int (iZ Mfr), .int (iZ Men), .int (iZ Mva), .int (iZ Mfk), .int (iZ Mfp), .int (iZ Mfs), .int (iZ Mse), .int (iZ Mlt), .ref Mo, .int (iZ Mdp), .int (iZ Mct), .ref Mk, .ref Ml, .ref Mb, .ref Mh, .ref Mc, .int (iZ Mdr), .int (iZ Mrs), .ref Mz, .ref Mr, .ref Mq, .int (iZ Mit), .int (iZ Mmk)])), (Mx, .inl (k 0, 900, .inl Xf)), (Ma, .inl (k 1, 5340, .inl Af)), (Mn, .inl (k 2, 36, .inr (.inl Nf)))] (fun u => some (.int (iZ (u.1 0)))) (fun u => ((0 ≤ ((u.1 2) : Int) ∧ ((u.1 2) : Int) ≤ (u.1 3)) ∧ (((u.1 3) : Int) ≤ Msz ∧ (Msz : Int) ≤ 900) ∧ (0 ≤ ((u.1 1) : Int) ∧ ((u.1 1) : Int) ≤ 4) ∧ (((u.1 1) : Int) = 0 ∨ ((u.1 2) : Int) < (u.1 3)) ∧ (-1 ≤ ((u.1 4) : Int) ∧ ((u.1 4) : Int) ≤ 100000)) ∧ ((0 ≤ ((u.1 5) : Int) ∧ ((u.1 5) : Int) ≤ 9) ∧ (((u.1 0) : Int) = 0 → 1 ≤ ((u.1 5) : Int)) ∧ Mfr ≤ (u.1 2)) ∧ ((((u.1 0) : Int) = 0 ∧ KP (u.2.2.1 0) Af) ∨ (((u.1 0) : Int) = 1 ∧ KP (u.2.2.1 0) Af ∧ NSZ (u.2.2.1 0) ∧ Mfr < (u.1 2)))) (fun u => [(hm, .inr (12, [.ref Ma, .ref Mn, .int (iZ Mst), .long Mtp, .long Mbt, .ref Ms, .ref My, .ref Mt, .ref Mp, .ref Mx, .int (iZ Mtd), .int (iZ Msz), .int (iZ (u.1 1)), .int (iZ (u.1 2)), .int (iZ (u.1 3)), .int (iZ (u.1 4)), .int (iZ Mfk), .int (iZ (u.1 6)), .int (iZ (u.1 5)), .int (iZ Mse), .int (iZ Mlt), .ref Mo, .int (iZ Mdp), .int (iZ Mct), .ref Mk, .ref Ml, .ref Mb, .ref Mh, .ref Mc, .int (iZ Mdr), .int (iZ Mrs), .ref Mz, .ref Mr, .ref Mq, .int (iZ Mit), .int (iZ Mmk)])), (Mx, .inl (k 0, 900, .inl Xf)), (Ma, .inl (k 1, 5340, .inl (u.2.2.1 0))), (Mn, .inl (k 2, 36, .inr (.inl (u.2.2.2 0))))]) := by
  refine MSS (by decide) (Nat.le_of_ble_eq_true rfl) (fun p e s m below meth c ls A hx hb hml hr hlocks hin hts hown hKK hP hD hS hA hSY hRR hl => ?_)
  have hK := hKK.1
  have hl : lv_has ls 3 [(0, .ref hm)] := hl
  obtain ⟨nz0, nz1, nz3, nz4, nz5, nzS⟩ := id hNZ
  have hn5 : 0 ≤ gz Af 3560 ∧ gz Af 3560 ≤ 6 := nz0
  have HJ225 : ∀ (Mtkj : Int) (Mfrj : Int) (Menj : Int) (Mvaj : Int) (Mfsj : Int) (Mfpj : Int) (Afj : Nat → Int32) (Nfj : Nat → Int64) (H : Heap) (locs : List Loc) (ls : Array Slot), ((0 ≤ (Mfrj : Int) ∧ (Mfrj : Int) ≤ Menj) ∧ ((Menj : Int) ≤ Msz ∧ (Msz : Int) ≤ 900) ∧ (0 ≤ (Mtkj : Int) ∧ (Mtkj : Int) ≤ 4) ∧ ((Mtkj : Int) = 0 ∨ (Mfrj : Int) < Menj) ∧ (-1 ≤ (Mvaj : Int) ∧ (Mvaj : Int) ≤ 100000)) → (0 ≤ (Mfsj : Int) ∧ (Mfsj : Int) ≤ 9) → (KP Afj Af) → (Mfr < Mfrj) → (NSK Afj (gz Af 3560) 1) → va_P D vwCl [(hm, .inr (12, [.ref Ma, .ref Mn, .int (iZ Mst), .long Mtp, .long Mbt, .ref Ms, .ref My, .ref Mt, .ref Mp, .ref Mx, .int (iZ Mtd), .int (iZ Msz), .int (iZ Mtkj), .int (iZ Mfrj), .int (iZ Menj), .int (iZ Mvaj), .int (iZ Mfk), .int (iZ Mfpj), .int (iZ Mfsj), .int (iZ Mse), .int (iZ Mlt), .ref Mo, .int (iZ Mdp), .int (iZ Mct), .ref Mk, .ref Ml, .ref Mb, .ref Mh, .ref Mc, .int (iZ Mdr), .int (iZ Mrs), .ref Mz, .ref Mr, .ref Mq, .int (iZ Mit), .int (iZ Mmk)])), (Mx, .inl (k 0, 900, .inl Xf)), (Ma, .inl (k 1, 5340, .inl Afj)), (Mn, .inl (k 2, 36, .inr (.inl Nfj)))] H → va_D A [(hm, .inr (12, [.ref Ma, .ref Mn, .int (iZ Mst), .long Mtp, .long Mbt, .ref Ms, .ref My, .ref Mt, .ref Mp, .ref Mx, .int (iZ Mtd), .int (iZ Msz), .int (iZ Mtkj), .int (iZ Mfrj), .int (iZ Menj), .int (iZ Mvaj), .int (iZ Mfk), .int (iZ Mfpj), .int (iZ Mfsj), .int (iZ Mse), .int (iZ Mlt), .ref Mo, .int (iZ Mdp), .int (iZ Mct), .ref Mk, .ref Ml, .ref Mb, .ref Mh, .ref Mc, .int (iZ Mdr), .int (iZ Mrs), .ref Mz, .ref Mr, .ref Mq, .int (iZ Mit), .int (iZ Mmk)])), (Mx, .inl (k 0, 900, .inl Xf)), (Ma, .inl (k 1, 5340, .inl Afj)), (Mn, .inl (k 2, 36, .inr (.inl Nfj)))] → va_S A s.heap H locs → lv_has ls 3 [(2, .int (iZ (3570 + (6 * (gz Af 3560))))), (1, .int (iZ (gz Af 3560))), (0, .ref hm)] → W p l e (rj 6 0 0) s m [.ref hm].toArray below meth c H locs 0 0 (MQ below (QW (σ := ((Nat → Int) × (Nat → Int64) × (Nat → Nat → Int32) × (Nat → Nat → Int64))) (fun u => some (.int (iZ (u.1 0)))) (fun u => ((0 ≤ ((u.1 2) : Int) ∧ ((u.1 2) : Int) ≤ (u.1 3)) ∧ (((u.1 3) : Int) ≤ Msz ∧ (Msz : Int) ≤ 900) ∧ (0 ≤ ((u.1 1) : Int) ∧ ((u.1 1) : Int) ≤ 4) ∧ (((u.1 1) : Int) = 0 ∨ ((u.1 2) : Int) < (u.1 3)) ∧ (-1 ≤ ((u.1 4) : Int) ∧ ((u.1 4) : Int) ≤ 100000)) ∧ ((0 ≤ ((u.1 5) : Int) ∧ ((u.1 5) : Int) ≤ 9) ∧ (((u.1 0) : Int) = 0 → 1 ≤ ((u.1 5) : Int)) ∧ Mfr ≤ (u.1 2)) ∧ ((((u.1 0) : Int) = 0 ∧ KP (u.2.2.1 0) Af) ∨ (((u.1 0) : Int) = 1 ∧ KP (u.2.2.1 0) Af ∧ NSZ (u.2.2.1 0) ∧ Mfr < (u.1 2)))) (fun u => [(hm, .inr (12, [.ref Ma, .ref Mn, .int (iZ Mst), .long Mtp, .long Mbt, .ref Ms, .ref My, .ref Mt, .ref Mp, .ref Mx, .int (iZ Mtd), .int (iZ Msz), .int (iZ (u.1 1)), .int (iZ (u.1 2)), .int (iZ (u.1 3)), .int (iZ (u.1 4)), .int (iZ Mfk), .int (iZ (u.1 6)), .int (iZ (u.1 5)), .int (iZ Mse), .int (iZ Mlt), .ref Mo, .int (iZ Mdp), .int (iZ Mct), .ref Mk, .ref Ml, .ref Mb, .ref Mh, .ref Mc, .int (iZ Mdr), .int (iZ Mrs), .ref Mz, .ref Mr, .ref Mq, .int (iZ Mit), .int (iZ Mmk)])), (Mx, .inl (k 0, 900, .inl Xf)), (Ma, .inl (k 1, 5340, .inl (u.2.2.1 0))), (Mn, .inl (k 2, 36, .inr (.inl (u.2.2.2 0))))]) D A) [.ref hm].toArray s 0 0 A) (F0 m 225 ls []) := by
    intro Mtkj Mfrj Menj Mvaj Mfsj Mfpj Afj Nfj H locs ls jTI jFS jkp jmf jnk hP hD hS hl
    refine lv_aload_n hx hb dX12_aRock_225 rfl (lv_at hl 2 rfl) ?_
    refine lv_bipush (v := iZ 9) hx hb dX12_aRock_226 (by decide) ?_
    refine CSV (As := [.int (iZ 9)]) (rest := []) (wc := [(hm, .inr (12, [.ref Ma, .ref Mn, .int (iZ Mst), .long Mtp, .long Mbt, .ref Ms, .ref My, .ref Mt, .ref Mp, .ref Mx, .int (iZ Mtd), .int (iZ Msz), .int (iZ Mtkj), .int (iZ Mfrj), .int (iZ Menj), .int (iZ Mvaj), .int (iZ Mfk), .int (iZ Mfpj), .int (iZ Mfsj), .int (iZ Mse), .int (iZ Mlt), .ref Mo, .int (iZ Mdp), .int (iZ Mct), .ref Mk, .ref Ml, .ref Mb, .ref Mh, .ref Mc, .int (iZ Mdr), .int (iZ Mrs), .ref Mz, .ref Mr, .ref Mq, .int (iZ Mit), .int (iZ Mmk)])), (Mx, .inl (k 0, 900, .inl Xf))]) (wr := [(Ma, .inl (k 1, 5340, .inl Afj)), (Mn, .inl (k 2, 36, .inr (.inl Nfj)))]) hx hb hml hown hts hKK hP hD hS hA hSY hRR (m_isThere l D k sa sv hm Ma Mn Ms My Mt Mp Mx Mo Mk Ml Mb Mh Mc Mz Mr Mq Mst Mtd Msz Mtkj Mfrj Menj Mvaj Mfk Mfpj Mfsj Mse Mlt Mdp Mct Mdr Mrs Mit Mmk Mtp Mbt Xf 9 (by first | with_reducible assumption | exact ⟨⟨by omega, by omega⟩, ⟨by omega, by omega⟩, ⟨by omega, by omega⟩, by omega, by omega, by omega⟩) ⟨by omega, by omega⟩) ci_X12_isThere qm_X12_192 ⟨Nat.le_of_ble_eq_true rfl, Nat.le_of_ble_eq_true rfl⟩ ⟨Nat.le_of_ble_eq_true rfl, Nat.le_of_ble_eq_true rfl⟩ [0, 1] [2, 3] rfl rfl rfl rfl rfl (by decide) 0 rfl rfl rfl hl.1 rfl (Nat.le_of_ble_eq_true rfl) dX12_aRock_228 (fun u_1 H locs hφ hP hD hS => ?_)
    obtain ⟨I_2, L_3, F_4, G_5⟩ := u_1
    obtain ⟨p_7, p_8⟩ : ((0 ≤ ((I_2 2) : Int) ∧ ((I_2 2) : Int) ≤ (I_2 3)) ∧ (((I_2 3) : Int) ≤ Msz ∧ (Msz : Int) ≤ 900) ∧ (0 ≤ ((I_2 1) : Int) ∧ ((I_2 1) : Int) ≤ 4) ∧ (((I_2 1) : Int) = 0 ∨ ((I_2 2) : Int) < (I_2 3)) ∧ (-1 ≤ ((I_2 4) : Int) ∧ ((I_2 4) : Int) ≤ 100000)) ∧ ((((I_2 0) : Int) = 0 ∨ ((I_2 0) : Int) = 1) ∧ Mfrj ≤ (I_2 2)) := hφ
    refine W.eq (g2 := F0 m 231 ls [.int (iZ (I_2 0))]) rfl ?_
    rcases (show ((I_2 0) = 0) ∨ ((I_2 0) = 1) from (by omega)) with s_9 | s_9
    ·
      rw [s_9]
      refine lv_if_eq (tgt := 248) hx hb dX12_aRock_231 (by decide) (fun _ => ?_) (fun c => absurd (by decide) c)
      have hn0 := jnk.1
      refine lv_aload_n hx hb dX12_aRock_248 rfl (lv_at hl 2 rfl) ?_
      refine va_get (D := D) (ci := 12) (v := .ref Ma) (C := RX12) (T := TX12) (N := 36) hx hb hts iX12 hown hK hP 2 rfl rfl 0 (by decide) (hts _ qf_X12_7) (fun _ h => h) rfl dX12_aRock_249 ?_
      refine lv_sipush (v := iZ 3560) hx hb dX12_aRock_252 (by decide) ?_
      refine lv_dup2_11 hx hb dX12_aRock_255 rfl rfl ?_
      refine va_iald hx hb hK hP 0 1 rfl rfl (zin (e := 3560) (n := 5340) ⟨by omega, by omega⟩ (by decide)) dX12_aRock_256 ?_
      refine lv_topi (fun x_11 ex_11 => ?_)
      obtain rfl : x_11 = iZ (gz Afj 3560) := ex_11.trans (gz_eq ⟨by omega, by omega⟩)
      have h_12 := gz_rg Afj 3560
      refine lv_iconst (v := iZ 1) hx hb dX12_aRock_257 (by decide) ?_
      refine lv_iadd hx hb dX12_aRock_258 ?_
      refine lv_topi (fun x_13 ex_13 => ?_)
      obtain rfl : x_13 = iZ ((gz Afj 3560) + 1) := ex_13.trans (iZ_add (gz Afj 3560) 1)
      refine va_iast hx hb hK hP hD hS 0 1 rfl rfl (zin (e := 3560) (n := 5340) ⟨by omega, by omega⟩ (by decide)) dX12_aRock_259 (fun H locs hP hD hS => ?_)
      obtain ⟨f_14, hf_14⟩ : ∃ gg9, gg9 = upd Afj (iZ 3560).toNatClampNeg (iZ ((gz Afj 3560) + 1)) := ⟨_, rfl⟩
      rw [← hf_14] at hP hD
      have kp_15 := KP.up hf_14 ⟨by omega, by omega⟩ ⟨by omega, by omega⟩
      have ns_16 := NSK.fin jnk hf_14 (by omega)
      refine lv_iconst (v := iZ 1) hx hb dX12_aRock_260 (by decide) ?_
      exact EWz hx hb hr hlocks hS (fun i => [1, (I_2 1), (I_2 2), (I_2 3), (I_2 4), Mfsj, Mfpj].getD i 0, fun i => [0].getD i 0, fun i => [f_14].getD i (fun _ => 0), fun i => [Nfj].getD i (fun _ => 0)) rfl rfl ⟨(show (0 ≤ ((I_2 2) : Int) ∧ ((I_2 2) : Int) ≤ (I_2 3)) ∧ (((I_2 3) : Int) ≤ Msz ∧ (Msz : Int) ≤ 900) ∧ (0 ≤ ((I_2 1) : Int) ∧ ((I_2 1) : Int) ≤ 4) ∧ (((I_2 1) : Int) = 0 ∨ ((I_2 2) : Int) < (I_2 3)) ∧ (-1 ≤ ((I_2 4) : Int) ∧ ((I_2 4) : Int) ≤ 100000) from (by first | with_reducible assumption | exact ⟨⟨by omega, by omega⟩, ⟨by omega, by omega⟩, ⟨by omega, by omega⟩, by omega, by omega, by omega⟩)), (show (0 ≤ (Mfsj : Int) ∧ (Mfsj : Int) ≤ 9) ∧ ((1 : Int) = 0 → 1 ≤ (Mfsj : Int)) ∧ Mfr ≤ (I_2 2) from ⟨⟨by omega, by omega⟩, fun _ => by omega, by omega⟩), (show ((1 : Int) = 0 ∧ KP f_14 Af) ∨ ((1 : Int) = 1 ∧ KP f_14 Af ∧ NSZ f_14 ∧ Mfr < (I_2 2)) from (Or.inr ⟨rfl, (KP.tr kp_15 jkp), ns_16, by omega⟩))⟩ (hP.sub [2, 3, 0, 1] rfl) (hD.sub [2, 3, 0, 1] rfl rfl) dX12_aRock_261
    ·
      rw [s_9]
      refine lv_if_eq (tgt := 248) hx hb dX12_aRock_231 (by decide) (fun c => absurd c (by decide)) (fun _ => ?_)
      refine lv_aload_n hx hb dX12_aRock_234 rfl (lv_at hl 2 rfl) ?_
      refine va_get (D := D) (ci := 12) (v := .ref Ma) (C := RX12) (T := TX12) (N := 36) hx hb hts iX12 hown hK hP 2 rfl rfl 0 (by decide) (hts _ qf_X12_7) (fun _ h => h) rfl dX12_aRock_235 ?_
      refine lv_sipush (v := iZ 3678) hx hb dX12_aRock_238 (by decide) ?_
      refine lv_dup2_11 hx hb dX12_aRock_241 rfl rfl ?_
      refine va_iald hx hb hK hP 0 1 rfl rfl (zin (e := 3678) (n := 5340) ⟨by omega, by omega⟩ (by decide)) dX12_aRock_242 ?_
      refine lv_topi (fun x_18 ex_18 => ?_)
      obtain rfl : x_18 = iZ (gz Afj 3678) := ex_18.trans (gz_eq ⟨by omega, by omega⟩)
      have h_19 := gz_rg Afj 3678
      refine lv_iconst (v := iZ 1) hx hb dX12_aRock_243 (by decide) ?_
      refine lv_iload_n hx hb dX12_aRock_244 rfl (lv_at hl 1 rfl) ?_
      refine lv_ishl hx hb dX12_aRock_245 ?_
      refine lv_topi (fun x_21 ex_21 => ?_)
      obtain ⟨z_20, hz_20, hz_20a, hz_20b⟩ := i32_z x_21
      subst hz_20
      refine lv_ior hx hb dX12_aRock_246 ?_
      refine lv_topi (fun x_23 ex_23 => ?_)
      obtain ⟨z_22, hz_22, hz_22a, hz_22b⟩ := i32_z x_23
      subst hz_22
      refine va_iast hx hb hK hP hD hS 0 1 rfl rfl (zin (e := 3678) (n := 5340) ⟨by omega, by omega⟩ (by decide)) dX12_aRock_247 (fun H locs hP hD hS => ?_)
      obtain ⟨f_24, hf_24⟩ : ∃ gg9, gg9 = upd Afj (iZ 3678).toNatClampNeg (iZ z_22) := ⟨_, rfl⟩
      rw [← hf_24] at hP hD
      have kp_25 := KP.up hf_24 ⟨by omega, by omega⟩ ⟨by omega, by omega⟩
      have nk_26 := NSK.far jnk hf_24 (Or.inl ⟨by omega, by omega⟩) ⟨by omega, by omega⟩
      have hn0 := nk_26.1
      refine lv_aload_n hx hb dX12_aRock_248 rfl (lv_at hl 2 rfl) ?_
      refine va_get (D := D) (ci := 12) (v := .ref Ma) (C := RX12) (T := TX12) (N := 36) hx hb hts iX12 hown hK hP 2 rfl rfl 0 (by decide) (hts _ qf_X12_7) (fun _ h => h) rfl dX12_aRock_249 ?_
      refine lv_sipush (v := iZ 3560) hx hb dX12_aRock_252 (by decide) ?_
      refine lv_dup2_11 hx hb dX12_aRock_255 rfl rfl ?_
      refine va_iald hx hb hK hP 0 1 rfl rfl (zin (e := 3560) (n := 5340) ⟨by omega, by omega⟩ (by decide)) dX12_aRock_256 ?_
      refine lv_topi (fun x_27 ex_27 => ?_)
      obtain rfl : x_27 = iZ (gz f_24 3560) := ex_27.trans (gz_eq ⟨by omega, by omega⟩)
      have h_28 := gz_rg f_24 3560
      refine lv_iconst (v := iZ 1) hx hb dX12_aRock_257 (by decide) ?_
      refine lv_iadd hx hb dX12_aRock_258 ?_
      refine lv_topi (fun x_29 ex_29 => ?_)
      obtain rfl : x_29 = iZ ((gz f_24 3560) + 1) := ex_29.trans (iZ_add (gz f_24 3560) 1)
      refine va_iast hx hb hK hP hD hS 0 1 rfl rfl (zin (e := 3560) (n := 5340) ⟨by omega, by omega⟩ (by decide)) dX12_aRock_259 (fun H locs hP hD hS => ?_)
      obtain ⟨f_30, hf_30⟩ : ∃ gg9, gg9 = upd f_24 (iZ 3560).toNatClampNeg (iZ ((gz f_24 3560) + 1)) := ⟨_, rfl⟩
      rw [← hf_30] at hP hD
      have kp_31 := KP.up hf_30 ⟨by omega, by omega⟩ ⟨by omega, by omega⟩
      have ns_32 := NSK.fin nk_26 hf_30 (by omega)
      refine lv_iconst (v := iZ 1) hx hb dX12_aRock_260 (by decide) ?_
      exact EWz hx hb hr hlocks hS (fun i => [1, (I_2 1), (I_2 2), (I_2 3), (I_2 4), Mfsj, Mfpj].getD i 0, fun i => [0].getD i 0, fun i => [f_30].getD i (fun _ => 0), fun i => [Nfj].getD i (fun _ => 0)) rfl rfl ⟨(show (0 ≤ ((I_2 2) : Int) ∧ ((I_2 2) : Int) ≤ (I_2 3)) ∧ (((I_2 3) : Int) ≤ Msz ∧ (Msz : Int) ≤ 900) ∧ (0 ≤ ((I_2 1) : Int) ∧ ((I_2 1) : Int) ≤ 4) ∧ (((I_2 1) : Int) = 0 ∨ ((I_2 2) : Int) < (I_2 3)) ∧ (-1 ≤ ((I_2 4) : Int) ∧ ((I_2 4) : Int) ≤ 100000) from (by first | with_reducible assumption | exact ⟨⟨by omega, by omega⟩, ⟨by omega, by omega⟩, ⟨by omega, by omega⟩, by omega, by omega, by omega⟩)), (show (0 ≤ (Mfsj : Int) ∧ (Mfsj : Int) ≤ 9) ∧ ((1 : Int) = 0 → 1 ≤ (Mfsj : Int)) ∧ Mfr ≤ (I_2 2) from ⟨⟨by omega, by omega⟩, fun _ => by omega, by omega⟩), (show ((1 : Int) = 0 ∧ KP f_30 Af) ∨ ((1 : Int) = 1 ∧ KP f_30 Af ∧ NSZ f_30 ∧ Mfr < (I_2 2)) from (Or.inr ⟨rfl, (KP.tr kp_31 (KP.tr kp_25 jkp)), ns_32, by omega⟩))⟩ (hP.sub [2, 3, 0, 1] rfl) (hD.sub [2, 3, 0, 1] rfl rfl) dX12_aRock_261
  have HJ177 : ∀ (Mtkj : Int) (Mfrj : Int) (Menj : Int) (Mvaj : Int) (Mfsj : Int) (Mfpj : Int) (Afj : Nat → Int32) (Nfj : Nat → Int64) (H : Heap) (locs : List Loc) (ls : Array Slot), ((0 ≤ (Mfrj : Int) ∧ (Mfrj : Int) ≤ Menj) ∧ ((Menj : Int) ≤ Msz ∧ (Msz : Int) ≤ 900) ∧ (0 ≤ (Mtkj : Int) ∧ (Mtkj : Int) ≤ 4) ∧ ((Mtkj : Int) = 0 ∨ (Mfrj : Int) < Menj) ∧ (-1 ≤ (Mvaj : Int) ∧ (Mvaj : Int) ≤ 100000)) → (0 ≤ (Mfsj : Int) ∧ (Mfsj : Int) ≤ 9) → (KP Afj Af) → (Mfr < Mfrj) → (NSK Afj (gz Af 3560) 1) → va_P D vwCl [(hm, .inr (12, [.ref Ma, .ref Mn, .int (iZ Mst), .long Mtp, .long Mbt, .ref Ms, .ref My, .ref Mt, .ref Mp, .ref Mx, .int (iZ Mtd), .int (iZ Msz), .int (iZ Mtkj), .int (iZ Mfrj), .int (iZ Menj), .int (iZ Mvaj), .int (iZ Mfk), .int (iZ Mfpj), .int (iZ Mfsj), .int (iZ Mse), .int (iZ Mlt), .ref Mo, .int (iZ Mdp), .int (iZ Mct), .ref Mk, .ref Ml, .ref Mb, .ref Mh, .ref Mc, .int (iZ Mdr), .int (iZ Mrs), .ref Mz, .ref Mr, .ref Mq, .int (iZ Mit), .int (iZ Mmk)])), (Mx, .inl (k 0, 900, .inl Xf)), (Ma, .inl (k 1, 5340, .inl Afj)), (Mn, .inl (k 2, 36, .inr (.inl Nfj)))] H → va_D A [(hm, .inr (12, [.ref Ma, .ref Mn, .int (iZ Mst), .long Mtp, .long Mbt, .ref Ms, .ref My, .ref Mt, .ref Mp, .ref Mx, .int (iZ Mtd), .int (iZ Msz), .int (iZ Mtkj), .int (iZ Mfrj), .int (iZ Menj), .int (iZ Mvaj), .int (iZ Mfk), .int (iZ Mfpj), .int (iZ Mfsj), .int (iZ Mse), .int (iZ Mlt), .ref Mo, .int (iZ Mdp), .int (iZ Mct), .ref Mk, .ref Ml, .ref Mb, .ref Mh, .ref Mc, .int (iZ Mdr), .int (iZ Mrs), .ref Mz, .ref Mr, .ref Mq, .int (iZ Mit), .int (iZ Mmk)])), (Mx, .inl (k 0, 900, .inl Xf)), (Ma, .inl (k 1, 5340, .inl Afj)), (Mn, .inl (k 2, 36, .inr (.inl Nfj)))] → va_S A s.heap H locs → lv_has ls 3 [(2, .int (iZ (3570 + (6 * (gz Af 3560))))), (1, .int (iZ (gz Af 3560))), (0, .ref hm)] → W p l e (rj 6 0 0) s m [.ref hm].toArray below meth c H locs 0 0 (MQ below (QW (σ := ((Nat → Int) × (Nat → Int64) × (Nat → Nat → Int32) × (Nat → Nat → Int64))) (fun u => some (.int (iZ (u.1 0)))) (fun u => ((0 ≤ ((u.1 2) : Int) ∧ ((u.1 2) : Int) ≤ (u.1 3)) ∧ (((u.1 3) : Int) ≤ Msz ∧ (Msz : Int) ≤ 900) ∧ (0 ≤ ((u.1 1) : Int) ∧ ((u.1 1) : Int) ≤ 4) ∧ (((u.1 1) : Int) = 0 ∨ ((u.1 2) : Int) < (u.1 3)) ∧ (-1 ≤ ((u.1 4) : Int) ∧ ((u.1 4) : Int) ≤ 100000)) ∧ ((0 ≤ ((u.1 5) : Int) ∧ ((u.1 5) : Int) ≤ 9) ∧ (((u.1 0) : Int) = 0 → 1 ≤ ((u.1 5) : Int)) ∧ Mfr ≤ (u.1 2)) ∧ ((((u.1 0) : Int) = 0 ∧ KP (u.2.2.1 0) Af) ∨ (((u.1 0) : Int) = 1 ∧ KP (u.2.2.1 0) Af ∧ NSZ (u.2.2.1 0) ∧ Mfr < (u.1 2)))) (fun u => [(hm, .inr (12, [.ref Ma, .ref Mn, .int (iZ Mst), .long Mtp, .long Mbt, .ref Ms, .ref My, .ref Mt, .ref Mp, .ref Mx, .int (iZ Mtd), .int (iZ Msz), .int (iZ (u.1 1)), .int (iZ (u.1 2)), .int (iZ (u.1 3)), .int (iZ (u.1 4)), .int (iZ Mfk), .int (iZ (u.1 6)), .int (iZ (u.1 5)), .int (iZ Mse), .int (iZ Mlt), .ref Mo, .int (iZ Mdp), .int (iZ Mct), .ref Mk, .ref Ml, .ref Mb, .ref Mh, .ref Mc, .int (iZ Mdr), .int (iZ Mrs), .ref Mz, .ref Mr, .ref Mq, .int (iZ Mit), .int (iZ Mmk)])), (Mx, .inl (k 0, 900, .inl Xf)), (Ma, .inl (k 1, 5340, .inl (u.2.2.1 0))), (Mn, .inl (k 2, 36, .inr (.inl (u.2.2.2 0))))]) D A) [.ref hm].toArray s 0 0 A) (F0 m 177 ls []) := by
    intro Mtkj Mfrj Menj Mvaj Mfsj Mfpj Afj Nfj H locs ls jTI jFS jkp jmf jnk hP hD hS hl
    refine lv_aload_n hx hb dX12_aRock_177 rfl (lv_at hl 2 rfl) ?_
    refine lv_bipush (v := iZ 7) hx hb dX12_aRock_178 (by decide) ?_
    refine CSV (As := [.int (iZ 7)]) (rest := []) (wc := [(hm, .inr (12, [.ref Ma, .ref Mn, .int (iZ Mst), .long Mtp, .long Mbt, .ref Ms, .ref My, .ref Mt, .ref Mp, .ref Mx, .int (iZ Mtd), .int (iZ Msz), .int (iZ Mtkj), .int (iZ Mfrj), .int (iZ Menj), .int (iZ Mvaj), .int (iZ Mfk), .int (iZ Mfpj), .int (iZ Mfsj), .int (iZ Mse), .int (iZ Mlt), .ref Mo, .int (iZ Mdp), .int (iZ Mct), .ref Mk, .ref Ml, .ref Mb, .ref Mh, .ref Mc, .int (iZ Mdr), .int (iZ Mrs), .ref Mz, .ref Mr, .ref Mq, .int (iZ Mit), .int (iZ Mmk)])), (Mx, .inl (k 0, 900, .inl Xf))]) (wr := [(Ma, .inl (k 1, 5340, .inl Afj)), (Mn, .inl (k 2, 36, .inr (.inl Nfj)))]) hx hb hml hown hts hKK hP hD hS hA hSY hRR (m_isThere l D k sa sv hm Ma Mn Ms My Mt Mp Mx Mo Mk Ml Mb Mh Mc Mz Mr Mq Mst Mtd Msz Mtkj Mfrj Menj Mvaj Mfk Mfpj Mfsj Mse Mlt Mdp Mct Mdr Mrs Mit Mmk Mtp Mbt Xf 7 (by first | with_reducible assumption | exact ⟨⟨by omega, by omega⟩, ⟨by omega, by omega⟩, ⟨by omega, by omega⟩, by omega, by omega, by omega⟩) ⟨by omega, by omega⟩) ci_X12_isThere qm_X12_192 ⟨Nat.le_of_ble_eq_true rfl, Nat.le_of_ble_eq_true rfl⟩ ⟨Nat.le_of_ble_eq_true rfl, Nat.le_of_ble_eq_true rfl⟩ [0, 1] [2, 3] rfl rfl rfl rfl rfl (by decide) 0 rfl rfl rfl hl.1 rfl (Nat.le_of_ble_eq_true rfl) dX12_aRock_180 (fun u_33 H locs hφ hP hD hS => ?_)
    obtain ⟨I_34, L_35, F_36, G_37⟩ := u_33
    obtain ⟨p_39, p_40⟩ : ((0 ≤ ((I_34 2) : Int) ∧ ((I_34 2) : Int) ≤ (I_34 3)) ∧ (((I_34 3) : Int) ≤ Msz ∧ (Msz : Int) ≤ 900) ∧ (0 ≤ ((I_34 1) : Int) ∧ ((I_34 1) : Int) ≤ 4) ∧ (((I_34 1) : Int) = 0 ∨ ((I_34 2) : Int) < (I_34 3)) ∧ (-1 ≤ ((I_34 4) : Int) ∧ ((I_34 4) : Int) ≤ 100000)) ∧ ((((I_34 0) : Int) = 0 ∨ ((I_34 0) : Int) = 1) ∧ Mfrj ≤ (I_34 2)) := hφ
    refine W.eq (g2 := F0 m 183 ls [.int (iZ (I_34 0))]) rfl ?_
    rcases (show ((I_34 0) = 0) ∨ ((I_34 0) = 1) from (by omega)) with s_41 | s_41
    ·
      rw [s_41]
      refine lv_if_eq (tgt := 225) hx hb dX12_aRock_183 (by decide) (fun _ => ?_) (fun c => absurd (by decide) c)
      exact HJ225 (I_34 1) (I_34 2) (I_34 3) (I_34 4) Mfsj Mfpj Afj Nfj _ _ _ (show (0 ≤ ((I_34 2) : Int) ∧ ((I_34 2) : Int) ≤ (I_34 3)) ∧ (((I_34 3) : Int) ≤ Msz ∧ (Msz : Int) ≤ 900) ∧ (0 ≤ ((I_34 1) : Int) ∧ ((I_34 1) : Int) ≤ 4) ∧ (((I_34 1) : Int) = 0 ∨ ((I_34 2) : Int) < (I_34 3)) ∧ (-1 ≤ ((I_34 4) : Int) ∧ ((I_34 4) : Int) ≤ 100000) from (by first | with_reducible assumption | exact ⟨⟨by omega, by omega⟩, ⟨by omega, by omega⟩, ⟨by omega, by omega⟩, by omega, by omega, by omega⟩)) (show 0 ≤ (Mfsj : Int) ∧ (Mfsj : Int) ≤ 9 from ⟨by omega, by omega⟩) (show KP Afj Af from jkp) (show Mfr < (I_34 2) from (by omega)) (show NSK Afj (gz Af 3560) 1 from jnk) (hP.sub [2, 3, 0, 1] rfl) (hD.sub [2, 3, 0, 1] rfl rfl) hS (lv_sub hl [0, 1, 2] rfl)
    ·
      rw [s_41]
      refine lv_if_eq (tgt := 225) hx hb dX12_aRock_183 (by decide) (fun c => absurd c (by decide)) (fun _ => ?_)
      refine lv_aload_n hx hb dX12_aRock_186 rfl (lv_at hl 2 rfl) ?_
      refine lv_iload_n hx hb dX12_aRock_187 rfl (lv_at hl 0 rfl) ?_
      refine lv_iconst (v := iZ 4) hx hb dX12_aRock_188 (by decide) ?_
      refine lv_iadd hx hb dX12_aRock_189 ?_
      refine lv_topi (fun x_44 ex_44 => ?_)
      obtain rfl : x_44 = iZ ((3570 + (6 * (gz Af 3560))) + 4) := ex_44.trans (iZ_add (3570 + (6 * (gz Af 3560))) 4)
      refine lv_iconst (v := iZ 0) hx hb dX12_aRock_190 (by decide) ?_
      refine lv_bipush (v := iZ 99) hx hb dX12_aRock_191 (by decide) ?_
      refine CWV (As := [.int (iZ ((3570 + (6 * (gz Af 3560))) + 4)), .int (iZ 0), .int (iZ 99)]) (rest := []) (wc := [(hm, .inr (12, [.ref Ma, .ref Mn, .int (iZ Mst), .long Mtp, .long Mbt, .ref Ms, .ref My, .ref Mt, .ref Mp, .ref Mx, .int (iZ Mtd), .int (iZ Msz), .int (iZ (I_34 1)), .int (iZ (I_34 2)), .int (iZ (I_34 3)), .int (iZ (I_34 4)), .int (iZ Mfk), .int (iZ Mfpj), .int (iZ Mfsj), .int (iZ Mse), .int (iZ Mlt), .ref Mo, .int (iZ Mdp), .int (iZ Mct), .ref Mk, .ref Ml, .ref Mb, .ref Mh, .ref Mc, .int (iZ Mdr), .int (iZ Mrs), .ref Mz, .ref Mr, .ref Mq, .int (iZ Mit), .int (iZ Mmk)])), (Mx, .inl (k 0, 900, .inl Xf)), (Ma, .inl (k 1, 5340, .inl Afj))]) (wr := [(Mn, .inl (k 2, 36, .inr (.inl Nfj)))]) hx hb hml hown hts hKK hP hD hS hA (m_number l D k hm Ma Mn Ms My Mt Mp Mx Mo Mk Ml Mb Mh Mc Mz Mr Mq Mst Mtd Msz (I_34 1) (I_34 2) (I_34 3) (I_34 4) Mfk Mfpj Mfsj Mse Mlt Mdp Mct Mdr Mrs Mit Mmk Mtp Mbt Xf Afj ((3570 + (6 * (gz Af 3560))) + 4) 0 99 (by first | with_reducible assumption | exact ⟨⟨by omega, by omega⟩, ⟨by omega, by omega⟩, ⟨by omega, by omega⟩, by omega, by omega, by omega⟩) ⟨by omega, by omega⟩ ⟨by omega, by omega⟩ ⟨by omega, by omega⟩ ⟨by omega, by omega⟩) ci_X12_number qm_X12_188 ⟨Nat.le_of_ble_eq_true rfl, Nat.le_of_ble_eq_true rfl⟩ ⟨Nat.le_of_ble_eq_true rfl, Nat.le_of_ble_eq_true rfl⟩ [2, 3, 0] [1] rfl rfl rfl rfl rfl (by decide) 0 rfl rfl rfl hl.1 rfl (Nat.le_of_ble_eq_true rfl) dX12_aRock_193 (fun u_45 H locs hφ hP hD hS => ?_)
      obtain ⟨I_46, L_47, F_48, G_49⟩ := u_45
      obtain ⟨p_51, p_52, p_53⟩ : ((0 ≤ ((I_46 2) : Int) ∧ ((I_46 2) : Int) ≤ (I_46 3)) ∧ (((I_46 3) : Int) ≤ Msz ∧ (Msz : Int) ≤ 900) ∧ (0 ≤ ((I_46 1) : Int) ∧ ((I_46 1) : Int) ≤ 4) ∧ (((I_46 1) : Int) = 0 ∨ ((I_46 2) : Int) < (I_46 3)) ∧ (-1 ≤ ((I_46 4) : Int) ∧ ((I_46 4) : Int) ≤ 100000)) ∧ ((0 ≤ ((I_46 5) : Int) ∧ ((I_46 5) : Int) ≤ 9) ∧ (((I_46 0) : Int) = 0 → 1 ≤ ((I_46 5) : Int)) ∧ (((I_46 0) : Int) = 0 ∨ ((I_46 0) : Int) = 1) ∧ (I_34 2) ≤ (I_46 2)) ∧ ((((I_46 0) : Int) = 0 ∧ (F_48 0) = Afj) ∨ (((I_46 0) : Int) = 1 ∧ ∃ v6 : Int, 0 ≤ v6 ∧ v6 ≤ 99 ∧ (F_48 0) = upd Afj (iZ ((3570 + (6 * (gz Af 3560))) + 4)).toNatClampNeg (iZ v6))) := hφ
      refine W.eq (g2 := F0 m 196 ls [.int (iZ (I_46 0))]) rfl ?_
      rcases p_53 with ⟨qt_54, et_54⟩ | ⟨qt_54, vt_54, g1t_54, g2t_54, ht_54⟩
      ·
        rw [qt_54]
        have kp_55 : KP (F_48 0) Afj := by rw [et_54]; exact KP.rf _
        refine lv_if_ne (tgt := 201) hx hb dX12_aRock_196 (by decide) (fun c => absurd (by decide) c) (fun _ => ?_)
        refine lv_iconst (v := iZ 0) hx hb dX12_aRock_199 (by decide) ?_
        exact EWz hx hb hr hlocks hS (fun i => [0, (I_46 1), (I_46 2), (I_46 3), (I_46 4), (I_46 5), (I_46 6)].getD i 0, fun i => [0].getD i 0, fun i => [(F_48 0)].getD i (fun _ => 0), fun i => [Nfj].getD i (fun _ => 0)) rfl rfl ⟨(show (0 ≤ ((I_46 2) : Int) ∧ ((I_46 2) : Int) ≤ (I_46 3)) ∧ (((I_46 3) : Int) ≤ Msz ∧ (Msz : Int) ≤ 900) ∧ (0 ≤ ((I_46 1) : Int) ∧ ((I_46 1) : Int) ≤ 4) ∧ (((I_46 1) : Int) = 0 ∨ ((I_46 2) : Int) < (I_46 3)) ∧ (-1 ≤ ((I_46 4) : Int) ∧ ((I_46 4) : Int) ≤ 100000) from (by first | with_reducible assumption | exact ⟨⟨by omega, by omega⟩, ⟨by omega, by omega⟩, ⟨by omega, by omega⟩, by omega, by omega, by omega⟩)), (show (0 ≤ ((I_46 5) : Int) ∧ ((I_46 5) : Int) ≤ 9) ∧ ((0 : Int) = 0 → 1 ≤ ((I_46 5) : Int)) ∧ Mfr ≤ (I_46 2) from ⟨⟨by omega, by omega⟩, fun _ => by omega, by omega⟩), (show ((0 : Int) = 0 ∧ KP (F_48 0) Af) ∨ ((0 : Int) = 1 ∧ KP (F_48 0) Af ∧ NSZ (F_48 0) ∧ Mfr < (I_46 2)) from (Or.inl ⟨rfl, (KP.tr kp_55 jkp)⟩))⟩ (hP.sub [1, 2, 3, 0] rfl) (hD.sub [1, 2, 3, 0] rfl rfl) dX12_aRock_200
      ·
        rw [qt_54]
        have kp_57 := KP.up ht_54 ⟨by omega, by omega⟩ ⟨by omega, by omega⟩
        have nk_58 : NSK _ _ 1 := NSK.up (w := 4) jnk ht_54 (by omega) (by omega)
        refine lv_if_ne (tgt := 201) hx hb dX12_aRock_196 (by decide) (fun _ => ?_) (fun c => absurd c (by decide))
        refine lv_aload_n hx hb dX12_aRock_201 rfl (lv_at hl 2 rfl) ?_
        refine lv_bipush (v := iZ 8) hx hb dX12_aRock_202 (by decide) ?_
        refine CSV (As := [.int (iZ 8)]) (rest := []) (wc := [(hm, .inr (12, [.ref Ma, .ref Mn, .int (iZ Mst), .long Mtp, .long Mbt, .ref Ms, .ref My, .ref Mt, .ref Mp, .ref Mx, .int (iZ Mtd), .int (iZ Msz), .int (iZ (I_46 1)), .int (iZ (I_46 2)), .int (iZ (I_46 3)), .int (iZ (I_46 4)), .int (iZ Mfk), .int (iZ (I_46 6)), .int (iZ (I_46 5)), .int (iZ Mse), .int (iZ Mlt), .ref Mo, .int (iZ Mdp), .int (iZ Mct), .ref Mk, .ref Ml, .ref Mb, .ref Mh, .ref Mc, .int (iZ Mdr), .int (iZ Mrs), .ref Mz, .ref Mr, .ref Mq, .int (iZ Mit), .int (iZ Mmk)])), (Mx, .inl (k 0, 900, .inl Xf))]) (wr := [(Mn, .inl (k 2, 36, .inr (.inl Nfj))), (Ma, .inl (k 1, 5340, .inl (F_48 0)))]) hx hb hml hown hts hKK hP hD hS hA hSY hRR (m_isThere l D k sa sv hm Ma Mn Ms My Mt Mp Mx Mo Mk Ml Mb Mh Mc Mz Mr Mq Mst Mtd Msz (I_46 1) (I_46 2) (I_46 3) (I_46 4) Mfk (I_46 6) (I_46 5) Mse Mlt Mdp Mct Mdr Mrs Mit Mmk Mtp Mbt Xf 8 (by first | with_reducible assumption | exact ⟨⟨by omega, by omega⟩, ⟨by omega, by omega⟩, ⟨by omega, by omega⟩, by omega, by omega, by omega⟩) ⟨by omega, by omega⟩) ci_X12_isThere qm_X12_192 ⟨Nat.le_of_ble_eq_true rfl, Nat.le_of_ble_eq_true rfl⟩ ⟨Nat.le_of_ble_eq_true rfl, Nat.le_of_ble_eq_true rfl⟩ [1, 2] [0, 3] rfl rfl rfl rfl rfl (by decide) 0 rfl rfl rfl hl.1 rfl (Nat.le_of_ble_eq_true rfl) dX12_aRock_204 (fun u_60 H locs hφ hP hD hS => ?_)
        obtain ⟨I_61, L_62, F_63, G_64⟩ := u_60
        obtain ⟨p_66, p_67⟩ : ((0 ≤ ((I_61 2) : Int) ∧ ((I_61 2) : Int) ≤ (I_61 3)) ∧ (((I_61 3) : Int) ≤ Msz ∧ (Msz : Int) ≤ 900) ∧ (0 ≤ ((I_61 1) : Int) ∧ ((I_61 1) : Int) ≤ 4) ∧ (((I_61 1) : Int) = 0 ∨ ((I_61 2) : Int) < (I_61 3)) ∧ (-1 ≤ ((I_61 4) : Int) ∧ ((I_61 4) : Int) ≤ 100000)) ∧ ((((I_61 0) : Int) = 0 ∨ ((I_61 0) : Int) = 1) ∧ (I_46 2) ≤ (I_61 2)) := hφ
        refine W.eq (g2 := F0 m 207 ls [.int (iZ (I_61 0))]) rfl ?_
        rcases (show ((I_61 0) = 0) ∨ ((I_61 0) = 1) from (by omega)) with s_68 | s_68
        ·
          rw [s_68]
          refine lv_if_eq (tgt := 225) hx hb dX12_aRock_207 (by decide) (fun _ => ?_) (fun c => absurd (by decide) c)
          exact HJ225 (I_61 1) (I_61 2) (I_61 3) (I_61 4) (I_46 5) (I_46 6) (F_48 0) Nfj _ _ _ (show (0 ≤ ((I_61 2) : Int) ∧ ((I_61 2) : Int) ≤ (I_61 3)) ∧ (((I_61 3) : Int) ≤ Msz ∧ (Msz : Int) ≤ 900) ∧ (0 ≤ ((I_61 1) : Int) ∧ ((I_61 1) : Int) ≤ 4) ∧ (((I_61 1) : Int) = 0 ∨ ((I_61 2) : Int) < (I_61 3)) ∧ (-1 ≤ ((I_61 4) : Int) ∧ ((I_61 4) : Int) ≤ 100000) from (by first | with_reducible assumption | exact ⟨⟨by omega, by omega⟩, ⟨by omega, by omega⟩, ⟨by omega, by omega⟩, by omega, by omega, by omega⟩)) (show 0 ≤ ((I_46 5) : Int) ∧ ((I_46 5) : Int) ≤ 9 from ⟨by omega, by omega⟩) (show KP (F_48 0) Af from (KP.tr kp_57 jkp)) (show Mfr < (I_61 2) from (by omega)) (show NSK (F_48 0) (gz Af 3560) 1 from nk_58) (hP.sub [2, 3, 1, 0] rfl) (hD.sub [2, 3, 1, 0] rfl rfl) hS (lv_sub hl [0, 1, 2] rfl)
        ·
          rw [s_68]
          refine lv_if_eq (tgt := 225) hx hb dX12_aRock_207 (by decide) (fun c => absurd c (by decide)) (fun _ => ?_)
          refine lv_aload_n hx hb dX12_aRock_210 rfl (lv_at hl 2 rfl) ?_
          refine lv_iload_n hx hb dX12_aRock_211 rfl (lv_at hl 0 rfl) ?_
          refine lv_iconst (v := iZ 5) hx hb dX12_aRock_212 (by decide) ?_
          refine lv_iadd hx hb dX12_aRock_213 ?_
          refine lv_topi (fun x_71 ex_71 => ?_)
          obtain rfl : x_71 = iZ ((3570 + (6 * (gz Af 3560))) + 5) := ex_71.trans (iZ_add (3570 + (6 * (gz Af 3560))) 5)
          refine lv_iconst (v := iZ 0) hx hb dX12_aRock_214 (by decide) ?_
          refine lv_bipush (v := iZ 20) hx hb dX12_aRock_215 (by decide) ?_
          refine CWV (As := [.int (iZ ((3570 + (6 * (gz Af 3560))) + 5)), .int (iZ 0), .int (iZ 20)]) (rest := []) (wc := [(hm, .inr (12, [.ref Ma, .ref Mn, .int (iZ Mst), .long Mtp, .long Mbt, .ref Ms, .ref My, .ref Mt, .ref Mp, .ref Mx, .int (iZ Mtd), .int (iZ Msz), .int (iZ (I_61 1)), .int (iZ (I_61 2)), .int (iZ (I_61 3)), .int (iZ (I_61 4)), .int (iZ Mfk), .int (iZ (I_46 6)), .int (iZ (I_46 5)), .int (iZ Mse), .int (iZ Mlt), .ref Mo, .int (iZ Mdp), .int (iZ Mct), .ref Mk, .ref Ml, .ref Mb, .ref Mh, .ref Mc, .int (iZ Mdr), .int (iZ Mrs), .ref Mz, .ref Mr, .ref Mq, .int (iZ Mit), .int (iZ Mmk)])), (Mx, .inl (k 0, 900, .inl Xf)), (Ma, .inl (k 1, 5340, .inl (F_48 0)))]) (wr := [(Mn, .inl (k 2, 36, .inr (.inl Nfj)))]) hx hb hml hown hts hKK hP hD hS hA (m_number l D k hm Ma Mn Ms My Mt Mp Mx Mo Mk Ml Mb Mh Mc Mz Mr Mq Mst Mtd Msz (I_61 1) (I_61 2) (I_61 3) (I_61 4) Mfk (I_46 6) (I_46 5) Mse Mlt Mdp Mct Mdr Mrs Mit Mmk Mtp Mbt Xf (F_48 0) ((3570 + (6 * (gz Af 3560))) + 5) 0 20 (by first | with_reducible assumption | exact ⟨⟨by omega, by omega⟩, ⟨by omega, by omega⟩, ⟨by omega, by omega⟩, by omega, by omega, by omega⟩) ⟨by omega, by omega⟩ ⟨by omega, by omega⟩ ⟨by omega, by omega⟩ ⟨by omega, by omega⟩) ci_X12_number qm_X12_188 ⟨Nat.le_of_ble_eq_true rfl, Nat.le_of_ble_eq_true rfl⟩ ⟨Nat.le_of_ble_eq_true rfl, Nat.le_of_ble_eq_true rfl⟩ [2, 3, 1] [0] rfl rfl rfl rfl rfl (by decide) 0 rfl rfl rfl hl.1 rfl (Nat.le_of_ble_eq_true rfl) dX12_aRock_217 (fun u_72 H locs hφ hP hD hS => ?_)
          obtain ⟨I_73, L_74, F_75, G_76⟩ := u_72
          obtain ⟨p_78, p_79, p_80⟩ : ((0 ≤ ((I_73 2) : Int) ∧ ((I_73 2) : Int) ≤ (I_73 3)) ∧ (((I_73 3) : Int) ≤ Msz ∧ (Msz : Int) ≤ 900) ∧ (0 ≤ ((I_73 1) : Int) ∧ ((I_73 1) : Int) ≤ 4) ∧ (((I_73 1) : Int) = 0 ∨ ((I_73 2) : Int) < (I_73 3)) ∧ (-1 ≤ ((I_73 4) : Int) ∧ ((I_73 4) : Int) ≤ 100000)) ∧ ((0 ≤ ((I_73 5) : Int) ∧ ((I_73 5) : Int) ≤ 9) ∧ (((I_73 0) : Int) = 0 → 1 ≤ ((I_73 5) : Int)) ∧ (((I_73 0) : Int) = 0 ∨ ((I_73 0) : Int) = 1) ∧ (I_61 2) ≤ (I_73 2)) ∧ ((((I_73 0) : Int) = 0 ∧ (F_75 0) = (F_48 0)) ∨ (((I_73 0) : Int) = 1 ∧ ∃ v6 : Int, 0 ≤ v6 ∧ v6 ≤ 20 ∧ (F_75 0) = upd (F_48 0) (iZ ((3570 + (6 * (gz Af 3560))) + 5)).toNatClampNeg (iZ v6))) := hφ
          refine W.eq (g2 := F0 m 220 ls [.int (iZ (I_73 0))]) rfl ?_
          rcases p_80 with ⟨qt_81, et_81⟩ | ⟨qt_81, vt_81, g1t_81, g2t_81, ht_81⟩
          ·
            rw [qt_81]
            have kp_82 : KP (F_75 0) (F_48 0) := by rw [et_81]; exact KP.rf _
            refine lv_if_ne (tgt := 225) hx hb dX12_aRock_220 (by decide) (fun c => absurd (by decide) c) (fun _ => ?_)
            refine lv_iconst (v := iZ 0) hx hb dX12_aRock_223 (by decide) ?_
            exact EWz hx hb hr hlocks hS (fun i => [0, (I_73 1), (I_73 2), (I_73 3), (I_73 4), (I_73 5), (I_73 6)].getD i 0, fun i => [0].getD i 0, fun i => [(F_75 0)].getD i (fun _ => 0), fun i => [Nfj].getD i (fun _ => 0)) rfl rfl ⟨(show (0 ≤ ((I_73 2) : Int) ∧ ((I_73 2) : Int) ≤ (I_73 3)) ∧ (((I_73 3) : Int) ≤ Msz ∧ (Msz : Int) ≤ 900) ∧ (0 ≤ ((I_73 1) : Int) ∧ ((I_73 1) : Int) ≤ 4) ∧ (((I_73 1) : Int) = 0 ∨ ((I_73 2) : Int) < (I_73 3)) ∧ (-1 ≤ ((I_73 4) : Int) ∧ ((I_73 4) : Int) ≤ 100000) from (by first | with_reducible assumption | exact ⟨⟨by omega, by omega⟩, ⟨by omega, by omega⟩, ⟨by omega, by omega⟩, by omega, by omega, by omega⟩)), (show (0 ≤ ((I_73 5) : Int) ∧ ((I_73 5) : Int) ≤ 9) ∧ ((0 : Int) = 0 → 1 ≤ ((I_73 5) : Int)) ∧ Mfr ≤ (I_73 2) from ⟨⟨by omega, by omega⟩, fun _ => by omega, by omega⟩), (show ((0 : Int) = 0 ∧ KP (F_75 0) Af) ∨ ((0 : Int) = 1 ∧ KP (F_75 0) Af ∧ NSZ (F_75 0) ∧ Mfr < (I_73 2)) from (Or.inl ⟨rfl, (KP.tr kp_82 (KP.tr kp_57 jkp))⟩))⟩ (hP.sub [1, 2, 3, 0] rfl) (hD.sub [1, 2, 3, 0] rfl rfl) dX12_aRock_224
          ·
            rw [qt_81]
            have kp_84 := KP.up ht_81 ⟨by omega, by omega⟩ ⟨by omega, by omega⟩
            have nk_85 : NSK _ _ 1 := NSK.up (w := 5) nk_58 ht_81 (by omega) (by omega)
            refine lv_if_ne (tgt := 225) hx hb dX12_aRock_220 (by decide) (fun _ => ?_) (fun c => absurd c (by decide))
            exact HJ225 (I_73 1) (I_73 2) (I_73 3) (I_73 4) (I_73 5) (I_73 6) (F_75 0) Nfj _ _ _ (show (0 ≤ ((I_73 2) : Int) ∧ ((I_73 2) : Int) ≤ (I_73 3)) ∧ (((I_73 3) : Int) ≤ Msz ∧ (Msz : Int) ≤ 900) ∧ (0 ≤ ((I_73 1) : Int) ∧ ((I_73 1) : Int) ≤ 4) ∧ (((I_73 1) : Int) = 0 ∨ ((I_73 2) : Int) < (I_73 3)) ∧ (-1 ≤ ((I_73 4) : Int) ∧ ((I_73 4) : Int) ≤ 100000) from (by first | with_reducible assumption | exact ⟨⟨by omega, by omega⟩, ⟨by omega, by omega⟩, ⟨by omega, by omega⟩, by omega, by omega, by omega⟩)) (show 0 ≤ ((I_73 5) : Int) ∧ ((I_73 5) : Int) ≤ 9 from ⟨by omega, by omega⟩) (show KP (F_75 0) Af from (KP.tr kp_84 (KP.tr kp_57 jkp))) (show Mfr < (I_73 2) from (by omega)) (show NSK (F_75 0) (gz Af 3560) 1 from nk_85) (hP.sub [1, 2, 3, 0] rfl) (hD.sub [1, 2, 3, 0] rfl rfl) hS (lv_sub hl [0, 1, 2] rfl)
  have HJ153 : ∀ (Mtkj : Int) (Mfrj : Int) (Menj : Int) (Mvaj : Int) (Mfsj : Int) (Mfpj : Int) (Afj : Nat → Int32) (Nfj : Nat → Int64) (H : Heap) (locs : List Loc) (ls : Array Slot), ((0 ≤ (Mfrj : Int) ∧ (Mfrj : Int) ≤ Menj) ∧ ((Menj : Int) ≤ Msz ∧ (Msz : Int) ≤ 900) ∧ (0 ≤ (Mtkj : Int) ∧ (Mtkj : Int) ≤ 4) ∧ ((Mtkj : Int) = 0 ∨ (Mfrj : Int) < Menj) ∧ (-1 ≤ (Mvaj : Int) ∧ (Mvaj : Int) ≤ 100000)) → (0 ≤ (Mfsj : Int) ∧ (Mfsj : Int) ≤ 9) → (KP Afj Af) → (Mfr < Mfrj) → (NSK Afj (gz Af 3560) 1) → va_P D vwCl [(hm, .inr (12, [.ref Ma, .ref Mn, .int (iZ Mst), .long Mtp, .long Mbt, .ref Ms, .ref My, .ref Mt, .ref Mp, .ref Mx, .int (iZ Mtd), .int (iZ Msz), .int (iZ Mtkj), .int (iZ Mfrj), .int (iZ Menj), .int (iZ Mvaj), .int (iZ Mfk), .int (iZ Mfpj), .int (iZ Mfsj), .int (iZ Mse), .int (iZ Mlt), .ref Mo, .int (iZ Mdp), .int (iZ Mct), .ref Mk, .ref Ml, .ref Mb, .ref Mh, .ref Mc, .int (iZ Mdr), .int (iZ Mrs), .ref Mz, .ref Mr, .ref Mq, .int (iZ Mit), .int (iZ Mmk)])), (Mx, .inl (k 0, 900, .inl Xf)), (Ma, .inl (k 1, 5340, .inl Afj)), (Mn, .inl (k 2, 36, .inr (.inl Nfj)))] H → va_D A [(hm, .inr (12, [.ref Ma, .ref Mn, .int (iZ Mst), .long Mtp, .long Mbt, .ref Ms, .ref My, .ref Mt, .ref Mp, .ref Mx, .int (iZ Mtd), .int (iZ Msz), .int (iZ Mtkj), .int (iZ Mfrj), .int (iZ Menj), .int (iZ Mvaj), .int (iZ Mfk), .int (iZ Mfpj), .int (iZ Mfsj), .int (iZ Mse), .int (iZ Mlt), .ref Mo, .int (iZ Mdp), .int (iZ Mct), .ref Mk, .ref Ml, .ref Mb, .ref Mh, .ref Mc, .int (iZ Mdr), .int (iZ Mrs), .ref Mz, .ref Mr, .ref Mq, .int (iZ Mit), .int (iZ Mmk)])), (Mx, .inl (k 0, 900, .inl Xf)), (Ma, .inl (k 1, 5340, .inl Afj)), (Mn, .inl (k 2, 36, .inr (.inl Nfj)))] → va_S A s.heap H locs → lv_has ls 3 [(2, .int (iZ (3570 + (6 * (gz Af 3560))))), (1, .int (iZ (gz Af 3560))), (0, .ref hm)] → W p l e (rj 6 0 0) s m [.ref hm].toArray below meth c H locs 0 0 (MQ below (QW (σ := ((Nat → Int) × (Nat → Int64) × (Nat → Nat → Int32) × (Nat → Nat → Int64))) (fun u => some (.int (iZ (u.1 0)))) (fun u => ((0 ≤ ((u.1 2) : Int) ∧ ((u.1 2) : Int) ≤ (u.1 3)) ∧ (((u.1 3) : Int) ≤ Msz ∧ (Msz : Int) ≤ 900) ∧ (0 ≤ ((u.1 1) : Int) ∧ ((u.1 1) : Int) ≤ 4) ∧ (((u.1 1) : Int) = 0 ∨ ((u.1 2) : Int) < (u.1 3)) ∧ (-1 ≤ ((u.1 4) : Int) ∧ ((u.1 4) : Int) ≤ 100000)) ∧ ((0 ≤ ((u.1 5) : Int) ∧ ((u.1 5) : Int) ≤ 9) ∧ (((u.1 0) : Int) = 0 → 1 ≤ ((u.1 5) : Int)) ∧ Mfr ≤ (u.1 2)) ∧ ((((u.1 0) : Int) = 0 ∧ KP (u.2.2.1 0) Af) ∨ (((u.1 0) : Int) = 1 ∧ KP (u.2.2.1 0) Af ∧ NSZ (u.2.2.1 0) ∧ Mfr < (u.1 2)))) (fun u => [(hm, .inr (12, [.ref Ma, .ref Mn, .int (iZ Mst), .long Mtp, .long Mbt, .ref Ms, .ref My, .ref Mt, .ref Mp, .ref Mx, .int (iZ Mtd), .int (iZ Msz), .int (iZ (u.1 1)), .int (iZ (u.1 2)), .int (iZ (u.1 3)), .int (iZ (u.1 4)), .int (iZ Mfk), .int (iZ (u.1 6)), .int (iZ (u.1 5)), .int (iZ Mse), .int (iZ Mlt), .ref Mo, .int (iZ Mdp), .int (iZ Mct), .ref Mk, .ref Ml, .ref Mb, .ref Mh, .ref Mc, .int (iZ Mdr), .int (iZ Mrs), .ref Mz, .ref Mr, .ref Mq, .int (iZ Mit), .int (iZ Mmk)])), (Mx, .inl (k 0, 900, .inl Xf)), (Ma, .inl (k 1, 5340, .inl (u.2.2.1 0))), (Mn, .inl (k 2, 36, .inr (.inl (u.2.2.2 0))))]) D A) [.ref hm].toArray s 0 0 A) (F0 m 153 ls []) := by
    intro Mtkj Mfrj Menj Mvaj Mfsj Mfpj Afj Nfj H locs ls jTI jFS jkp jmf jnk hP hD hS hl
    refine lv_aload_n hx hb dX12_aRock_153 rfl (lv_at hl 2 rfl) ?_
    refine lv_bipush (v := iZ 6) hx hb dX12_aRock_154 (by decide) ?_
    refine CSV (As := [.int (iZ 6)]) (rest := []) (wc := [(hm, .inr (12, [.ref Ma, .ref Mn, .int (iZ Mst), .long Mtp, .long Mbt, .ref Ms, .ref My, .ref Mt, .ref Mp, .ref Mx, .int (iZ Mtd), .int (iZ Msz), .int (iZ Mtkj), .int (iZ Mfrj), .int (iZ Menj), .int (iZ Mvaj), .int (iZ Mfk), .int (iZ Mfpj), .int (iZ Mfsj), .int (iZ Mse), .int (iZ Mlt), .ref Mo, .int (iZ Mdp), .int (iZ Mct), .ref Mk, .ref Ml, .ref Mb, .ref Mh, .ref Mc, .int (iZ Mdr), .int (iZ Mrs), .ref Mz, .ref Mr, .ref Mq, .int (iZ Mit), .int (iZ Mmk)])), (Mx, .inl (k 0, 900, .inl Xf))]) (wr := [(Ma, .inl (k 1, 5340, .inl Afj)), (Mn, .inl (k 2, 36, .inr (.inl Nfj)))]) hx hb hml hown hts hKK hP hD hS hA hSY hRR (m_isThere l D k sa sv hm Ma Mn Ms My Mt Mp Mx Mo Mk Ml Mb Mh Mc Mz Mr Mq Mst Mtd Msz Mtkj Mfrj Menj Mvaj Mfk Mfpj Mfsj Mse Mlt Mdp Mct Mdr Mrs Mit Mmk Mtp Mbt Xf 6 (by first | with_reducible assumption | exact ⟨⟨by omega, by omega⟩, ⟨by omega, by omega⟩, ⟨by omega, by omega⟩, by omega, by omega, by omega⟩) ⟨by omega, by omega⟩) ci_X12_isThere qm_X12_192 ⟨Nat.le_of_ble_eq_true rfl, Nat.le_of_ble_eq_true rfl⟩ ⟨Nat.le_of_ble_eq_true rfl, Nat.le_of_ble_eq_true rfl⟩ [0, 1] [2, 3] rfl rfl rfl rfl rfl (by decide) 0 rfl rfl rfl hl.1 rfl (Nat.le_of_ble_eq_true rfl) dX12_aRock_156 (fun u_87 H locs hφ hP hD hS => ?_)
    obtain ⟨I_88, L_89, F_90, G_91⟩ := u_87
    obtain ⟨p_93, p_94⟩ : ((0 ≤ ((I_88 2) : Int) ∧ ((I_88 2) : Int) ≤ (I_88 3)) ∧ (((I_88 3) : Int) ≤ Msz ∧ (Msz : Int) ≤ 900) ∧ (0 ≤ ((I_88 1) : Int) ∧ ((I_88 1) : Int) ≤ 4) ∧ (((I_88 1) : Int) = 0 ∨ ((I_88 2) : Int) < (I_88 3)) ∧ (-1 ≤ ((I_88 4) : Int) ∧ ((I_88 4) : Int) ≤ 100000)) ∧ ((((I_88 0) : Int) = 0 ∨ ((I_88 0) : Int) = 1) ∧ Mfrj ≤ (I_88 2)) := hφ
    refine W.eq (g2 := F0 m 159 ls [.int (iZ (I_88 0))]) rfl ?_
    rcases (show ((I_88 0) = 0) ∨ ((I_88 0) = 1) from (by omega)) with s_95 | s_95
    ·
      rw [s_95]
      refine lv_if_eq (tgt := 177) hx hb dX12_aRock_159 (by decide) (fun _ => ?_) (fun c => absurd (by decide) c)
      exact HJ177 (I_88 1) (I_88 2) (I_88 3) (I_88 4) Mfsj Mfpj Afj Nfj _ _ _ (show (0 ≤ ((I_88 2) : Int) ∧ ((I_88 2) : Int) ≤ (I_88 3)) ∧ (((I_88 3) : Int) ≤ Msz ∧ (Msz : Int) ≤ 900) ∧ (0 ≤ ((I_88 1) : Int) ∧ ((I_88 1) : Int) ≤ 4) ∧ (((I_88 1) : Int) = 0 ∨ ((I_88 2) : Int) < (I_88 3)) ∧ (-1 ≤ ((I_88 4) : Int) ∧ ((I_88 4) : Int) ≤ 100000) from (by first | with_reducible assumption | exact ⟨⟨by omega, by omega⟩, ⟨by omega, by omega⟩, ⟨by omega, by omega⟩, by omega, by omega, by omega⟩)) (show 0 ≤ (Mfsj : Int) ∧ (Mfsj : Int) ≤ 9 from ⟨by omega, by omega⟩) (show KP Afj Af from jkp) (show Mfr < (I_88 2) from (by omega)) (show NSK Afj (gz Af 3560) 1 from jnk) (hP.sub [2, 3, 0, 1] rfl) (hD.sub [2, 3, 0, 1] rfl rfl) hS (lv_sub hl [0, 1, 2] rfl)
    ·
      rw [s_95]
      refine lv_if_eq (tgt := 177) hx hb dX12_aRock_159 (by decide) (fun c => absurd c (by decide)) (fun _ => ?_)
      refine lv_aload_n hx hb dX12_aRock_162 rfl (lv_at hl 2 rfl) ?_
      refine lv_iload_n hx hb dX12_aRock_163 rfl (lv_at hl 0 rfl) ?_
      refine lv_iconst (v := iZ 3) hx hb dX12_aRock_164 (by decide) ?_
      refine lv_iadd hx hb dX12_aRock_165 ?_
      refine lv_topi (fun x_98 ex_98 => ?_)
      obtain rfl : x_98 = iZ ((3570 + (6 * (gz Af 3560))) + 3) := ex_98.trans (iZ_add (3570 + (6 * (gz Af 3560))) 3)
      refine lv_iconst (v := iZ 0) hx hb dX12_aRock_166 (by decide) ?_
      refine lv_bipush (v := iZ 9) hx hb dX12_aRock_167 (by decide) ?_
      refine CWV (As := [.int (iZ ((3570 + (6 * (gz Af 3560))) + 3)), .int (iZ 0), .int (iZ 9)]) (rest := []) (wc := [(hm, .inr (12, [.ref Ma, .ref Mn, .int (iZ Mst), .long Mtp, .long Mbt, .ref Ms, .ref My, .ref Mt, .ref Mp, .ref Mx, .int (iZ Mtd), .int (iZ Msz), .int (iZ (I_88 1)), .int (iZ (I_88 2)), .int (iZ (I_88 3)), .int (iZ (I_88 4)), .int (iZ Mfk), .int (iZ Mfpj), .int (iZ Mfsj), .int (iZ Mse), .int (iZ Mlt), .ref Mo, .int (iZ Mdp), .int (iZ Mct), .ref Mk, .ref Ml, .ref Mb, .ref Mh, .ref Mc, .int (iZ Mdr), .int (iZ Mrs), .ref Mz, .ref Mr, .ref Mq, .int (iZ Mit), .int (iZ Mmk)])), (Mx, .inl (k 0, 900, .inl Xf)), (Ma, .inl (k 1, 5340, .inl Afj))]) (wr := [(Mn, .inl (k 2, 36, .inr (.inl Nfj)))]) hx hb hml hown hts hKK hP hD hS hA (m_number l D k hm Ma Mn Ms My Mt Mp Mx Mo Mk Ml Mb Mh Mc Mz Mr Mq Mst Mtd Msz (I_88 1) (I_88 2) (I_88 3) (I_88 4) Mfk Mfpj Mfsj Mse Mlt Mdp Mct Mdr Mrs Mit Mmk Mtp Mbt Xf Afj ((3570 + (6 * (gz Af 3560))) + 3) 0 9 (by first | with_reducible assumption | exact ⟨⟨by omega, by omega⟩, ⟨by omega, by omega⟩, ⟨by omega, by omega⟩, by omega, by omega, by omega⟩) ⟨by omega, by omega⟩ ⟨by omega, by omega⟩ ⟨by omega, by omega⟩ ⟨by omega, by omega⟩) ci_X12_number qm_X12_188 ⟨Nat.le_of_ble_eq_true rfl, Nat.le_of_ble_eq_true rfl⟩ ⟨Nat.le_of_ble_eq_true rfl, Nat.le_of_ble_eq_true rfl⟩ [2, 3, 0] [1] rfl rfl rfl rfl rfl (by decide) 0 rfl rfl rfl hl.1 rfl (Nat.le_of_ble_eq_true rfl) dX12_aRock_169 (fun u_99 H locs hφ hP hD hS => ?_)
      obtain ⟨I_100, L_101, F_102, G_103⟩ := u_99
      obtain ⟨p_105, p_106, p_107⟩ : ((0 ≤ ((I_100 2) : Int) ∧ ((I_100 2) : Int) ≤ (I_100 3)) ∧ (((I_100 3) : Int) ≤ Msz ∧ (Msz : Int) ≤ 900) ∧ (0 ≤ ((I_100 1) : Int) ∧ ((I_100 1) : Int) ≤ 4) ∧ (((I_100 1) : Int) = 0 ∨ ((I_100 2) : Int) < (I_100 3)) ∧ (-1 ≤ ((I_100 4) : Int) ∧ ((I_100 4) : Int) ≤ 100000)) ∧ ((0 ≤ ((I_100 5) : Int) ∧ ((I_100 5) : Int) ≤ 9) ∧ (((I_100 0) : Int) = 0 → 1 ≤ ((I_100 5) : Int)) ∧ (((I_100 0) : Int) = 0 ∨ ((I_100 0) : Int) = 1) ∧ (I_88 2) ≤ (I_100 2)) ∧ ((((I_100 0) : Int) = 0 ∧ (F_102 0) = Afj) ∨ (((I_100 0) : Int) = 1 ∧ ∃ v6 : Int, 0 ≤ v6 ∧ v6 ≤ 9 ∧ (F_102 0) = upd Afj (iZ ((3570 + (6 * (gz Af 3560))) + 3)).toNatClampNeg (iZ v6))) := hφ
      refine W.eq (g2 := F0 m 172 ls [.int (iZ (I_100 0))]) rfl ?_
      rcases p_107 with ⟨qt_108, et_108⟩ | ⟨qt_108, vt_108, g1t_108, g2t_108, ht_108⟩
      ·
        rw [qt_108]
        have kp_109 : KP (F_102 0) Afj := by rw [et_108]; exact KP.rf _
        refine lv_if_ne (tgt := 177) hx hb dX12_aRock_172 (by decide) (fun c => absurd (by decide) c) (fun _ => ?_)
        refine lv_iconst (v := iZ 0) hx hb dX12_aRock_175 (by decide) ?_
        exact EWz hx hb hr hlocks hS (fun i => [0, (I_100 1), (I_100 2), (I_100 3), (I_100 4), (I_100 5), (I_100 6)].getD i 0, fun i => [0].getD i 0, fun i => [(F_102 0)].getD i (fun _ => 0), fun i => [Nfj].getD i (fun _ => 0)) rfl rfl ⟨(show (0 ≤ ((I_100 2) : Int) ∧ ((I_100 2) : Int) ≤ (I_100 3)) ∧ (((I_100 3) : Int) ≤ Msz ∧ (Msz : Int) ≤ 900) ∧ (0 ≤ ((I_100 1) : Int) ∧ ((I_100 1) : Int) ≤ 4) ∧ (((I_100 1) : Int) = 0 ∨ ((I_100 2) : Int) < (I_100 3)) ∧ (-1 ≤ ((I_100 4) : Int) ∧ ((I_100 4) : Int) ≤ 100000) from (by first | with_reducible assumption | exact ⟨⟨by omega, by omega⟩, ⟨by omega, by omega⟩, ⟨by omega, by omega⟩, by omega, by omega, by omega⟩)), (show (0 ≤ ((I_100 5) : Int) ∧ ((I_100 5) : Int) ≤ 9) ∧ ((0 : Int) = 0 → 1 ≤ ((I_100 5) : Int)) ∧ Mfr ≤ (I_100 2) from ⟨⟨by omega, by omega⟩, fun _ => by omega, by omega⟩), (show ((0 : Int) = 0 ∧ KP (F_102 0) Af) ∨ ((0 : Int) = 1 ∧ KP (F_102 0) Af ∧ NSZ (F_102 0) ∧ Mfr < (I_100 2)) from (Or.inl ⟨rfl, (KP.tr kp_109 jkp)⟩))⟩ (hP.sub [1, 2, 3, 0] rfl) (hD.sub [1, 2, 3, 0] rfl rfl) dX12_aRock_176
      ·
        rw [qt_108]
        have kp_111 := KP.up ht_108 ⟨by omega, by omega⟩ ⟨by omega, by omega⟩
        have nk_112 : NSK _ _ 1 := NSK.up (w := 3) jnk ht_108 (by omega) (by omega)
        refine lv_if_ne (tgt := 177) hx hb dX12_aRock_172 (by decide) (fun _ => ?_) (fun c => absurd c (by decide))
        exact HJ177 (I_100 1) (I_100 2) (I_100 3) (I_100 4) (I_100 5) (I_100 6) (F_102 0) Nfj _ _ _ (show (0 ≤ ((I_100 2) : Int) ∧ ((I_100 2) : Int) ≤ (I_100 3)) ∧ (((I_100 3) : Int) ≤ Msz ∧ (Msz : Int) ≤ 900) ∧ (0 ≤ ((I_100 1) : Int) ∧ ((I_100 1) : Int) ≤ 4) ∧ (((I_100 1) : Int) = 0 ∨ ((I_100 2) : Int) < (I_100 3)) ∧ (-1 ≤ ((I_100 4) : Int) ∧ ((I_100 4) : Int) ≤ 100000) from (by first | with_reducible assumption | exact ⟨⟨by omega, by omega⟩, ⟨by omega, by omega⟩, ⟨by omega, by omega⟩, by omega, by omega, by omega⟩)) (show 0 ≤ ((I_100 5) : Int) ∧ ((I_100 5) : Int) ≤ 9 from ⟨by omega, by omega⟩) (show KP (F_102 0) Af from (KP.tr kp_111 jkp)) (show Mfr < (I_100 2) from (by omega)) (show NSK (F_102 0) (gz Af 3560) 1 from nk_112) (hP.sub [1, 2, 3, 0] rfl) (hD.sub [1, 2, 3, 0] rfl rfl) hS (lv_sub hl [0, 1, 2] rfl)
  have HJ128 : ∀ (Mtkj : Int) (Mfrj : Int) (Menj : Int) (Mvaj : Int) (Mfsj : Int) (Mfpj : Int) (Afj : Nat → Int32) (Nfj : Nat → Int64) (H : Heap) (locs : List Loc) (ls : Array Slot), ((0 ≤ (Mfrj : Int) ∧ (Mfrj : Int) ≤ Menj) ∧ ((Menj : Int) ≤ Msz ∧ (Msz : Int) ≤ 900) ∧ (0 ≤ (Mtkj : Int) ∧ (Mtkj : Int) ≤ 4) ∧ ((Mtkj : Int) = 0 ∨ (Mfrj : Int) < Menj) ∧ (-1 ≤ (Mvaj : Int) ∧ (Mvaj : Int) ≤ 100000)) → (0 ≤ (Mfsj : Int) ∧ (Mfsj : Int) ≤ 9) → (KP Afj Af) → (Mfr < Mfrj) → (NSK Afj (gz Af 3560) 1) → va_P D vwCl [(hm, .inr (12, [.ref Ma, .ref Mn, .int (iZ Mst), .long Mtp, .long Mbt, .ref Ms, .ref My, .ref Mt, .ref Mp, .ref Mx, .int (iZ Mtd), .int (iZ Msz), .int (iZ Mtkj), .int (iZ Mfrj), .int (iZ Menj), .int (iZ Mvaj), .int (iZ Mfk), .int (iZ Mfpj), .int (iZ Mfsj), .int (iZ Mse), .int (iZ Mlt), .ref Mo, .int (iZ Mdp), .int (iZ Mct), .ref Mk, .ref Ml, .ref Mb, .ref Mh, .ref Mc, .int (iZ Mdr), .int (iZ Mrs), .ref Mz, .ref Mr, .ref Mq, .int (iZ Mit), .int (iZ Mmk)])), (Mx, .inl (k 0, 900, .inl Xf)), (Ma, .inl (k 1, 5340, .inl Afj)), (Mn, .inl (k 2, 36, .inr (.inl Nfj)))] H → va_D A [(hm, .inr (12, [.ref Ma, .ref Mn, .int (iZ Mst), .long Mtp, .long Mbt, .ref Ms, .ref My, .ref Mt, .ref Mp, .ref Mx, .int (iZ Mtd), .int (iZ Msz), .int (iZ Mtkj), .int (iZ Mfrj), .int (iZ Menj), .int (iZ Mvaj), .int (iZ Mfk), .int (iZ Mfpj), .int (iZ Mfsj), .int (iZ Mse), .int (iZ Mlt), .ref Mo, .int (iZ Mdp), .int (iZ Mct), .ref Mk, .ref Ml, .ref Mb, .ref Mh, .ref Mc, .int (iZ Mdr), .int (iZ Mrs), .ref Mz, .ref Mr, .ref Mq, .int (iZ Mit), .int (iZ Mmk)])), (Mx, .inl (k 0, 900, .inl Xf)), (Ma, .inl (k 1, 5340, .inl Afj)), (Mn, .inl (k 2, 36, .inr (.inl Nfj)))] → va_S A s.heap H locs → lv_has ls 3 [(2, .int (iZ (3570 + (6 * (gz Af 3560))))), (1, .int (iZ (gz Af 3560))), (0, .ref hm)] → W p l e (rj 6 0 0) s m [.ref hm].toArray below meth c H locs 0 0 (MQ below (QW (σ := ((Nat → Int) × (Nat → Int64) × (Nat → Nat → Int32) × (Nat → Nat → Int64))) (fun u => some (.int (iZ (u.1 0)))) (fun u => ((0 ≤ ((u.1 2) : Int) ∧ ((u.1 2) : Int) ≤ (u.1 3)) ∧ (((u.1 3) : Int) ≤ Msz ∧ (Msz : Int) ≤ 900) ∧ (0 ≤ ((u.1 1) : Int) ∧ ((u.1 1) : Int) ≤ 4) ∧ (((u.1 1) : Int) = 0 ∨ ((u.1 2) : Int) < (u.1 3)) ∧ (-1 ≤ ((u.1 4) : Int) ∧ ((u.1 4) : Int) ≤ 100000)) ∧ ((0 ≤ ((u.1 5) : Int) ∧ ((u.1 5) : Int) ≤ 9) ∧ (((u.1 0) : Int) = 0 → 1 ≤ ((u.1 5) : Int)) ∧ Mfr ≤ (u.1 2)) ∧ ((((u.1 0) : Int) = 0 ∧ KP (u.2.2.1 0) Af) ∨ (((u.1 0) : Int) = 1 ∧ KP (u.2.2.1 0) Af ∧ NSZ (u.2.2.1 0) ∧ Mfr < (u.1 2)))) (fun u => [(hm, .inr (12, [.ref Ma, .ref Mn, .int (iZ Mst), .long Mtp, .long Mbt, .ref Ms, .ref My, .ref Mt, .ref Mp, .ref Mx, .int (iZ Mtd), .int (iZ Msz), .int (iZ (u.1 1)), .int (iZ (u.1 2)), .int (iZ (u.1 3)), .int (iZ (u.1 4)), .int (iZ Mfk), .int (iZ (u.1 6)), .int (iZ (u.1 5)), .int (iZ Mse), .int (iZ Mlt), .ref Mo, .int (iZ Mdp), .int (iZ Mct), .ref Mk, .ref Ml, .ref Mb, .ref Mh, .ref Mc, .int (iZ Mdr), .int (iZ Mrs), .ref Mz, .ref Mr, .ref Mq, .int (iZ Mit), .int (iZ Mmk)])), (Mx, .inl (k 0, 900, .inl Xf)), (Ma, .inl (k 1, 5340, .inl (u.2.2.1 0))), (Mn, .inl (k 2, 36, .inr (.inl (u.2.2.2 0))))]) D A) [.ref hm].toArray s 0 0 A) (F0 m 128 ls []) := by
    intro Mtkj Mfrj Menj Mvaj Mfsj Mfpj Afj Nfj H locs ls jTI jFS jkp jmf jnk hP hD hS hl
    refine lv_aload_n hx hb dX12_aRock_128 rfl (lv_at hl 2 rfl) ?_
    refine va_ldcS hx hb hown hRR dX12_aRock_129 ?_
    refine lv_iconst (v := iZ 5) hx hb dX12_aRock_131 (by decide) ?_
    refine CSV (As := [.ref sa, .int (iZ 5)]) (rest := []) (wc := [(hm, .inr (12, [.ref Ma, .ref Mn, .int (iZ Mst), .long Mtp, .long Mbt, .ref Ms, .ref My, .ref Mt, .ref Mp, .ref Mx, .int (iZ Mtd), .int (iZ Msz), .int (iZ Mtkj), .int (iZ Mfrj), .int (iZ Menj), .int (iZ Mvaj), .int (iZ Mfk), .int (iZ Mfpj), .int (iZ Mfsj), .int (iZ Mse), .int (iZ Mlt), .ref Mo, .int (iZ Mdp), .int (iZ Mct), .ref Mk, .ref Ml, .ref Mb, .ref Mh, .ref Mc, .int (iZ Mdr), .int (iZ Mrs), .ref Mz, .ref Mr, .ref Mq, .int (iZ Mit), .int (iZ Mmk)])), (Mx, .inl (k 0, 900, .inl Xf))]) (wr := [(Ma, .inl (k 1, 5340, .inl Afj)), (Mn, .inl (k 2, 36, .inr (.inl Nfj)))]) hx hb hml hown hts hKK hP hD hS hA hSY hRR (m_wantWord l D k sa sv hm Ma Mn Ms My Mt Mp Mx Mo Mk Ml Mb Mh Mc Mz Mr Mq Mst Mtd Msz Mtkj Mfrj Menj Mvaj Mfk Mfpj Mfsj Mse Mlt Mdp Mct Mdr Mrs Mit Mmk Mtp Mbt Xf 5 (by first | with_reducible assumption | exact ⟨⟨by omega, by omega⟩, ⟨by omega, by omega⟩, ⟨by omega, by omega⟩, by omega, by omega, by omega⟩) ⟨by omega, by omega⟩ ⟨by omega, by omega⟩) ci_X12_wantWord qm_X12_184 ⟨Nat.le_of_ble_eq_true rfl, Nat.le_of_ble_eq_true rfl⟩ ⟨Nat.le_of_ble_eq_true rfl, Nat.le_of_ble_eq_true rfl⟩ [0, 1] [2, 3] rfl rfl rfl rfl rfl (by decide) 0 rfl rfl rfl hl.1 rfl (Nat.le_of_ble_eq_true rfl) dX12_aRock_132 (fun u_114 H locs hφ hP hD hS => ?_)
    obtain ⟨I_115, L_116, F_117, G_118⟩ := u_114
    obtain ⟨p_120, p_121⟩ : ((0 ≤ ((I_115 2) : Int) ∧ ((I_115 2) : Int) ≤ (I_115 3)) ∧ (((I_115 3) : Int) ≤ Msz ∧ (Msz : Int) ≤ 900) ∧ (0 ≤ ((I_115 1) : Int) ∧ ((I_115 1) : Int) ≤ 4) ∧ (((I_115 1) : Int) = 0 ∨ ((I_115 2) : Int) < (I_115 3)) ∧ (-1 ≤ ((I_115 4) : Int) ∧ ((I_115 4) : Int) ≤ 100000)) ∧ ((0 ≤ ((I_115 5) : Int) ∧ ((I_115 5) : Int) ≤ 9) ∧ (((I_115 0) : Int) = 0 → 1 ≤ ((I_115 5) : Int)) ∧ (((I_115 0) : Int) = 0 ∨ ((I_115 0) : Int) = 1) ∧ Mfrj ≤ (I_115 2)) := hφ
    refine W.eq (g2 := F0 m 135 ls [.int (iZ (I_115 0))]) rfl ?_
    rcases (show ((I_115 0) = 0) ∨ ((I_115 0) = 1) from (by omega)) with s_122 | s_122
    ·
      rw [s_122]
      refine lv_if_eq (tgt := 151) hx hb dX12_aRock_135 (by decide) (fun _ => ?_) (fun c => absurd (by decide) c)
      refine lv_iconst (v := iZ 0) hx hb dX12_aRock_151 (by decide) ?_
      exact EWz hx hb hr hlocks hS (fun i => [0, (I_115 1), (I_115 2), (I_115 3), (I_115 4), (I_115 5), (I_115 6)].getD i 0, fun i => [0].getD i 0, fun i => [Afj].getD i (fun _ => 0), fun i => [Nfj].getD i (fun _ => 0)) rfl rfl ⟨(show (0 ≤ ((I_115 2) : Int) ∧ ((I_115 2) : Int) ≤ (I_115 3)) ∧ (((I_115 3) : Int) ≤ Msz ∧ (Msz : Int) ≤ 900) ∧ (0 ≤ ((I_115 1) : Int) ∧ ((I_115 1) : Int) ≤ 4) ∧ (((I_115 1) : Int) = 0 ∨ ((I_115 2) : Int) < (I_115 3)) ∧ (-1 ≤ ((I_115 4) : Int) ∧ ((I_115 4) : Int) ≤ 100000) from (by first | with_reducible assumption | exact ⟨⟨by omega, by omega⟩, ⟨by omega, by omega⟩, ⟨by omega, by omega⟩, by omega, by omega, by omega⟩)), (show (0 ≤ ((I_115 5) : Int) ∧ ((I_115 5) : Int) ≤ 9) ∧ ((0 : Int) = 0 → 1 ≤ ((I_115 5) : Int)) ∧ Mfr ≤ (I_115 2) from ⟨⟨by omega, by omega⟩, fun _ => by omega, by omega⟩), (show ((0 : Int) = 0 ∧ KP Afj Af) ∨ ((0 : Int) = 1 ∧ KP Afj Af ∧ NSZ Afj ∧ Mfr < (I_115 2)) from (Or.inl ⟨rfl, jkp⟩))⟩ (hP.sub [2, 3, 0, 1] rfl) (hD.sub [2, 3, 0, 1] rfl rfl) dX12_aRock_152
    ·
      rw [s_122]
      refine lv_if_eq (tgt := 151) hx hb dX12_aRock_135 (by decide) (fun c => absurd c (by decide)) (fun _ => ?_)
      refine lv_aload_n hx hb dX12_aRock_138 rfl (lv_at hl 2 rfl) ?_
      refine lv_iload_n hx hb dX12_aRock_139 rfl (lv_at hl 0 rfl) ?_
      refine lv_iconst (v := iZ 2) hx hb dX12_aRock_140 (by decide) ?_
      refine lv_iadd hx hb dX12_aRock_141 ?_
      refine lv_topi (fun x_125 ex_125 => ?_)
      obtain rfl : x_125 = iZ ((3570 + (6 * (gz Af 3560))) + 2) := ex_125.trans (iZ_add (3570 + (6 * (gz Af 3560))) 2)
      refine lv_iconst (v := iZ 0) hx hb dX12_aRock_142 (by decide) ?_
      refine lv_bipush (v := iZ 11) hx hb dX12_aRock_143 (by decide) ?_
      refine CWV (As := [.int (iZ ((3570 + (6 * (gz Af 3560))) + 2)), .int (iZ 0), .int (iZ 11)]) (rest := []) (wc := [(hm, .inr (12, [.ref Ma, .ref Mn, .int (iZ Mst), .long Mtp, .long Mbt, .ref Ms, .ref My, .ref Mt, .ref Mp, .ref Mx, .int (iZ Mtd), .int (iZ Msz), .int (iZ (I_115 1)), .int (iZ (I_115 2)), .int (iZ (I_115 3)), .int (iZ (I_115 4)), .int (iZ Mfk), .int (iZ (I_115 6)), .int (iZ (I_115 5)), .int (iZ Mse), .int (iZ Mlt), .ref Mo, .int (iZ Mdp), .int (iZ Mct), .ref Mk, .ref Ml, .ref Mb, .ref Mh, .ref Mc, .int (iZ Mdr), .int (iZ Mrs), .ref Mz, .ref Mr, .ref Mq, .int (iZ Mit), .int (iZ Mmk)])), (Mx, .inl (k 0, 900, .inl Xf)), (Ma, .inl (k 1, 5340, .inl Afj))]) (wr := [(Mn, .inl (k 2, 36, .inr (.inl Nfj)))]) hx hb hml hown hts hKK hP hD hS hA (m_number l D k hm Ma Mn Ms My Mt Mp Mx Mo Mk Ml Mb Mh Mc Mz Mr Mq Mst Mtd Msz (I_115 1) (I_115 2) (I_115 3) (I_115 4) Mfk (I_115 6) (I_115 5) Mse Mlt Mdp Mct Mdr Mrs Mit Mmk Mtp Mbt Xf Afj ((3570 + (6 * (gz Af 3560))) + 2) 0 11 (by first | with_reducible assumption | exact ⟨⟨by omega, by omega⟩, ⟨by omega, by omega⟩, ⟨by omega, by omega⟩, by omega, by omega, by omega⟩) ⟨by omega, by omega⟩ ⟨by omega, by omega⟩ ⟨by omega, by omega⟩ ⟨by omega, by omega⟩) ci_X12_number qm_X12_188 ⟨Nat.le_of_ble_eq_true rfl, Nat.le_of_ble_eq_true rfl⟩ ⟨Nat.le_of_ble_eq_true rfl, Nat.le_of_ble_eq_true rfl⟩ [2, 3, 0] [1] rfl rfl rfl rfl rfl (by decide) 0 rfl rfl rfl hl.1 rfl (Nat.le_of_ble_eq_true rfl) dX12_aRock_145 (fun u_126 H locs hφ hP hD hS => ?_)
      obtain ⟨I_127, L_128, F_129, G_130⟩ := u_126
      obtain ⟨p_132, p_133, p_134⟩ : ((0 ≤ ((I_127 2) : Int) ∧ ((I_127 2) : Int) ≤ (I_127 3)) ∧ (((I_127 3) : Int) ≤ Msz ∧ (Msz : Int) ≤ 900) ∧ (0 ≤ ((I_127 1) : Int) ∧ ((I_127 1) : Int) ≤ 4) ∧ (((I_127 1) : Int) = 0 ∨ ((I_127 2) : Int) < (I_127 3)) ∧ (-1 ≤ ((I_127 4) : Int) ∧ ((I_127 4) : Int) ≤ 100000)) ∧ ((0 ≤ ((I_127 5) : Int) ∧ ((I_127 5) : Int) ≤ 9) ∧ (((I_127 0) : Int) = 0 → 1 ≤ ((I_127 5) : Int)) ∧ (((I_127 0) : Int) = 0 ∨ ((I_127 0) : Int) = 1) ∧ (I_115 2) ≤ (I_127 2)) ∧ ((((I_127 0) : Int) = 0 ∧ (F_129 0) = Afj) ∨ (((I_127 0) : Int) = 1 ∧ ∃ v6 : Int, 0 ≤ v6 ∧ v6 ≤ 11 ∧ (F_129 0) = upd Afj (iZ ((3570 + (6 * (gz Af 3560))) + 2)).toNatClampNeg (iZ v6))) := hφ
      refine W.eq (g2 := F0 m 148 ls [.int (iZ (I_127 0))]) rfl ?_
      rcases p_134 with ⟨qt_135, et_135⟩ | ⟨qt_135, vt_135, g1t_135, g2t_135, ht_135⟩
      ·
        rw [qt_135]
        have kp_136 : KP (F_129 0) Afj := by rw [et_135]; exact KP.rf _
        refine lv_if_ne (tgt := 153) hx hb dX12_aRock_148 (by decide) (fun c => absurd (by decide) c) (fun _ => ?_)
        refine lv_iconst (v := iZ 0) hx hb dX12_aRock_151 (by decide) ?_
        exact EWz hx hb hr hlocks hS (fun i => [0, (I_127 1), (I_127 2), (I_127 3), (I_127 4), (I_127 5), (I_127 6)].getD i 0, fun i => [0].getD i 0, fun i => [(F_129 0)].getD i (fun _ => 0), fun i => [Nfj].getD i (fun _ => 0)) rfl rfl ⟨(show (0 ≤ ((I_127 2) : Int) ∧ ((I_127 2) : Int) ≤ (I_127 3)) ∧ (((I_127 3) : Int) ≤ Msz ∧ (Msz : Int) ≤ 900) ∧ (0 ≤ ((I_127 1) : Int) ∧ ((I_127 1) : Int) ≤ 4) ∧ (((I_127 1) : Int) = 0 ∨ ((I_127 2) : Int) < (I_127 3)) ∧ (-1 ≤ ((I_127 4) : Int) ∧ ((I_127 4) : Int) ≤ 100000) from (by first | with_reducible assumption | exact ⟨⟨by omega, by omega⟩, ⟨by omega, by omega⟩, ⟨by omega, by omega⟩, by omega, by omega, by omega⟩)), (show (0 ≤ ((I_127 5) : Int) ∧ ((I_127 5) : Int) ≤ 9) ∧ ((0 : Int) = 0 → 1 ≤ ((I_127 5) : Int)) ∧ Mfr ≤ (I_127 2) from ⟨⟨by omega, by omega⟩, fun _ => by omega, by omega⟩), (show ((0 : Int) = 0 ∧ KP (F_129 0) Af) ∨ ((0 : Int) = 1 ∧ KP (F_129 0) Af ∧ NSZ (F_129 0) ∧ Mfr < (I_127 2)) from (Or.inl ⟨rfl, (KP.tr kp_136 jkp)⟩))⟩ (hP.sub [1, 2, 3, 0] rfl) (hD.sub [1, 2, 3, 0] rfl rfl) dX12_aRock_152
      ·
        rw [qt_135]
        have kp_138 := KP.up ht_135 ⟨by omega, by omega⟩ ⟨by omega, by omega⟩
        have nk_139 : NSK _ _ 1 := NSK.up (w := 2) jnk ht_135 (by omega) (by omega)
        refine lv_if_ne (tgt := 153) hx hb dX12_aRock_148 (by decide) (fun _ => ?_) (fun c => absurd c (by decide))
        exact HJ153 (I_127 1) (I_127 2) (I_127 3) (I_127 4) (I_127 5) (I_127 6) (F_129 0) Nfj _ _ _ (show (0 ≤ ((I_127 2) : Int) ∧ ((I_127 2) : Int) ≤ (I_127 3)) ∧ (((I_127 3) : Int) ≤ Msz ∧ (Msz : Int) ≤ 900) ∧ (0 ≤ ((I_127 1) : Int) ∧ ((I_127 1) : Int) ≤ 4) ∧ (((I_127 1) : Int) = 0 ∨ ((I_127 2) : Int) < (I_127 3)) ∧ (-1 ≤ ((I_127 4) : Int) ∧ ((I_127 4) : Int) ≤ 100000) from (by first | with_reducible assumption | exact ⟨⟨by omega, by omega⟩, ⟨by omega, by omega⟩, ⟨by omega, by omega⟩, by omega, by omega, by omega⟩)) (show 0 ≤ ((I_127 5) : Int) ∧ ((I_127 5) : Int) ≤ 9 from ⟨by omega, by omega⟩) (show KP (F_129 0) Af from (KP.tr kp_138 jkp)) (show Mfr < (I_127 2) from (by omega)) (show NSK (F_129 0) (gz Af 3560) 1 from nk_139) (hP.sub [1, 2, 3, 0] rfl) (hD.sub [1, 2, 3, 0] rfl rfl) hS (lv_sub hl [0, 1, 2] rfl)
  have HJ105 : ∀ (Mtkj : Int) (Mfrj : Int) (Menj : Int) (Mvaj : Int) (Mfsj : Int) (Mfpj : Int) (Afj : Nat → Int32) (Nfj : Nat → Int64) (H : Heap) (locs : List Loc) (ls : Array Slot), ((0 ≤ (Mfrj : Int) ∧ (Mfrj : Int) ≤ Menj) ∧ ((Menj : Int) ≤ Msz ∧ (Msz : Int) ≤ 900) ∧ (0 ≤ (Mtkj : Int) ∧ (Mtkj : Int) ≤ 4) ∧ ((Mtkj : Int) = 0 ∨ (Mfrj : Int) < Menj) ∧ (-1 ≤ (Mvaj : Int) ∧ (Mvaj : Int) ≤ 100000)) → (0 ≤ (Mfsj : Int) ∧ (Mfsj : Int) ≤ 9) → (KP Afj Af) → (Mfr < Mfrj) → (NSK Afj (gz Af 3560) 0) → va_P D vwCl [(hm, .inr (12, [.ref Ma, .ref Mn, .int (iZ Mst), .long Mtp, .long Mbt, .ref Ms, .ref My, .ref Mt, .ref Mp, .ref Mx, .int (iZ Mtd), .int (iZ Msz), .int (iZ Mtkj), .int (iZ Mfrj), .int (iZ Menj), .int (iZ Mvaj), .int (iZ Mfk), .int (iZ Mfpj), .int (iZ Mfsj), .int (iZ Mse), .int (iZ Mlt), .ref Mo, .int (iZ Mdp), .int (iZ Mct), .ref Mk, .ref Ml, .ref Mb, .ref Mh, .ref Mc, .int (iZ Mdr), .int (iZ Mrs), .ref Mz, .ref Mr, .ref Mq, .int (iZ Mit), .int (iZ Mmk)])), (Mx, .inl (k 0, 900, .inl Xf)), (Ma, .inl (k 1, 5340, .inl Afj)), (Mn, .inl (k 2, 36, .inr (.inl Nfj)))] H → va_D A [(hm, .inr (12, [.ref Ma, .ref Mn, .int (iZ Mst), .long Mtp, .long Mbt, .ref Ms, .ref My, .ref Mt, .ref Mp, .ref Mx, .int (iZ Mtd), .int (iZ Msz), .int (iZ Mtkj), .int (iZ Mfrj), .int (iZ Menj), .int (iZ Mvaj), .int (iZ Mfk), .int (iZ Mfpj), .int (iZ Mfsj), .int (iZ Mse), .int (iZ Mlt), .ref Mo, .int (iZ Mdp), .int (iZ Mct), .ref Mk, .ref Ml, .ref Mb, .ref Mh, .ref Mc, .int (iZ Mdr), .int (iZ Mrs), .ref Mz, .ref Mr, .ref Mq, .int (iZ Mit), .int (iZ Mmk)])), (Mx, .inl (k 0, 900, .inl Xf)), (Ma, .inl (k 1, 5340, .inl Afj)), (Mn, .inl (k 2, 36, .inr (.inl Nfj)))] → va_S A s.heap H locs → lv_has ls 3 [(2, .int (iZ (3570 + (6 * (gz Af 3560))))), (1, .int (iZ (gz Af 3560))), (0, .ref hm)] → W p l e (rj 6 0 0) s m [.ref hm].toArray below meth c H locs 0 0 (MQ below (QW (σ := ((Nat → Int) × (Nat → Int64) × (Nat → Nat → Int32) × (Nat → Nat → Int64))) (fun u => some (.int (iZ (u.1 0)))) (fun u => ((0 ≤ ((u.1 2) : Int) ∧ ((u.1 2) : Int) ≤ (u.1 3)) ∧ (((u.1 3) : Int) ≤ Msz ∧ (Msz : Int) ≤ 900) ∧ (0 ≤ ((u.1 1) : Int) ∧ ((u.1 1) : Int) ≤ 4) ∧ (((u.1 1) : Int) = 0 ∨ ((u.1 2) : Int) < (u.1 3)) ∧ (-1 ≤ ((u.1 4) : Int) ∧ ((u.1 4) : Int) ≤ 100000)) ∧ ((0 ≤ ((u.1 5) : Int) ∧ ((u.1 5) : Int) ≤ 9) ∧ (((u.1 0) : Int) = 0 → 1 ≤ ((u.1 5) : Int)) ∧ Mfr ≤ (u.1 2)) ∧ ((((u.1 0) : Int) = 0 ∧ KP (u.2.2.1 0) Af) ∨ (((u.1 0) : Int) = 1 ∧ KP (u.2.2.1 0) Af ∧ NSZ (u.2.2.1 0) ∧ Mfr < (u.1 2)))) (fun u => [(hm, .inr (12, [.ref Ma, .ref Mn, .int (iZ Mst), .long Mtp, .long Mbt, .ref Ms, .ref My, .ref Mt, .ref Mp, .ref Mx, .int (iZ Mtd), .int (iZ Msz), .int (iZ (u.1 1)), .int (iZ (u.1 2)), .int (iZ (u.1 3)), .int (iZ (u.1 4)), .int (iZ Mfk), .int (iZ (u.1 6)), .int (iZ (u.1 5)), .int (iZ Mse), .int (iZ Mlt), .ref Mo, .int (iZ Mdp), .int (iZ Mct), .ref Mk, .ref Ml, .ref Mb, .ref Mh, .ref Mc, .int (iZ Mdr), .int (iZ Mrs), .ref Mz, .ref Mr, .ref Mq, .int (iZ Mit), .int (iZ Mmk)])), (Mx, .inl (k 0, 900, .inl Xf)), (Ma, .inl (k 1, 5340, .inl (u.2.2.1 0))), (Mn, .inl (k 2, 36, .inr (.inl (u.2.2.2 0))))]) D A) [.ref hm].toArray s 0 0 A) (F0 m 105 ls []) := by
    intro Mtkj Mfrj Menj Mvaj Mfsj Mfpj Afj Nfj H locs ls jTI jFS jkp jmf jnk hP hD hS hl
    refine lv_aload_n hx hb dX12_aRock_105 rfl (lv_at hl 2 rfl) ?_
    refine va_ldcS hx hb hown hRR dX12_aRock_106 ?_
    refine lv_iconst (v := iZ 4) hx hb dX12_aRock_108 (by decide) ?_
    refine CSV (As := [.ref sa, .int (iZ 4)]) (rest := []) (wc := [(hm, .inr (12, [.ref Ma, .ref Mn, .int (iZ Mst), .long Mtp, .long Mbt, .ref Ms, .ref My, .ref Mt, .ref Mp, .ref Mx, .int (iZ Mtd), .int (iZ Msz), .int (iZ Mtkj), .int (iZ Mfrj), .int (iZ Menj), .int (iZ Mvaj), .int (iZ Mfk), .int (iZ Mfpj), .int (iZ Mfsj), .int (iZ Mse), .int (iZ Mlt), .ref Mo, .int (iZ Mdp), .int (iZ Mct), .ref Mk, .ref Ml, .ref Mb, .ref Mh, .ref Mc, .int (iZ Mdr), .int (iZ Mrs), .ref Mz, .ref Mr, .ref Mq, .int (iZ Mit), .int (iZ Mmk)])), (Mx, .inl (k 0, 900, .inl Xf))]) (wr := [(Ma, .inl (k 1, 5340, .inl Afj)), (Mn, .inl (k 2, 36, .inr (.inl Nfj)))]) hx hb hml hown hts hKK hP hD hS hA hSY hRR (m_wantWord l D k sa sv hm Ma Mn Ms My Mt Mp Mx Mo Mk Ml Mb Mh Mc Mz Mr Mq Mst Mtd Msz Mtkj Mfrj Menj Mvaj Mfk Mfpj Mfsj Mse Mlt Mdp Mct Mdr Mrs Mit Mmk Mtp Mbt Xf 4 (by first | with_reducible assumption | exact ⟨⟨by omega, by omega⟩, ⟨by omega, by omega⟩, ⟨by omega, by omega⟩, by omega, by omega, by omega⟩) ⟨by omega, by omega⟩ ⟨by omega, by omega⟩) ci_X12_wantWord qm_X12_184 ⟨Nat.le_of_ble_eq_true rfl, Nat.le_of_ble_eq_true rfl⟩ ⟨Nat.le_of_ble_eq_true rfl, Nat.le_of_ble_eq_true rfl⟩ [0, 1] [2, 3] rfl rfl rfl rfl rfl (by decide) 0 rfl rfl rfl hl.1 rfl (Nat.le_of_ble_eq_true rfl) dX12_aRock_109 (fun u_141 H locs hφ hP hD hS => ?_)
    obtain ⟨I_142, L_143, F_144, G_145⟩ := u_141
    obtain ⟨p_147, p_148⟩ : ((0 ≤ ((I_142 2) : Int) ∧ ((I_142 2) : Int) ≤ (I_142 3)) ∧ (((I_142 3) : Int) ≤ Msz ∧ (Msz : Int) ≤ 900) ∧ (0 ≤ ((I_142 1) : Int) ∧ ((I_142 1) : Int) ≤ 4) ∧ (((I_142 1) : Int) = 0 ∨ ((I_142 2) : Int) < (I_142 3)) ∧ (-1 ≤ ((I_142 4) : Int) ∧ ((I_142 4) : Int) ≤ 100000)) ∧ ((0 ≤ ((I_142 5) : Int) ∧ ((I_142 5) : Int) ≤ 9) ∧ (((I_142 0) : Int) = 0 → 1 ≤ ((I_142 5) : Int)) ∧ (((I_142 0) : Int) = 0 ∨ ((I_142 0) : Int) = 1) ∧ Mfrj ≤ (I_142 2)) := hφ
    refine W.eq (g2 := F0 m 112 ls [.int (iZ (I_142 0))]) rfl ?_
    rcases (show ((I_142 0) = 0) ∨ ((I_142 0) = 1) from (by omega)) with s_149 | s_149
    ·
      rw [s_149]
      refine lv_if_eq (tgt := 151) hx hb dX12_aRock_112 (by decide) (fun _ => ?_) (fun c => absurd (by decide) c)
      refine lv_iconst (v := iZ 0) hx hb dX12_aRock_151 (by decide) ?_
      exact EWz hx hb hr hlocks hS (fun i => [0, (I_142 1), (I_142 2), (I_142 3), (I_142 4), (I_142 5), (I_142 6)].getD i 0, fun i => [0].getD i 0, fun i => [Afj].getD i (fun _ => 0), fun i => [Nfj].getD i (fun _ => 0)) rfl rfl ⟨(show (0 ≤ ((I_142 2) : Int) ∧ ((I_142 2) : Int) ≤ (I_142 3)) ∧ (((I_142 3) : Int) ≤ Msz ∧ (Msz : Int) ≤ 900) ∧ (0 ≤ ((I_142 1) : Int) ∧ ((I_142 1) : Int) ≤ 4) ∧ (((I_142 1) : Int) = 0 ∨ ((I_142 2) : Int) < (I_142 3)) ∧ (-1 ≤ ((I_142 4) : Int) ∧ ((I_142 4) : Int) ≤ 100000) from (by first | with_reducible assumption | exact ⟨⟨by omega, by omega⟩, ⟨by omega, by omega⟩, ⟨by omega, by omega⟩, by omega, by omega, by omega⟩)), (show (0 ≤ ((I_142 5) : Int) ∧ ((I_142 5) : Int) ≤ 9) ∧ ((0 : Int) = 0 → 1 ≤ ((I_142 5) : Int)) ∧ Mfr ≤ (I_142 2) from ⟨⟨by omega, by omega⟩, fun _ => by omega, by omega⟩), (show ((0 : Int) = 0 ∧ KP Afj Af) ∨ ((0 : Int) = 1 ∧ KP Afj Af ∧ NSZ Afj ∧ Mfr < (I_142 2)) from (Or.inl ⟨rfl, jkp⟩))⟩ (hP.sub [2, 3, 0, 1] rfl) (hD.sub [2, 3, 0, 1] rfl rfl) dX12_aRock_152
    ·
      rw [s_149]
      refine lv_if_eq (tgt := 151) hx hb dX12_aRock_112 (by decide) (fun c => absurd c (by decide)) (fun _ => ?_)
      refine lv_aload_n hx hb dX12_aRock_115 rfl (lv_at hl 2 rfl) ?_
      refine lv_iload_n hx hb dX12_aRock_116 rfl (lv_at hl 0 rfl) ?_
      refine lv_iconst (v := iZ 1) hx hb dX12_aRock_117 (by decide) ?_
      refine lv_iadd hx hb dX12_aRock_118 ?_
      refine lv_topi (fun x_152 ex_152 => ?_)
      obtain rfl : x_152 = iZ ((3570 + (6 * (gz Af 3560))) + 1) := ex_152.trans (iZ_add (3570 + (6 * (gz Af 3560))) 1)
      refine lv_iconst (v := iZ 1) hx hb dX12_aRock_119 (by decide) ?_
      refine lv_bipush (v := iZ 99) hx hb dX12_aRock_120 (by decide) ?_
      refine CWV (As := [.int (iZ ((3570 + (6 * (gz Af 3560))) + 1)), .int (iZ 1), .int (iZ 99)]) (rest := []) (wc := [(hm, .inr (12, [.ref Ma, .ref Mn, .int (iZ Mst), .long Mtp, .long Mbt, .ref Ms, .ref My, .ref Mt, .ref Mp, .ref Mx, .int (iZ Mtd), .int (iZ Msz), .int (iZ (I_142 1)), .int (iZ (I_142 2)), .int (iZ (I_142 3)), .int (iZ (I_142 4)), .int (iZ Mfk), .int (iZ (I_142 6)), .int (iZ (I_142 5)), .int (iZ Mse), .int (iZ Mlt), .ref Mo, .int (iZ Mdp), .int (iZ Mct), .ref Mk, .ref Ml, .ref Mb, .ref Mh, .ref Mc, .int (iZ Mdr), .int (iZ Mrs), .ref Mz, .ref Mr, .ref Mq, .int (iZ Mit), .int (iZ Mmk)])), (Mx, .inl (k 0, 900, .inl Xf)), (Ma, .inl (k 1, 5340, .inl Afj))]) (wr := [(Mn, .inl (k 2, 36, .inr (.inl Nfj)))]) hx hb hml hown hts hKK hP hD hS hA (m_number l D k hm Ma Mn Ms My Mt Mp Mx Mo Mk Ml Mb Mh Mc Mz Mr Mq Mst Mtd Msz (I_142 1) (I_142 2) (I_142 3) (I_142 4) Mfk (I_142 6) (I_142 5) Mse Mlt Mdp Mct Mdr Mrs Mit Mmk Mtp Mbt Xf Afj ((3570 + (6 * (gz Af 3560))) + 1) 1 99 (by first | with_reducible assumption | exact ⟨⟨by omega, by omega⟩, ⟨by omega, by omega⟩, ⟨by omega, by omega⟩, by omega, by omega, by omega⟩) ⟨by omega, by omega⟩ ⟨by omega, by omega⟩ ⟨by omega, by omega⟩ ⟨by omega, by omega⟩) ci_X12_number qm_X12_188 ⟨Nat.le_of_ble_eq_true rfl, Nat.le_of_ble_eq_true rfl⟩ ⟨Nat.le_of_ble_eq_true rfl, Nat.le_of_ble_eq_true rfl⟩ [2, 3, 0] [1] rfl rfl rfl rfl rfl (by decide) 0 rfl rfl rfl hl.1 rfl (Nat.le_of_ble_eq_true rfl) dX12_aRock_122 (fun u_153 H locs hφ hP hD hS => ?_)
      obtain ⟨I_154, L_155, F_156, G_157⟩ := u_153
      obtain ⟨p_159, p_160, p_161⟩ : ((0 ≤ ((I_154 2) : Int) ∧ ((I_154 2) : Int) ≤ (I_154 3)) ∧ (((I_154 3) : Int) ≤ Msz ∧ (Msz : Int) ≤ 900) ∧ (0 ≤ ((I_154 1) : Int) ∧ ((I_154 1) : Int) ≤ 4) ∧ (((I_154 1) : Int) = 0 ∨ ((I_154 2) : Int) < (I_154 3)) ∧ (-1 ≤ ((I_154 4) : Int) ∧ ((I_154 4) : Int) ≤ 100000)) ∧ ((0 ≤ ((I_154 5) : Int) ∧ ((I_154 5) : Int) ≤ 9) ∧ (((I_154 0) : Int) = 0 → 1 ≤ ((I_154 5) : Int)) ∧ (((I_154 0) : Int) = 0 ∨ ((I_154 0) : Int) = 1) ∧ (I_142 2) ≤ (I_154 2)) ∧ ((((I_154 0) : Int) = 0 ∧ (F_156 0) = Afj) ∨ (((I_154 0) : Int) = 1 ∧ ∃ v6 : Int, 1 ≤ v6 ∧ v6 ≤ 99 ∧ (F_156 0) = upd Afj (iZ ((3570 + (6 * (gz Af 3560))) + 1)).toNatClampNeg (iZ v6))) := hφ
      refine W.eq (g2 := F0 m 125 ls [.int (iZ (I_154 0))]) rfl ?_
      rcases p_161 with ⟨qt_162, et_162⟩ | ⟨qt_162, vt_162, g1t_162, g2t_162, ht_162⟩
      ·
        rw [qt_162]
        have kp_163 : KP (F_156 0) Afj := by rw [et_162]; exact KP.rf _
        refine lv_if_eq (tgt := 151) hx hb dX12_aRock_125 (by decide) (fun _ => ?_) (fun c => absurd (by decide) c)
        refine lv_iconst (v := iZ 0) hx hb dX12_aRock_151 (by decide) ?_
        exact EWz hx hb hr hlocks hS (fun i => [0, (I_154 1), (I_154 2), (I_154 3), (I_154 4), (I_154 5), (I_154 6)].getD i 0, fun i => [0].getD i 0, fun i => [(F_156 0)].getD i (fun _ => 0), fun i => [Nfj].getD i (fun _ => 0)) rfl rfl ⟨(show (0 ≤ ((I_154 2) : Int) ∧ ((I_154 2) : Int) ≤ (I_154 3)) ∧ (((I_154 3) : Int) ≤ Msz ∧ (Msz : Int) ≤ 900) ∧ (0 ≤ ((I_154 1) : Int) ∧ ((I_154 1) : Int) ≤ 4) ∧ (((I_154 1) : Int) = 0 ∨ ((I_154 2) : Int) < (I_154 3)) ∧ (-1 ≤ ((I_154 4) : Int) ∧ ((I_154 4) : Int) ≤ 100000) from (by first | with_reducible assumption | exact ⟨⟨by omega, by omega⟩, ⟨by omega, by omega⟩, ⟨by omega, by omega⟩, by omega, by omega, by omega⟩)), (show (0 ≤ ((I_154 5) : Int) ∧ ((I_154 5) : Int) ≤ 9) ∧ ((0 : Int) = 0 → 1 ≤ ((I_154 5) : Int)) ∧ Mfr ≤ (I_154 2) from ⟨⟨by omega, by omega⟩, fun _ => by omega, by omega⟩), (show ((0 : Int) = 0 ∧ KP (F_156 0) Af) ∨ ((0 : Int) = 1 ∧ KP (F_156 0) Af ∧ NSZ (F_156 0) ∧ Mfr < (I_154 2)) from (Or.inl ⟨rfl, (KP.tr kp_163 jkp)⟩))⟩ (hP.sub [1, 2, 3, 0] rfl) (hD.sub [1, 2, 3, 0] rfl rfl) dX12_aRock_152
      ·
        rw [qt_162]
        have kp_165 := KP.up ht_162 ⟨by omega, by omega⟩ ⟨by omega, by omega⟩
        have nk_166 : NSK _ _ 1 := NSK.up (w := 1) jnk ht_162 (by omega) (by omega)
        refine lv_if_eq (tgt := 151) hx hb dX12_aRock_125 (by decide) (fun c => absurd c (by decide)) (fun _ => ?_)
        exact HJ128 (I_154 1) (I_154 2) (I_154 3) (I_154 4) (I_154 5) (I_154 6) (F_156 0) Nfj _ _ _ (show (0 ≤ ((I_154 2) : Int) ∧ ((I_154 2) : Int) ≤ (I_154 3)) ∧ (((I_154 3) : Int) ≤ Msz ∧ (Msz : Int) ≤ 900) ∧ (0 ≤ ((I_154 1) : Int) ∧ ((I_154 1) : Int) ≤ 4) ∧ (((I_154 1) : Int) = 0 ∨ ((I_154 2) : Int) < (I_154 3)) ∧ (-1 ≤ ((I_154 4) : Int) ∧ ((I_154 4) : Int) ≤ 100000) from (by first | with_reducible assumption | exact ⟨⟨by omega, by omega⟩, ⟨by omega, by omega⟩, ⟨by omega, by omega⟩, by omega, by omega, by omega⟩)) (show 0 ≤ ((I_154 5) : Int) ∧ ((I_154 5) : Int) ≤ 9 from ⟨by omega, by omega⟩) (show KP (F_156 0) Af from (KP.tr kp_165 jkp)) (show Mfr < (I_154 2) from (by omega)) (show NSK (F_156 0) (gz Af 3560) 1 from nk_166) (hP.sub [1, 2, 3, 0] rfl) (hD.sub [1, 2, 3, 0] rfl rfl) hS (lv_sub hl [0, 1, 2] rfl)
  refine lv_aload_n hx hb dX12_aRock_0 rfl (lv_at hl 0 rfl) ?_
  refine va_get (D := D) (ci := 12) (v := .ref Ma) (C := RX12) (T := TX12) (N := 36) hx hb hts iX12 hown hK hP 0 rfl rfl 0 (by decide) (hts _ qf_X12_7) (fun _ h => h) rfl dX12_aRock_1 ?_
  refine lv_sipush (v := iZ 3560) hx hb dX12_aRock_4 (by decide) ?_
  refine va_iald hx hb hK hP 2 1 rfl rfl (zin (e := 3560) (n := 5340) ⟨by omega, by omega⟩ (by decide)) dX12_aRock_7 ?_
  refine lv_topi (fun x_168 ex_168 => ?_)
  obtain rfl : x_168 = iZ (gz Af 3560) := ex_168.trans (gz_eq ⟨by omega, by omega⟩)
  have h_169 := gz_rg Af 3560
  refine lv_istore_n (lv' := [(1, .int (iZ (gz Af 3560))), (0, .ref hm)]) hx hb dX12_aRock_8 rfl hl (by decide) rfl (fun ls hl => ?_)
  refine lv_sipush (v := iZ 3570) hx hb dX12_aRock_9 (by decide) ?_
  refine lv_bipush (v := iZ 6) hx hb dX12_aRock_12 (by decide) ?_
  refine lv_iload_n hx hb dX12_aRock_14 rfl (lv_at hl 0 rfl) ?_
  refine lv_imul hx hb dX12_aRock_15 ?_
  refine lv_topi (fun x_170 ex_170 => ?_)
  obtain rfl : x_170 = iZ (6 * (gz Af 3560)) := ex_170.trans (iZ_mul 6 (gz Af 3560))
  refine lv_iadd hx hb dX12_aRock_16 ?_
  refine lv_topi (fun x_171 ex_171 => ?_)
  obtain rfl : x_171 = iZ (3570 + (6 * (gz Af 3560))) := ex_171.trans (iZ_add 3570 (6 * (gz Af 3560)))
  refine lv_istore_n (lv' := [(2, .int (iZ (3570 + (6 * (gz Af 3560))))), (1, .int (iZ (gz Af 3560))), (0, .ref hm)]) hx hb dX12_aRock_17 rfl hl (by decide) rfl (fun ls hl => ?_)
  refine lv_iload_n hx hb dX12_aRock_18 rfl (lv_at hl 1 rfl) ?_
  refine lv_bipush (v := iZ 6) hx hb dX12_aRock_19 (by decide) ?_
  refine lv_icmp_ne (tgt := 31) hx hb dX12_aRock_21 (by decide) (fun c_172 => ?_) (fun c_172 => ?_)
  ·
    have c_172 := mt (zeq (x := iZ (gz Af 3560)) (y := iZ 6) rfl rfl ⟨by omega, by omega⟩ ⟨by omega, by omega⟩).mpr c_172
    refine lv_aload_n hx hb dX12_aRock_31 rfl (lv_at hl 2 rfl) ?_
    refine CWV (As := []) (rest := []) (wc := [(hm, .inr (12, [.ref Ma, .ref Mn, .int (iZ Mst), .long Mtp, .long Mbt, .ref Ms, .ref My, .ref Mt, .ref Mp, .ref Mx, .int (iZ Mtd), .int (iZ Msz), .int (iZ Mtk), .int (iZ Mfr), .int (iZ Men), .int (iZ Mva), .int (iZ Mfk), .int (iZ Mfp), .int (iZ Mfs), .int (iZ Mse), .int (iZ Mlt), .ref Mo, .int (iZ Mdp), .int (iZ Mct), .ref Mk, .ref Ml, .ref Mb, .ref Mh, .ref Mc, .int (iZ Mdr), .int (iZ Mrs), .ref Mz, .ref Mr, .ref Mq, .int (iZ Mit), .int (iZ Mmk)])), (Mx, .inl (k 0, 900, .inl Xf))]) (wr := [(Ma, .inl (k 1, 5340, .inl Af)), (Mn, .inl (k 2, 36, .inr (.inl Nf)))]) hx hb hml hown hts hKK hP hD hS hA (m_onward l D k hm Ma Mn Ms My Mt Mp Mx Mo Mk Ml Mb Mh Mc Mz Mr Mq Mst Mtd Msz Mtk Mfr Men Mva Mfk Mfp Mfs Mse Mlt Mdp Mct Mdr Mrs Mit Mmk Mtp Mbt Xf ⟨⟨by omega, by omega⟩, by omega⟩) ci_X12_onward qm_X12_158 ⟨Nat.le_of_ble_eq_true rfl, Nat.le_of_ble_eq_true rfl⟩ ⟨Nat.le_of_ble_eq_true rfl, Nat.le_of_ble_eq_true rfl⟩ [0, 1] [2, 3] rfl rfl rfl rfl rfl (by decide) 0 rfl rfl rfl hl.1 rfl (Nat.le_of_ble_eq_true rfl) dX12_aRock_32 (fun u_173 H locs hφ hP hD hS => ?_)
    obtain ⟨I_174, L_175, F_176, G_177⟩ := u_173
    obtain ⟨p_179, p_180⟩ : ((0 ≤ ((I_174 2) : Int) ∧ ((I_174 2) : Int) ≤ (I_174 3)) ∧ (((I_174 3) : Int) ≤ Msz ∧ (Msz : Int) ≤ 900) ∧ (0 ≤ ((I_174 1) : Int) ∧ ((I_174 1) : Int) ≤ 4) ∧ (((I_174 1) : Int) = 0 ∨ ((I_174 2) : Int) < (I_174 3)) ∧ (-1 ≤ ((I_174 4) : Int) ∧ ((I_174 4) : Int) ≤ 100000)) ∧ (Men ≤ (I_174 2)) := hφ
    refine W.eq (g2 := F0 m 35 ls []) rfl ?_
    refine lv_aload_n hx hb dX12_aRock_35 rfl (lv_at hl 2 rfl) ?_
    refine va_ldcS hx hb hown hRR dX12_aRock_36 ?_
    refine CSV (As := [.ref sa]) (rest := []) (wc := [(hm, .inr (12, [.ref Ma, .ref Mn, .int (iZ Mst), .long Mtp, .long Mbt, .ref Ms, .ref My, .ref Mt, .ref Mp, .ref Mx, .int (iZ Mtd), .int (iZ Msz), .int (iZ (I_174 1)), .int (iZ (I_174 2)), .int (iZ (I_174 3)), .int (iZ (I_174 4)), .int (iZ Mfk), .int (iZ Mfp), .int (iZ Mfs), .int (iZ Mse), .int (iZ Mlt), .ref Mo, .int (iZ Mdp), .int (iZ Mct), .ref Mk, .ref Ml, .ref Mb, .ref Mh, .ref Mc, .int (iZ Mdr), .int (iZ Mrs), .ref Mz, .ref Mr, .ref Mq, .int (iZ Mit), .int (iZ Mmk)])), (Mx, .inl (k 0, 900, .inl Xf))]) (wr := [(Ma, .inl (k 1, 5340, .inl Af)), (Mn, .inl (k 2, 36, .inr (.inl Nf)))]) hx hb hml hown hts hKK hP hD hS hA hSY hRR (m_isName l D k sa sv ([.ref Ma, .ref Mn, .int (iZ Mst), .long Mtp, .long Mbt, .ref Ms, .ref My, .ref Mt, .ref Mp, .ref Mx, .int (iZ Mtd), .int (iZ Msz), .int (iZ (I_174 1)), .int (iZ (I_174 2)), .int (iZ (I_174 3)), .int (iZ (I_174 4)), .int (iZ Mfk), .int (iZ Mfp), .int (iZ Mfs), .int (iZ Mse), .int (iZ Mlt), .ref Mo, .int (iZ Mdp), .int (iZ Mct), .ref Mk, .ref Ml, .ref Mb, .ref Mh, .ref Mc, .int (iZ Mdr), .int (iZ Mrs), .ref Mz, .ref Mr, .ref Mq, .int (iZ Mit), .int (iZ Mmk)]) hm Mx Msz (I_174 1) (I_174 2) (I_174 3) Xf rfl rfl rfl rfl rfl ⟨⟨⟨by omega, by omega⟩, by omega, by omega⟩, by omega, by omega⟩) ci_X12_isName qm_X12_177 ⟨Nat.le_of_ble_eq_true rfl, Nat.le_of_ble_eq_true rfl⟩ ⟨Nat.le_of_ble_eq_true rfl, Nat.le_of_ble_eq_true rfl⟩ [2, 3] [0, 1] rfl rfl rfl rfl rfl (by decide) 0 rfl rfl rfl hl.1 rfl (Nat.le_of_ble_eq_true rfl) dX12_aRock_38 (fun u_181 H locs hφ hP hD hS => ?_)
    obtain ⟨I_182, L_183, F_184, G_185⟩ := u_181
    have p_187 : (((I_182 0) : Int) = 0 ∨ ((I_182 0) : Int) = 1) ∧ (((I_182 0) : Int) = 1 → (I_174 1) = 2) := hφ
    refine W.eq (g2 := F0 m 41 ls [.int (iZ (I_182 0))]) rfl ?_
    rcases (show ((I_182 0) = 0) ∨ ((I_182 0) = 1) from (by omega)) with s_188 | s_188
    ·
      rw [s_188]
      refine lv_if_ne (tgt := 50) hx hb dX12_aRock_41 (by decide) (fun c => absurd (by decide) c) (fun _ => ?_)
      refine lv_aload_n hx hb dX12_aRock_44 rfl (lv_at hl 2 rfl) ?_
      refine lv_iconst (v := iZ 2) hx hb dX12_aRock_45 (by decide) ?_
      refine CWV (As := [.int (iZ 2)]) (rest := []) (wc := [(hm, .inr (12, [.ref Ma, .ref Mn, .int (iZ Mst), .long Mtp, .long Mbt, .ref Ms, .ref My, .ref Mt, .ref Mp, .ref Mx, .int (iZ Mtd), .int (iZ Msz), .int (iZ (I_174 1)), .int (iZ (I_174 2)), .int (iZ (I_174 3)), .int (iZ (I_174 4)), .int (iZ Mfk), .int (iZ Mfp), .int (iZ Mfs), .int (iZ Mse), .int (iZ Mlt), .ref Mo, .int (iZ Mdp), .int (iZ Mct), .ref Mk, .ref Ml, .ref Mb, .ref Mh, .ref Mc, .int (iZ Mdr), .int (iZ Mrs), .ref Mz, .ref Mr, .ref Mq, .int (iZ Mit), .int (iZ Mmk)]))]) (wr := [(Ma, .inl (k 1, 5340, .inl Af)), (Mn, .inl (k 2, 36, .inr (.inl Nf))), (Mx, .inl (k 0, 900, .inl Xf))]) hx hb hml hown hts hKK hP hD hS hA (m_fails l D k hm Ma Mn Ms My Mt Mp Mx Mo Mk Ml Mb Mh Mc Mz Mr Mq Mst Mtd Msz (I_174 1) (I_174 2) (I_174 3) (I_174 4) Mfk Mfp Mfs Mse Mlt Mdp Mct Mdr Mrs Mit Mmk Mtp Mbt 2 ⟨by omega, by omega⟩ ⟨by omega, by omega⟩ ⟨by omega, by omega⟩) ci_X12_fails qm_X12_164 ⟨Nat.le_of_ble_eq_true rfl, Nat.le_of_ble_eq_true rfl⟩ ⟨Nat.le_of_ble_eq_true rfl, Nat.le_of_ble_eq_true rfl⟩ [2] [0, 1, 3] rfl rfl rfl rfl rfl (by decide) 0 rfl rfl rfl hl.1 rfl (Nat.le_of_ble_eq_true rfl) dX12_aRock_46 (fun u_190 H locs hφ hP hD hS => ?_)
      obtain ⟨I_191, L_192, F_193, G_194⟩ := u_190
      have p_196 : 1 ≤ ((I_191 1) : Int) ∧ ((I_191 1) : Int) ≤ 9 := hφ
      refine W.eq (g2 := F0 m 49 ls [.int (iZ 0)]) rfl ?_
      exact EWz hx hb hr hlocks hS (fun i => [0, (I_174 1), (I_174 2), (I_174 3), (I_174 4), (I_191 1), (I_191 2)].getD i 0, fun i => [0].getD i 0, fun i => [Af].getD i (fun _ => 0), fun i => [Nf].getD i (fun _ => 0)) rfl rfl ⟨(show (0 ≤ ((I_174 2) : Int) ∧ ((I_174 2) : Int) ≤ (I_174 3)) ∧ (((I_174 3) : Int) ≤ Msz ∧ (Msz : Int) ≤ 900) ∧ (0 ≤ ((I_174 1) : Int) ∧ ((I_174 1) : Int) ≤ 4) ∧ (((I_174 1) : Int) = 0 ∨ ((I_174 2) : Int) < (I_174 3)) ∧ (-1 ≤ ((I_174 4) : Int) ∧ ((I_174 4) : Int) ≤ 100000) from (by first | with_reducible assumption | exact ⟨⟨by omega, by omega⟩, ⟨by omega, by omega⟩, ⟨by omega, by omega⟩, by omega, by omega, by omega⟩)), (show (0 ≤ ((I_191 1) : Int) ∧ ((I_191 1) : Int) ≤ 9) ∧ ((0 : Int) = 0 → 1 ≤ ((I_191 1) : Int)) ∧ Mfr ≤ (I_174 2) from ⟨⟨by omega, by omega⟩, fun _ => by omega, by omega⟩), (show ((0 : Int) = 0 ∧ KP Af Af) ∨ ((0 : Int) = 1 ∧ KP Af Af ∧ NSZ Af ∧ Mfr < (I_174 2)) from (Or.inl ⟨rfl, (KP.rf Af)⟩))⟩ (hP.sub [3, 2, 0, 1] rfl) (hD.sub [3, 2, 0, 1] rfl rfl) dX12_aRock_49
    ·
      rw [s_188]
      refine lv_if_ne (tgt := 50) hx hb dX12_aRock_41 (by decide) (fun _ => ?_) (fun c => absurd c (by decide))
      refine lv_aload_n hx hb dX12_aRock_50 rfl (lv_at hl 2 rfl) ?_
      refine lv_bipush (v := iZ 24) hx hb dX12_aRock_51 (by decide) ?_
      refine lv_iload_n hx hb dX12_aRock_53 rfl (lv_at hl 1 rfl) ?_
      refine CWV (As := [.int (iZ 24), .int (iZ (gz Af 3560))]) (rest := []) (wc := [(hm, .inr (12, [.ref Ma, .ref Mn, .int (iZ Mst), .long Mtp, .long Mbt, .ref Ms, .ref My, .ref Mt, .ref Mp, .ref Mx, .int (iZ Mtd), .int (iZ Msz), .int (iZ (I_174 1)), .int (iZ (I_174 2)), .int (iZ (I_174 3)), .int (iZ (I_174 4)), .int (iZ Mfk), .int (iZ Mfp), .int (iZ Mfs), .int (iZ Mse), .int (iZ Mlt), .ref Mo, .int (iZ Mdp), .int (iZ Mct), .ref Mk, .ref Ml, .ref Mb, .ref Mh, .ref Mc, .int (iZ Mdr), .int (iZ Mrs), .ref Mz, .ref Mr, .ref Mq, .int (iZ Mit), .int (iZ Mmk)])), (Mx, .inl (k 0, 900, .inl Xf)), (Mn, .inl (k 2, 36, .inr (.inl Nf)))]) (wr := [(Ma, .inl (k 1, 5340, .inl Af))]) hx hb hml hown hts hKK hP hD hS hA (m_findHere l D k ([.ref Ma, .ref Mn, .int (iZ Mst), .long Mtp, .long Mbt, .ref Ms, .ref My, .ref Mt, .ref Mp, .ref Mx, .int (iZ Mtd), .int (iZ Msz), .int (iZ (I_174 1)), .int (iZ (I_174 2)), .int (iZ (I_174 3)), .int (iZ (I_174 4)), .int (iZ Mfk), .int (iZ Mfp), .int (iZ Mfs), .int (iZ Mse), .int (iZ Mlt), .ref Mo, .int (iZ Mdp), .int (iZ Mct), .ref Mk, .ref Ml, .ref Mb, .ref Mh, .ref Mc, .int (iZ Mdr), .int (iZ Mrs), .ref Mz, .ref Mr, .ref Mq, .int (iZ Mit), .int (iZ Mmk)]) hm Mx Mn Msz (I_174 2) (I_174 3) 24 (gz Af 3560) Xf Nf rfl rfl rfl rfl rfl ⟨⟨by omega, by omega⟩, by omega, by omega⟩ ⟨by omega, by omega⟩ ⟨by omega, by omega⟩) ci_X12_findHere qm_X12_181 ⟨Nat.le_of_ble_eq_true rfl, Nat.le_of_ble_eq_true rfl⟩ ⟨Nat.le_of_ble_eq_true rfl, Nat.le_of_ble_eq_true rfl⟩ [2, 3, 1] [0] rfl rfl rfl rfl rfl (by decide) 0 rfl rfl rfl hl.1 rfl (Nat.le_of_ble_eq_true rfl) dX12_aRock_54 (fun u_198 H locs hφ hP hD hS => ?_)
      obtain ⟨I_199, L_200, F_201, G_202⟩ := u_198
      have p_204 : -1 ≤ (I_199 0) ∧ ((I_199 0) < (gz Af 3560) ∨ (I_199 0) = -1) := hφ
      refine W.eq (g2 := F0 m 57 ls [.int (iZ (I_199 0))]) rfl ?_
      refine lv_iconst (v := iZ (-1)) hx hb dX12_aRock_57 (by decide) ?_
      refine lv_icmp_eq (tgt := 67) hx hb dX12_aRock_58 (by decide) (fun c_205 => ?_) (fun c_205 => ?_)
      ·
        have c_205 := (zeq (x := iZ (I_199 0)) (y := iZ (-1)) rfl rfl ⟨by omega, by omega⟩ ⟨by omega, by omega⟩).mp c_205
        refine lv_aload_n hx hb dX12_aRock_67 rfl (lv_at hl 2 rfl) ?_
        refine va_get (D := D) (ci := 12) (v := .ref Mn) (C := RX12) (T := TX12) (N := 36) hx hb hts iX12 hown hK hP 1 rfl rfl 1 (by decide) (hts _ qf_X12_13) (fun _ h => h) rfl dX12_aRock_68 ?_
        refine lv_bipush (v := iZ 24) hx hb dX12_aRock_71 (by decide) ?_
        refine lv_iload_n hx hb dX12_aRock_73 rfl (lv_at hl 1 rfl) ?_
        refine lv_iadd hx hb dX12_aRock_74 ?_
        refine lv_topi (fun x_206 ex_206 => ?_)
        obtain rfl : x_206 = iZ (24 + (gz Af 3560)) := ex_206.trans (iZ_add 24 (gz Af 3560))
        refine lv_aload_n hx hb dX12_aRock_75 rfl (lv_at hl 2 rfl) ?_
        refine CWV (As := []) (rest := [.int (iZ (24 + (gz Af 3560))), .ref Mn]) (wc := [(hm, .inr (12, [.ref Ma, .ref Mn, .int (iZ Mst), .long Mtp, .long Mbt, .ref Ms, .ref My, .ref Mt, .ref Mp, .ref Mx, .int (iZ Mtd), .int (iZ Msz), .int (iZ (I_174 1)), .int (iZ (I_174 2)), .int (iZ (I_174 3)), .int (iZ (I_174 4)), .int (iZ Mfk), .int (iZ Mfp), .int (iZ Mfs), .int (iZ Mse), .int (iZ Mlt), .ref Mo, .int (iZ Mdp), .int (iZ Mct), .ref Mk, .ref Ml, .ref Mb, .ref Mh, .ref Mc, .int (iZ Mdr), .int (iZ Mrs), .ref Mz, .ref Mr, .ref Mq, .int (iZ Mit), .int (iZ Mmk)])), (Mx, .inl (k 0, 900, .inl Xf))]) (wr := [(Ma, .inl (k 1, 5340, .inl Af)), (Mn, .inl (k 2, 36, .inr (.inl Nf)))]) hx hb hml hown hts hKK hP hD hS hA (m_nameHere l D k ([.ref Ma, .ref Mn, .int (iZ Mst), .long Mtp, .long Mbt, .ref Ms, .ref My, .ref Mt, .ref Mp, .ref Mx, .int (iZ Mtd), .int (iZ Msz), .int (iZ (I_174 1)), .int (iZ (I_174 2)), .int (iZ (I_174 3)), .int (iZ (I_174 4)), .int (iZ Mfk), .int (iZ Mfp), .int (iZ Mfs), .int (iZ Mse), .int (iZ Mlt), .ref Mo, .int (iZ Mdp), .int (iZ Mct), .ref Mk, .ref Ml, .ref Mb, .ref Mh, .ref Mc, .int (iZ Mdr), .int (iZ Mrs), .ref Mz, .ref Mr, .ref Mq, .int (iZ Mit), .int (iZ Mmk)]) hm Mx Msz (I_174 2) (I_174 3) Xf rfl rfl rfl rfl ⟨⟨by omega, by omega⟩, by omega, by omega⟩) ci_X12_nameHere qm_X12_171 ⟨Nat.le_of_ble_eq_true rfl, Nat.le_of_ble_eq_true rfl⟩ ⟨Nat.le_of_ble_eq_true rfl, Nat.le_of_ble_eq_true rfl⟩ [1, 2] [0, 3] rfl rfl rfl rfl rfl (by decide) 0 rfl rfl rfl hl.1 rfl (Nat.le_of_ble_eq_true rfl) dX12_aRock_76 (fun u_207 H locs hφ hP hD hS => ?_)
        obtain ⟨I_208, L_209, F_210, G_211⟩ := u_207
        refine W.eq (g2 := F0 m 79 ls [.long (L_209 0), .int (iZ (24 + (gz Af 3560))), .ref Mn]) rfl ?_
        refine va_last hx hb hK hP hD hS 1 2 rfl rfl (zin (e := (24 + (gz Af 3560))) (n := 36) ⟨by omega, by omega⟩ (by decide)) dX12_aRock_79 (fun H locs hP hD hS => ?_)
        obtain ⟨f_213, hf_213⟩ : ∃ gg9, gg9 = vp_updL Nf (iZ (24 + (gz Af 3560))).toNatClampNeg (L_209 0) := ⟨_, rfl⟩
        rw [← hf_213] at hP hD
        refine lv_aload_n hx hb dX12_aRock_80 rfl (lv_at hl 2 rfl) ?_
        refine CWV (As := []) (rest := []) (wc := [(hm, .inr (12, [.ref Ma, .ref Mn, .int (iZ Mst), .long Mtp, .long Mbt, .ref Ms, .ref My, .ref Mt, .ref Mp, .ref Mx, .int (iZ Mtd), .int (iZ Msz), .int (iZ (I_174 1)), .int (iZ (I_174 2)), .int (iZ (I_174 3)), .int (iZ (I_174 4)), .int (iZ Mfk), .int (iZ Mfp), .int (iZ Mfs), .int (iZ Mse), .int (iZ Mlt), .ref Mo, .int (iZ Mdp), .int (iZ Mct), .ref Mk, .ref Ml, .ref Mb, .ref Mh, .ref Mc, .int (iZ Mdr), .int (iZ Mrs), .ref Mz, .ref Mr, .ref Mq, .int (iZ Mit), .int (iZ Mmk)])), (Mx, .inl (k 0, 900, .inl Xf))]) (wr := [(Ma, .inl (k 1, 5340, .inl Af)), (Mn, .inl (k 2, 36, .inr (.inl f_213)))]) hx hb hml hown hts hKK hP hD hS hA (m_onward l D k hm Ma Mn Ms My Mt Mp Mx Mo Mk Ml Mb Mh Mc Mz Mr Mq Mst Mtd Msz (I_174 1) (I_174 2) (I_174 3) (I_174 4) Mfk Mfp Mfs Mse Mlt Mdp Mct Mdr Mrs Mit Mmk Mtp Mbt Xf ⟨⟨by omega, by omega⟩, by omega⟩) ci_X12_onward qm_X12_158 ⟨Nat.le_of_ble_eq_true rfl, Nat.le_of_ble_eq_true rfl⟩ ⟨Nat.le_of_ble_eq_true rfl, Nat.le_of_ble_eq_true rfl⟩ [2, 3] [0, 1] rfl rfl rfl rfl rfl (by decide) 0 rfl rfl rfl hl.1 rfl (Nat.le_of_ble_eq_true rfl) dX12_aRock_81 (fun u_214 H locs hφ hP hD hS => ?_)
        obtain ⟨I_215, L_216, F_217, G_218⟩ := u_214
        obtain ⟨p_220, p_221⟩ : ((0 ≤ ((I_215 2) : Int) ∧ ((I_215 2) : Int) ≤ (I_215 3)) ∧ (((I_215 3) : Int) ≤ Msz ∧ (Msz : Int) ≤ 900) ∧ (0 ≤ ((I_215 1) : Int) ∧ ((I_215 1) : Int) ≤ 4) ∧ (((I_215 1) : Int) = 0 ∨ ((I_215 2) : Int) < (I_215 3)) ∧ (-1 ≤ ((I_215 4) : Int) ∧ ((I_215 4) : Int) ≤ 100000)) ∧ ((I_174 3) ≤ (I_215 2)) := hφ
        refine W.eq (g2 := F0 m 84 ls []) rfl ?_
        have hnk := NSZ.rock hNZ (by omega)
        refine lv_aload_n hx hb dX12_aRock_84 rfl (lv_at hl 2 rfl) ?_
        refine va_ldcS hx hb hown hRR dX12_aRock_85 ?_
        refine lv_iconst (v := iZ 3) hx hb dX12_aRock_87 (by decide) ?_
        refine CSV (As := [.ref sa, .int (iZ 3)]) (rest := []) (wc := [(hm, .inr (12, [.ref Ma, .ref Mn, .int (iZ Mst), .long Mtp, .long Mbt, .ref Ms, .ref My, .ref Mt, .ref Mp, .ref Mx, .int (iZ Mtd), .int (iZ Msz), .int (iZ (I_215 1)), .int (iZ (I_215 2)), .int (iZ (I_215 3)), .int (iZ (I_215 4)), .int (iZ Mfk), .int (iZ Mfp), .int (iZ Mfs), .int (iZ Mse), .int (iZ Mlt), .ref Mo, .int (iZ Mdp), .int (iZ Mct), .ref Mk, .ref Ml, .ref Mb, .ref Mh, .ref Mc, .int (iZ Mdr), .int (iZ Mrs), .ref Mz, .ref Mr, .ref Mq, .int (iZ Mit), .int (iZ Mmk)])), (Mx, .inl (k 0, 900, .inl Xf))]) (wr := [(Ma, .inl (k 1, 5340, .inl Af)), (Mn, .inl (k 2, 36, .inr (.inl f_213)))]) hx hb hml hown hts hKK hP hD hS hA hSY hRR (m_wantWord l D k sa sv hm Ma Mn Ms My Mt Mp Mx Mo Mk Ml Mb Mh Mc Mz Mr Mq Mst Mtd Msz (I_215 1) (I_215 2) (I_215 3) (I_215 4) Mfk Mfp Mfs Mse Mlt Mdp Mct Mdr Mrs Mit Mmk Mtp Mbt Xf 3 (by first | with_reducible assumption | exact ⟨⟨by omega, by omega⟩, ⟨by omega, by omega⟩, ⟨by omega, by omega⟩, by omega, by omega, by omega⟩) ⟨by omega, by omega⟩ ⟨by omega, by omega⟩) ci_X12_wantWord qm_X12_184 ⟨Nat.le_of_ble_eq_true rfl, Nat.le_of_ble_eq_true rfl⟩ ⟨Nat.le_of_ble_eq_true rfl, Nat.le_of_ble_eq_true rfl⟩ [2, 3] [0, 1] rfl rfl rfl rfl rfl (by decide) 0 rfl rfl rfl hl.1 rfl (Nat.le_of_ble_eq_true rfl) dX12_aRock_88 (fun u_222 H locs hφ hP hD hS => ?_)
        obtain ⟨I_223, L_224, F_225, G_226⟩ := u_222
        obtain ⟨p_228, p_229⟩ : ((0 ≤ ((I_223 2) : Int) ∧ ((I_223 2) : Int) ≤ (I_223 3)) ∧ (((I_223 3) : Int) ≤ Msz ∧ (Msz : Int) ≤ 900) ∧ (0 ≤ ((I_223 1) : Int) ∧ ((I_223 1) : Int) ≤ 4) ∧ (((I_223 1) : Int) = 0 ∨ ((I_223 2) : Int) < (I_223 3)) ∧ (-1 ≤ ((I_223 4) : Int) ∧ ((I_223 4) : Int) ≤ 100000)) ∧ ((0 ≤ ((I_223 5) : Int) ∧ ((I_223 5) : Int) ≤ 9) ∧ (((I_223 0) : Int) = 0 → 1 ≤ ((I_223 5) : Int)) ∧ (((I_223 0) : Int) = 0 ∨ ((I_223 0) : Int) = 1) ∧ (I_215 2) ≤ (I_223 2)) := hφ
        refine W.eq (g2 := F0 m 91 ls [.int (iZ (I_223 0))]) rfl ?_
        rcases (show ((I_223 0) = 0) ∨ ((I_223 0) = 1) from (by omega)) with s_230 | s_230
        ·
          rw [s_230]
          refine lv_if_eq (tgt := 151) hx hb dX12_aRock_91 (by decide) (fun _ => ?_) (fun c => absurd (by decide) c)
          refine lv_iconst (v := iZ 0) hx hb dX12_aRock_151 (by decide) ?_
          exact EWz hx hb hr hlocks hS (fun i => [0, (I_223 1), (I_223 2), (I_223 3), (I_223 4), (I_223 5), (I_223 6)].getD i 0, fun i => [0].getD i 0, fun i => [Af].getD i (fun _ => 0), fun i => [f_213].getD i (fun _ => 0)) rfl rfl ⟨(show (0 ≤ ((I_223 2) : Int) ∧ ((I_223 2) : Int) ≤ (I_223 3)) ∧ (((I_223 3) : Int) ≤ Msz ∧ (Msz : Int) ≤ 900) ∧ (0 ≤ ((I_223 1) : Int) ∧ ((I_223 1) : Int) ≤ 4) ∧ (((I_223 1) : Int) = 0 ∨ ((I_223 2) : Int) < (I_223 3)) ∧ (-1 ≤ ((I_223 4) : Int) ∧ ((I_223 4) : Int) ≤ 100000) from (by first | with_reducible assumption | exact ⟨⟨by omega, by omega⟩, ⟨by omega, by omega⟩, ⟨by omega, by omega⟩, by omega, by omega, by omega⟩)), (show (0 ≤ ((I_223 5) : Int) ∧ ((I_223 5) : Int) ≤ 9) ∧ ((0 : Int) = 0 → 1 ≤ ((I_223 5) : Int)) ∧ Mfr ≤ (I_223 2) from ⟨⟨by omega, by omega⟩, fun _ => by omega, by omega⟩), (show ((0 : Int) = 0 ∧ KP Af Af) ∨ ((0 : Int) = 1 ∧ KP Af Af ∧ NSZ Af ∧ Mfr < (I_223 2)) from (Or.inl ⟨rfl, (KP.rf Af)⟩))⟩ (hP.sub [2, 3, 0, 1] rfl) (hD.sub [2, 3, 0, 1] rfl rfl) dX12_aRock_152
        ·
          rw [s_230]
          refine lv_if_eq (tgt := 151) hx hb dX12_aRock_91 (by decide) (fun c => absurd c (by decide)) (fun _ => ?_)
          refine lv_aload_n hx hb dX12_aRock_94 rfl (lv_at hl 2 rfl) ?_
          refine lv_iload_n hx hb dX12_aRock_95 rfl (lv_at hl 0 rfl) ?_
          refine lv_iconst (v := iZ 0) hx hb dX12_aRock_96 (by decide) ?_
          refine lv_bipush (v := iZ 20) hx hb dX12_aRock_97 (by decide) ?_
          refine CWV (As := [.int (iZ (3570 + (6 * (gz Af 3560)))), .int (iZ 0), .int (iZ 20)]) (rest := []) (wc := [(hm, .inr (12, [.ref Ma, .ref Mn, .int (iZ Mst), .long Mtp, .long Mbt, .ref Ms, .ref My, .ref Mt, .ref Mp, .ref Mx, .int (iZ Mtd), .int (iZ Msz), .int (iZ (I_223 1)), .int (iZ (I_223 2)), .int (iZ (I_223 3)), .int (iZ (I_223 4)), .int (iZ Mfk), .int (iZ (I_223 6)), .int (iZ (I_223 5)), .int (iZ Mse), .int (iZ Mlt), .ref Mo, .int (iZ Mdp), .int (iZ Mct), .ref Mk, .ref Ml, .ref Mb, .ref Mh, .ref Mc, .int (iZ Mdr), .int (iZ Mrs), .ref Mz, .ref Mr, .ref Mq, .int (iZ Mit), .int (iZ Mmk)])), (Mx, .inl (k 0, 900, .inl Xf)), (Ma, .inl (k 1, 5340, .inl Af))]) (wr := [(Mn, .inl (k 2, 36, .inr (.inl f_213)))]) hx hb hml hown hts hKK hP hD hS hA (m_number l D k hm Ma Mn Ms My Mt Mp Mx Mo Mk Ml Mb Mh Mc Mz Mr Mq Mst Mtd Msz (I_223 1) (I_223 2) (I_223 3) (I_223 4) Mfk (I_223 6) (I_223 5) Mse Mlt Mdp Mct Mdr Mrs Mit Mmk Mtp Mbt Xf Af (3570 + (6 * (gz Af 3560))) 0 20 (by first | with_reducible assumption | exact ⟨⟨by omega, by omega⟩, ⟨by omega, by omega⟩, ⟨by omega, by omega⟩, by omega, by omega, by omega⟩) ⟨by omega, by omega⟩ ⟨by omega, by omega⟩ ⟨by omega, by omega⟩ ⟨by omega, by omega⟩) ci_X12_number qm_X12_188 ⟨Nat.le_of_ble_eq_true rfl, Nat.le_of_ble_eq_true rfl⟩ ⟨Nat.le_of_ble_eq_true rfl, Nat.le_of_ble_eq_true rfl⟩ [2, 3, 0] [1] rfl rfl rfl rfl rfl (by decide) 0 rfl rfl rfl hl.1 rfl (Nat.le_of_ble_eq_true rfl) dX12_aRock_99 (fun u_233 H locs hφ hP hD hS => ?_)
          obtain ⟨I_234, L_235, F_236, G_237⟩ := u_233
          obtain ⟨p_239, p_240, p_241⟩ : ((0 ≤ ((I_234 2) : Int) ∧ ((I_234 2) : Int) ≤ (I_234 3)) ∧ (((I_234 3) : Int) ≤ Msz ∧ (Msz : Int) ≤ 900) ∧ (0 ≤ ((I_234 1) : Int) ∧ ((I_234 1) : Int) ≤ 4) ∧ (((I_234 1) : Int) = 0 ∨ ((I_234 2) : Int) < (I_234 3)) ∧ (-1 ≤ ((I_234 4) : Int) ∧ ((I_234 4) : Int) ≤ 100000)) ∧ ((0 ≤ ((I_234 5) : Int) ∧ ((I_234 5) : Int) ≤ 9) ∧ (((I_234 0) : Int) = 0 → 1 ≤ ((I_234 5) : Int)) ∧ (((I_234 0) : Int) = 0 ∨ ((I_234 0) : Int) = 1) ∧ (I_223 2) ≤ (I_234 2)) ∧ ((((I_234 0) : Int) = 0 ∧ (F_236 0) = Af) ∨ (((I_234 0) : Int) = 1 ∧ ∃ v6 : Int, 0 ≤ v6 ∧ v6 ≤ 20 ∧ (F_236 0) = upd Af (iZ (3570 + (6 * (gz Af 3560)))).toNatClampNeg (iZ v6))) := hφ
          refine W.eq (g2 := F0 m 102 ls [.int (iZ (I_234 0))]) rfl ?_
          rcases p_241 with ⟨qt_242, et_242⟩ | ⟨qt_242, vt_242, g1t_242, g2t_242, ht_242⟩
          ·
            rw [qt_242]
            have kp_243 : KP (F_236 0) Af := by rw [et_242]; exact KP.rf _
            refine lv_if_eq (tgt := 151) hx hb dX12_aRock_102 (by decide) (fun _ => ?_) (fun c => absurd (by decide) c)
            refine lv_iconst (v := iZ 0) hx hb dX12_aRock_151 (by decide) ?_
            exact EWz hx hb hr hlocks hS (fun i => [0, (I_234 1), (I_234 2), (I_234 3), (I_234 4), (I_234 5), (I_234 6)].getD i 0, fun i => [0].getD i 0, fun i => [(F_236 0)].getD i (fun _ => 0), fun i => [f_213].getD i (fun _ => 0)) rfl rfl ⟨(show (0 ≤ ((I_234 2) : Int) ∧ ((I_234 2) : Int) ≤ (I_234 3)) ∧ (((I_234 3) : Int) ≤ Msz ∧ (Msz : Int) ≤ 900) ∧ (0 ≤ ((I_234 1) : Int) ∧ ((I_234 1) : Int) ≤ 4) ∧ (((I_234 1) : Int) = 0 ∨ ((I_234 2) : Int) < (I_234 3)) ∧ (-1 ≤ ((I_234 4) : Int) ∧ ((I_234 4) : Int) ≤ 100000) from (by first | with_reducible assumption | exact ⟨⟨by omega, by omega⟩, ⟨by omega, by omega⟩, ⟨by omega, by omega⟩, by omega, by omega, by omega⟩)), (show (0 ≤ ((I_234 5) : Int) ∧ ((I_234 5) : Int) ≤ 9) ∧ ((0 : Int) = 0 → 1 ≤ ((I_234 5) : Int)) ∧ Mfr ≤ (I_234 2) from ⟨⟨by omega, by omega⟩, fun _ => by omega, by omega⟩), (show ((0 : Int) = 0 ∧ KP (F_236 0) Af) ∨ ((0 : Int) = 1 ∧ KP (F_236 0) Af ∧ NSZ (F_236 0) ∧ Mfr < (I_234 2)) from (Or.inl ⟨rfl, kp_243⟩))⟩ (hP.sub [1, 2, 3, 0] rfl) (hD.sub [1, 2, 3, 0] rfl rfl) dX12_aRock_152
          ·
            rw [qt_242]
            have kp_245 := KP.up ht_242 ⟨by omega, by omega⟩ ⟨by omega, by omega⟩
            have nk_246 : NSK _ _ 0 := NSK.up (w := 0) hnk ht_242 (by omega) (by omega)
            refine lv_if_eq (tgt := 151) hx hb dX12_aRock_102 (by decide) (fun c => absurd c (by decide)) (fun _ => ?_)
            exact HJ105 (I_234 1) (I_234 2) (I_234 3) (I_234 4) (I_234 5) (I_234 6) (F_236 0) f_213 _ _ _ (show (0 ≤ ((I_234 2) : Int) ∧ ((I_234 2) : Int) ≤ (I_234 3)) ∧ (((I_234 3) : Int) ≤ Msz ∧ (Msz : Int) ≤ 900) ∧ (0 ≤ ((I_234 1) : Int) ∧ ((I_234 1) : Int) ≤ 4) ∧ (((I_234 1) : Int) = 0 ∨ ((I_234 2) : Int) < (I_234 3)) ∧ (-1 ≤ ((I_234 4) : Int) ∧ ((I_234 4) : Int) ≤ 100000) from (by first | with_reducible assumption | exact ⟨⟨by omega, by omega⟩, ⟨by omega, by omega⟩, ⟨by omega, by omega⟩, by omega, by omega, by omega⟩)) (show 0 ≤ ((I_234 5) : Int) ∧ ((I_234 5) : Int) ≤ 9 from ⟨by omega, by omega⟩) (show KP (F_236 0) Af from kp_245) (show Mfr < (I_234 2) from (by omega)) (show NSK (F_236 0) (gz Af 3560) 0 from nk_246) (hP.sub [1, 2, 3, 0] rfl) (hD.sub [1, 2, 3, 0] rfl rfl) hS (lv_sub hl [0, 1, 2] rfl)
      ·
        have c_205 := mt (zeq (x := iZ (I_199 0)) (y := iZ (-1)) rfl rfl ⟨by omega, by omega⟩ ⟨by omega, by omega⟩).mpr c_205
        refine lv_aload_n hx hb dX12_aRock_61 rfl (lv_at hl 2 rfl) ?_
        refine lv_iconst (v := iZ 3) hx hb dX12_aRock_62 (by decide) ?_
        refine CWV (As := [.int (iZ 3)]) (rest := []) (wc := [(hm, .inr (12, [.ref Ma, .ref Mn, .int (iZ Mst), .long Mtp, .long Mbt, .ref Ms, .ref My, .ref Mt, .ref Mp, .ref Mx, .int (iZ Mtd), .int (iZ Msz), .int (iZ (I_174 1)), .int (iZ (I_174 2)), .int (iZ (I_174 3)), .int (iZ (I_174 4)), .int (iZ Mfk), .int (iZ Mfp), .int (iZ Mfs), .int (iZ Mse), .int (iZ Mlt), .ref Mo, .int (iZ Mdp), .int (iZ Mct), .ref Mk, .ref Ml, .ref Mb, .ref Mh, .ref Mc, .int (iZ Mdr), .int (iZ Mrs), .ref Mz, .ref Mr, .ref Mq, .int (iZ Mit), .int (iZ Mmk)]))]) (wr := [(Ma, .inl (k 1, 5340, .inl Af)), (Mx, .inl (k 0, 900, .inl Xf)), (Mn, .inl (k 2, 36, .inr (.inl Nf)))]) hx hb hml hown hts hKK hP hD hS hA (m_fails l D k hm Ma Mn Ms My Mt Mp Mx Mo Mk Ml Mb Mh Mc Mz Mr Mq Mst Mtd Msz (I_174 1) (I_174 2) (I_174 3) (I_174 4) Mfk Mfp Mfs Mse Mlt Mdp Mct Mdr Mrs Mit Mmk Mtp Mbt 3 ⟨by omega, by omega⟩ ⟨by omega, by omega⟩ ⟨by omega, by omega⟩) ci_X12_fails qm_X12_164 ⟨Nat.le_of_ble_eq_true rfl, Nat.le_of_ble_eq_true rfl⟩ ⟨Nat.le_of_ble_eq_true rfl, Nat.le_of_ble_eq_true rfl⟩ [1] [0, 2, 3] rfl rfl rfl rfl rfl (by decide) 0 rfl rfl rfl hl.1 rfl (Nat.le_of_ble_eq_true rfl) dX12_aRock_63 (fun u_248 H locs hφ hP hD hS => ?_)
        obtain ⟨I_249, L_250, F_251, G_252⟩ := u_248
        have p_254 : 1 ≤ ((I_249 1) : Int) ∧ ((I_249 1) : Int) ≤ 9 := hφ
        refine W.eq (g2 := F0 m 66 ls [.int (iZ 0)]) rfl ?_
        exact EWz hx hb hr hlocks hS (fun i => [0, (I_174 1), (I_174 2), (I_174 3), (I_174 4), (I_249 1), (I_249 2)].getD i 0, fun i => [0].getD i 0, fun i => [Af].getD i (fun _ => 0), fun i => [Nf].getD i (fun _ => 0)) rfl rfl ⟨(show (0 ≤ ((I_174 2) : Int) ∧ ((I_174 2) : Int) ≤ (I_174 3)) ∧ (((I_174 3) : Int) ≤ Msz ∧ (Msz : Int) ≤ 900) ∧ (0 ≤ ((I_174 1) : Int) ∧ ((I_174 1) : Int) ≤ 4) ∧ (((I_174 1) : Int) = 0 ∨ ((I_174 2) : Int) < (I_174 3)) ∧ (-1 ≤ ((I_174 4) : Int) ∧ ((I_174 4) : Int) ≤ 100000) from (by first | with_reducible assumption | exact ⟨⟨by omega, by omega⟩, ⟨by omega, by omega⟩, ⟨by omega, by omega⟩, by omega, by omega, by omega⟩)), (show (0 ≤ ((I_249 1) : Int) ∧ ((I_249 1) : Int) ≤ 9) ∧ ((0 : Int) = 0 → 1 ≤ ((I_249 1) : Int)) ∧ Mfr ≤ (I_174 2) from ⟨⟨by omega, by omega⟩, fun _ => by omega, by omega⟩), (show ((0 : Int) = 0 ∧ KP Af Af) ∨ ((0 : Int) = 1 ∧ KP Af Af ∧ NSZ Af ∧ Mfr < (I_174 2)) from (Or.inl ⟨rfl, (KP.rf Af)⟩))⟩ (hP.sub [3, 1, 0, 2] rfl) (hD.sub [3, 1, 0, 2] rfl rfl) dX12_aRock_66
  ·
    have c_172 := (zeq (x := iZ (gz Af 3560)) (y := iZ 6) rfl rfl ⟨by omega, by omega⟩ ⟨by omega, by omega⟩).mp c_172
    refine lv_aload_n hx hb dX12_aRock_24 rfl (lv_at hl 2 rfl) ?_
    refine lv_bipush (v := iZ 6) hx hb dX12_aRock_25 (by decide) ?_
    refine CWV (As := [.int (iZ 6)]) (rest := []) (wc := [(hm, .inr (12, [.ref Ma, .ref Mn, .int (iZ Mst), .long Mtp, .long Mbt, .ref Ms, .ref My, .ref Mt, .ref Mp, .ref Mx, .int (iZ Mtd), .int (iZ Msz), .int (iZ Mtk), .int (iZ Mfr), .int (iZ Men), .int (iZ Mva), .int (iZ Mfk), .int (iZ Mfp), .int (iZ Mfs), .int (iZ Mse), .int (iZ Mlt), .ref Mo, .int (iZ Mdp), .int (iZ Mct), .ref Mk, .ref Ml, .ref Mb, .ref Mh, .ref Mc, .int (iZ Mdr), .int (iZ Mrs), .ref Mz, .ref Mr, .ref Mq, .int (iZ Mit), .int (iZ Mmk)]))]) (wr := [(Mx, .inl (k 0, 900, .inl Xf)), (Ma, .inl (k 1, 5340, .inl Af)), (Mn, .inl (k 2, 36, .inr (.inl Nf)))]) hx hb hml hown hts hKK hP hD hS hA (m_fails l D k hm Ma Mn Ms My Mt Mp Mx Mo Mk Ml Mb Mh Mc Mz Mr Mq Mst Mtd Msz Mtk Mfr Men Mva Mfk Mfp Mfs Mse Mlt Mdp Mct Mdr Mrs Mit Mmk Mtp Mbt 6 ⟨by omega, by omega⟩ ⟨by omega, by omega⟩ ⟨by omega, by omega⟩) ci_X12_fails qm_X12_164 ⟨Nat.le_of_ble_eq_true rfl, Nat.le_of_ble_eq_true rfl⟩ ⟨Nat.le_of_ble_eq_true rfl, Nat.le_of_ble_eq_true rfl⟩ [0] [1, 2, 3] rfl rfl rfl rfl rfl (by decide) 0 rfl rfl rfl hl.1 rfl (Nat.le_of_ble_eq_true rfl) dX12_aRock_27 (fun u_255 H locs hφ hP hD hS => ?_)
    obtain ⟨I_256, L_257, F_258, G_259⟩ := u_255
    have p_261 : 1 ≤ ((I_256 1) : Int) ∧ ((I_256 1) : Int) ≤ 9 := hφ
    refine W.eq (g2 := F0 m 30 ls [.int (iZ 0)]) rfl ?_
    exact EWz hx hb hr hlocks hS (fun i => [0, Mtk, Mfr, Men, Mva, (I_256 1), (I_256 2)].getD i 0, fun i => [0].getD i 0, fun i => [Af].getD i (fun _ => 0), fun i => [Nf].getD i (fun _ => 0)) rfl rfl ⟨(show (0 ≤ (Mfr : Int) ∧ (Mfr : Int) ≤ Men) ∧ ((Men : Int) ≤ Msz ∧ (Msz : Int) ≤ 900) ∧ (0 ≤ (Mtk : Int) ∧ (Mtk : Int) ≤ 4) ∧ ((Mtk : Int) = 0 ∨ (Mfr : Int) < Men) ∧ (-1 ≤ (Mva : Int) ∧ (Mva : Int) ≤ 100000) from (by first | with_reducible assumption | exact ⟨⟨by omega, by omega⟩, ⟨by omega, by omega⟩, ⟨by omega, by omega⟩, by omega, by omega, by omega⟩)), (show (0 ≤ ((I_256 1) : Int) ∧ ((I_256 1) : Int) ≤ 9) ∧ ((0 : Int) = 0 → 1 ≤ ((I_256 1) : Int)) ∧ Mfr ≤ Mfr from ⟨⟨by omega, by omega⟩, fun _ => by omega, by omega⟩), (show ((0 : Int) = 0 ∧ KP Af Af) ∨ ((0 : Int) = 1 ∧ KP Af Af ∧ NSZ Af ∧ Mfr < Mfr) from (Or.inl ⟨rfl, (KP.rf Af)⟩))⟩ (hP.sub [3, 0, 1, 2] rfl) (hD.sub [3, 0, 1, 2] rfl rfl) dX12_aRock_30
