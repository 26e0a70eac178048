section
theorem yw_7 {w : Int} (h : w = 15 ∨ w = 16 ∨ w = 17 ∨ w = 18 ∨ w = 19 ∨ w = 22 ∨ w = 24 ∨ w = 23) (n : ¬ w = 23) : w = 15 ∨ w = 16 ∨ w = 17 ∨ w = 18 ∨ w = 19 ∨ w = 22 ∨ w = 24 := by omega
theorem rf_lt {T : Int → Int} {p fr en tk va : Int} (h : RFX T p fr en tk va) (k : xKd T p = 1) : p < xEn T p := by
  obtain ⟨⟨a, b⟩, c, d, -, -, g⟩ := h
  rw [k] at d
  have e : tkm 1 = 2 := by decide
  omega
theorem yw_rg {w : Int} (h : w = 15 ∨ w = 16 ∨ w = 17 ∨ w = 18 ∨ w = 19 ∨ w = 22 ∨ w = 24 ∨ w = 23) : 15 ≤ w ∧ w ≤ 24 := by omega
theorem yw_8 {w : Int} (h : w = 15 ∨ w = 16 ∨ w = 17 ∨ w = 18 ∨ w = 19 ∨ w = 22 ∨ w = 24) : w = 15 ∨ w = 16 ∨ w = 17 ∨ w = 18 ∨ w = 19 ∨ w = 22 ∨ w = 24 ∨ w = 23 := by omega
theorem yw_n {w : Int} (h : w = 15 ∨ w = 16 ∨ w = 17 ∨ w = 18 ∨ w = 19 ∨ w = 22 ∨ w = 24) : ¬ w = 23 := by omega
theorem yw_78 {w : Int} (h : w = 15 ∨ w = 16 ∨ w = 17 ∨ w = 18 ∨ w = 19 ∨ w = 22 ∨ w = 24 ∨ w = 23) : (w = 15 ∨ w = 16 ∨ w = 17 ∨ w = 18 ∨ w = 19 ∨ w = 22 ∨ w = 24) ∨ w = 23 := by omega
theorem yo_1 {a : Int} {O L N1 N2 : Prop} (h : (a = 1 ∧ O ∧ L) ∨ (a = 0 ∧ N1 ∧ N2)) (e : ¬ a = 0) : O := by
  rcases h with h | h
  · exact h.2.1
  · exact absurd h.1 e
theorem yo_0 {a : Int} {X Y L : Prop} (h : (a = 1 ∧ (X ∨ Y) ∧ L) ∨ (a = 0 ∧ ¬ X ∧ ¬ Y)) (e : ¬ a = 1) : ¬ (X ∨ Y) := by
  rcases h with h | h
  · exact absurd h.1 e
  · exact fun q => q.elim h.2.1 h.2.2
theorem yo_7 {a d : Int} {X Y : Prop} (h : (a = 1 ∧ (X ∨ Y) ∧ d < 3) ∨ (a = 0 ∧ ¬ X ∧ ¬ Y)) : ¬ ((X ∨ Y) ∧ 3 ≤ d) := by
  rcases h with h | h
  · exact fun q => by have := h.2.2; have := q.2; omega
  · exact fun q => q.1.elim h.2.1 h.2.2
set_option maxHeartbeats 4000000 in
set_option maxRecDepth 100000 in
theorem y_yearStep (l : Launch) (D : va_G) (k : Nat → ClassId) (sa sv : Nat) (hm : Nat) (Ma : Nat) (Mn : Nat) (Ms : Nat) (My : Nat) (Mt : Nat) (Mp : Nat) (Mx : Nat) (Mo : Nat) (Mk : Nat) (Ml : Nat) (Mb : Nat) (Mh : Nat) (Mc : Nat) (Mz : Nat) (Mr : Nat) (Mq : Nat) (Mst : Int) (Mtd : Int) (Msz : Int) (Mtk : Int) (Mfr : Int) (Men : Int) (Mva : Int) (Mfk : Int) (Mfp : Int) (Mfs : Int) (Mse : Int) (Mlt : Int) (Mdp : Int) (Mct : Int) (Mdr : Int) (Mrs : Int) (Mit : Int) (Mmk : Int) (Mtp : Int64) (Mbt : Int64) (Xf : Nat → Int32) (Af : Nat → Int32) (Of : Nat → Int32) (Nf : Nat → Int64) (cu : Int) (n : Int) (N : Int → Int) (W0 : Int → Int) (A0 : Int → Int) (B0 : Int → Int) (C0 : Int → Int) (P0 : Int → Int) (O0 : Int → Int) (hTI : (0 ≤ (Mfr : Int) ∧ (Mfr : Int) ≤ Men) ∧ ((Men : Int) ≤ Msz ∧ (Msz : Int) ≤ 900) ∧ (0 ≤ (Mtk : Int) ∧ (Mtk : Int) ≤ 4) ∧ ((Mtk : Int) ≤ 4 * (Men - Mfr)) ∧ (-1 ≤ (Mva : Int) ∧ (Mva : Int) ≤ 100000)) (hf0 : Mfs = 0) (hrf : RFX (tX Xf Msz) cu Mfr Men Mtk Mva) (hn9 : gz Af 0 = n ∧ 0 ≤ n ∧ n ≤ 6) (hns0 : xNr Nf 0 N n) (hYL : YRL Af Of Mdp W0 A0 B0 C0 P0 O0) (hYV : YV_ n (gz Af 3565, Mct, Mdp, W0, A0, B0, C0, P0, O0)) : SD (σ := ((Int × Int × Int × Int × Int × Int × Int × Int × Int) × (Int64) × ((Nat → Int32) × (Nat → Int32)) × (Unit))) sa sv l yX12_yearStep cX12_yearStep 6 (some .boolean) 10 D k [.ref hm] [(hm, .inr (12, [.ref Ma, .ref Mn, .int (iZ Mst), .long Mtp, .long Mbt, .ref Ms, .ref My, .ref Mt, .ref Mp, .ref Mx, .int (iZ Mtd), .int (iZ Msz), .int (iZ Mtk), .int (iZ Mfr), .int (iZ Men), .int (iZ Mva), .int (iZ Mfk), .int (iZ Mfp), .int (iZ Mfs), .int (iZ Mse), .int (iZ Mlt), .ref Mo, .int (iZ Mdp), .int (iZ Mct), .ref Mk, .ref Ml, .ref Mb, .ref Mh, .ref Mc, .int (iZ Mdr), .int (iZ Mrs), .ref Mz, .ref Mr, .ref Mq, .int (iZ Mit), .int (iZ Mmk)])), (Mx, .inl (k 0, 900, .inl Xf)), (Ma, .inl (k 1, 5340, .inl Af)), (Mn, .inl (k 2, 36, .inr (.inl Nf))), (Mo, .inl (k 1, 3, .inl Of))] (fun u => some (.int (iZ u.1.1))) (fun u => ((0 ≤ (u.1.2.2.1 : Int) ∧ (u.1.2.2.1 : Int) ≤ u.1.2.2.2.1) ∧ ((u.1.2.2.2.1 : Int) ≤ Msz ∧ (Msz : Int) ≤ 900) ∧ (0 ≤ (u.1.2.1 : Int) ∧ (u.1.2.1 : Int) ≤ 4) ∧ ((u.1.2.1 : Int) ≤ 4 * (u.1.2.2.2.1 - u.1.2.2.1)) ∧ (-1 ≤ (u.1.2.2.2.2.1 : Int) ∧ (u.1.2.2.2.2.1 : Int) ≤ 100000)) ∧ (0 ≤ (u.1.2.2.2.2.2.1 : Int) ∧ (u.1.2.2.2.2.2.1 : Int) ≤ 9) ∧ (KP u.2.2.1.1 Af) ∧ (((u.1.1 : Int) = 1 ∧ ∃ (q9 : Int) (W9 A9 B9 C9 P9 O9 : Int → Int), xYp (tX Xf Msz) N n cu (gz Af 3565, Mct, Mdp, W0, A0, B0, C0, P0, O0) = .inr (q9, (gz u.2.2.1.1 3565, u.1.2.2.2.2.2.2.2.2, u.1.2.2.2.2.2.2.2.1, W9, A9, B9, C9, P9, O9)) ∧ cu < q9 ∧ RFX (tX Xf Msz) q9 u.1.2.2.1 u.1.2.2.2.1 u.1.2.1 u.1.2.2.2.2.1 ∧ YRL u.2.2.1.1 u.2.2.1.2 u.1.2.2.2.2.2.2.2.1 W9 A9 B9 C9 P9 O9 ∧ (u.1.2.2.2.2.2.1 : Int) = 0 ∧ u.1.2.2.2.2.2.2.1 = Mfp) ∨ ((u.1.1 : Int) = 0 ∧ xYp (tX Xf Msz) N n cu (gz Af 3565, Mct, Mdp, W0, A0, B0, C0, P0, O0) = .inl (u.1.2.2.2.2.2.1, u.1.2.2.2.2.2.2.1) ∧ 1 ≤ (u.1.2.2.2.2.2.1 : Int))) ∧ (0 ≤ (u.1.2.2.2.2.2.2.2.2 : Int) ∧ (u.1.2.2.2.2.2.2.2.2 : Int) ≤ 31)) (fun u => [(hm, .inr (12, [.ref Ma, .ref Mn, .int (iZ Mst), .long Mtp, .long Mbt, .ref Ms, .ref My, .ref Mt, .ref Mp, .ref Mx, .int (iZ Mtd), .int (iZ Msz), .int (iZ u.1.2.1), .int (iZ u.1.2.2.1), .int (iZ u.1.2.2.2.1), .int (iZ u.1.2.2.2.2.1), .int (iZ Mfk), .int (iZ u.1.2.2.2.2.2.2.1), .int (iZ u.1.2.2.2.2.2.1), .int (iZ Mse), .int (iZ Mlt), .ref Mo, .int (iZ u.1.2.2.2.2.2.2.2.1), .int (iZ u.1.2.2.2.2.2.2.2.2), .ref Mk, .ref Ml, .ref Mb, .ref Mh, .ref Mc, .int (iZ Mdr), .int (iZ Mrs), .ref Mz, .ref Mr, .ref Mq, .int (iZ Mit), .int (iZ Mmk)])), (Mx, .inl (k 0, 900, .inl Xf)), (Ma, .inl (k 1, 5340, .inl u.2.2.1.1)), (Mn, .inl (k 2, 36, .inr (.inl Nf))), (Mo, .inl (k 1, 3, .inl u.2.2.1.2))]) := by
  refine MSS (by decide) (Nat.le_of_ble_eq_true rfl) (fun p e s m below meth c ls A hx hb hml hr hlocks hin hts hown hKK hP hD hS hA hSY hRR hl => ?_)
  have hK := hKK.1
  have hl : lv_has ls 6 [(0, .ref hm)] := hl
  obtain ⟨⟨ar_1, br_1⟩, cr_1, dr_1, er_1, gr_1, hr_1⟩ := id hrf
  have kr_1 := tk_1 dr_1 (xKd_rg _ _)
  have wr_1 := xKw_rg (tX Xf Msz) cu
  obtain ⟨hn90, hn91, hn92⟩ := id hn9
  obtain ⟨⟨v1, v2, v3, v4, v0⟩, v5, v6, v7, v8, v9⟩ := id hYV
  have HJ197 : ∀ (Mtky : Int) (Mfry : Int) (Meny : Int) (Mvay : Int) (Mfsy : Int) (Mfpy : Int) (Afy : Nat → Int32) (Mcty : Int) (op1 : Int) (kk : Int) (jp : Int) (ja : Int) (jb : Int) (jc9 : Int) (H : Heap) (locs : List Loc) (ls : Array Slot), ((15 ≤ kk ∧ kk ≤ 22) ∧ (0 ≤ op1 ∧ op1 ≤ 1)) → (kk = xPm (xKw (tX Xf Msz) cu)) → ((op1 = 1 ∧ (kk = 19 ∨ kk = 20) ∧ Mdp < 3) ∨ (op1 = 0 ∧ ¬ kk = 19 ∧ ¬ kk = 20)) → (kk = 21 → 0 < Mdp) → ((kk = 21 ∧ (Mcty : Int) = Mct) ∨ (¬ kk = 21 ∧ (Mcty : Int) = Mct + 1 ∧ Mct < 30)) → ((0 ≤ (Mfry : Int) ∧ (Mfry : Int) ≤ Meny) ∧ ((Meny : Int) ≤ Msz ∧ (Msz : Int) ≤ 900) ∧ (0 ≤ (Mtky : Int) ∧ (Mtky : Int) ≤ 4) ∧ ((Mtky : Int) ≤ 4 * (Meny - Mfry)) ∧ (-1 ≤ (Mvay : Int) ∧ (Mvay : Int) ≤ 100000)) → ((Mfsy : Int) = 0 ∧ Mfpy = Mfp) → (RFX (tX Xf Msz) jp Mfry Meny Mtky Mvay) → (cu < jp) → (∀ e : Int, 0 ≤ e → (e < 3560 ∨ (4080 ≤ e ∧ e < 4080 + 6 * gz Af 3565)) → gz Afy e = gz Af e) → (gz Afy 3565 = gz Af 3565 + 1) → (gz Afy (4080 + (6 * (gz Af 3565))) = yCd (xKw (tX Xf Msz) cu) ja) → (yRS Afy (4080 + (6 * (gz Af 3565))) (xKw (tX Xf Msz) cu) ja jb jc9) → (gz Afy ((4080 + (6 * (gz Af 3565))) + 4) = 0) → (xRe (tX Xf Msz) N n (xKw (tX Xf Msz) cu) (xEn (tX Xf Msz) cu) = .inr (jp, ja, jb, jc9)) → va_P D vwCl [(hm, .inr (12, [.ref Ma, .ref Mn, .int (iZ Mst), .long Mtp, .long Mbt, .ref Ms, .ref My, .ref Mt, .ref Mp, .ref Mx, .int (iZ Mtd), .int (iZ Msz), .int (iZ Mtky), .int (iZ Mfry), .int (iZ Meny), .int (iZ Mvay), .int (iZ Mfk), .int (iZ Mfpy), .int (iZ Mfsy), .int (iZ Mse), .int (iZ Mlt), .ref Mo, .int (iZ Mdp), .int (iZ Mcty), .ref Mk, .ref Ml, .ref Mb, .ref Mh, .ref Mc, .int (iZ Mdr), .int (iZ Mrs), .ref Mz, .ref Mr, .ref Mq, .int (iZ Mit), .int (iZ Mmk)])), (Mx, .inl (k 0, 900, .inl Xf)), (Ma, .inl (k 1, 5340, .inl Afy)), (Mn, .inl (k 2, 36, .inr (.inl Nf))), (Mo, .inl (k 1, 3, .inl Of))] H → va_D A [(hm, .inr (12, [.ref Ma, .ref Mn, .int (iZ Mst), .long Mtp, .long Mbt, .ref Ms, .ref My, .ref Mt, .ref Mp, .ref Mx, .int (iZ Mtd), .int (iZ Msz), .int (iZ Mtky), .int (iZ Mfry), .int (iZ Meny), .int (iZ Mvay), .int (iZ Mfk), .int (iZ Mfpy), .int (iZ Mfsy), .int (iZ Mse), .int (iZ Mlt), .ref Mo, .int (iZ Mdp), .int (iZ Mcty), .ref Mk, .ref Ml, .ref Mb, .ref Mh, .ref Mc, .int (iZ Mdr), .int (iZ Mrs), .ref Mz, .ref Mr, .ref Mq, .int (iZ Mit), .int (iZ Mmk)])), (Mx, .inl (k 0, 900, .inl Xf)), (Ma, .inl (k 1, 5340, .inl Afy)), (Mn, .inl (k 2, 36, .inr (.inl Nf))), (Mo, .inl (k 1, 3, .inl Of))] → va_S A s.heap H locs → lv_has ls 6 [(4, .int (iZ op1)), (3, .int (iZ (4080 + (6 * (gz Af 3565))))), (2, .int (iZ (gz Af 3565))), (1, .int (iZ kk)), (0, .ref hm)] → W p l e (rj 10 0 0) s m [.ref hm].toArray below meth c H locs 0 0 (MQ below (QW (σ := ((Int × Int × Int × Int × Int × Int × Int × Int × Int) × (Int64) × ((Nat → Int32) × (Nat → Int32)) × (Unit))) (fun u => some (.int (iZ u.1.1))) (fun u => ((0 ≤ (u.1.2.2.1 : Int) ∧ (u.1.2.2.1 : Int) ≤ u.1.2.2.2.1) ∧ ((u.1.2.2.2.1 : Int) ≤ Msz ∧ (Msz : Int) ≤ 900) ∧ (0 ≤ (u.1.2.1 : Int) ∧ (u.1.2.1 : Int) ≤ 4) ∧ ((u.1.2.1 : Int) ≤ 4 * (u.1.2.2.2.1 - u.1.2.2.1)) ∧ (-1 ≤ (u.1.2.2.2.2.1 : Int) ∧ (u.1.2.2.2.2.1 : Int) ≤ 100000)) ∧ (0 ≤ (u.1.2.2.2.2.2.1 : Int) ∧ (u.1.2.2.2.2.2.1 : Int) ≤ 9) ∧ (KP u.2.2.1.1 Af) ∧ (((u.1.1 : Int) = 1 ∧ ∃ (q9 : Int) (W9 A9 B9 C9 P9 O9 : Int → Int), xYp (tX Xf Msz) N n cu (gz Af 3565, Mct, Mdp, W0, A0, B0, C0, P0, O0) = .inr (q9, (gz u.2.2.1.1 3565, u.1.2.2.2.2.2.2.2.2, u.1.2.2.2.2.2.2.2.1, W9, A9, B9, C9, P9, O9)) ∧ cu < q9 ∧ RFX (tX Xf Msz) q9 u.1.2.2.1 u.1.2.2.2.1 u.1.2.1 u.1.2.2.2.2.1 ∧ YRL u.2.2.1.1 u.2.2.1.2 u.1.2.2.2.2.2.2.2.1 W9 A9 B9 C9 P9 O9 ∧ (u.1.2.2.2.2.2.1 : Int) = 0 ∧ u.1.2.2.2.2.2.2.1 = Mfp) ∨ ((u.1.1 : Int) = 0 ∧ xYp (tX Xf Msz) N n cu (gz Af 3565, Mct, Mdp, W0, A0, B0, C0, P0, O0) = .inl (u.1.2.2.2.2.2.1, u.1.2.2.2.2.2.2.1) ∧ 1 ≤ (u.1.2.2.2.2.2.1 : Int))) ∧ (0 ≤ (u.1.2.2.2.2.2.2.2.2 : Int) ∧ (u.1.2.2.2.2.2.2.2.2 : Int) ≤ 31)) (fun u => [(hm, .inr (12, [.ref Ma, .ref Mn, .int (iZ Mst), .long Mtp, .long Mbt, .ref Ms, .ref My, .ref Mt, .ref Mp, .ref Mx, .int (iZ Mtd), .int (iZ Msz), .int (iZ u.1.2.1), .int (iZ u.1.2.2.1), .int (iZ u.1.2.2.2.1), .int (iZ u.1.2.2.2.2.1), .int (iZ Mfk), .int (iZ u.1.2.2.2.2.2.2.1), .int (iZ u.1.2.2.2.2.2.1), .int (iZ Mse), .int (iZ Mlt), .ref Mo, .int (iZ u.1.2.2.2.2.2.2.2.1), .int (iZ u.1.2.2.2.2.2.2.2.2), .ref Mk, .ref Ml, .ref Mb, .ref Mh, .ref Mc, .int (iZ Mdr), .int (iZ Mrs), .ref Mz, .ref Mr, .ref Mq, .int (iZ Mit), .int (iZ Mmk)])), (Mx, .inl (k 0, 900, .inl Xf)), (Ma, .inl (k 1, 5340, .inl u.2.2.1.1)), (Mn, .inl (k 2, 36, .inr (.inl Nf))), (Mo, .inl (k 1, 3, .inl u.2.2.1.2))]) D A) [.ref hm].toArray s 0 0 A) (F0 m 197 ls []) := by
    intro Mtky Mfry Meny Mvay Mfsy Mfpy Afy Mcty op1 kk jp ja jb jc9 H locs ls jk jx jo jd jc jTI jFS jrf jpl jA j5 jw jrs j4 jre hP hD hS hl
    obtain ⟨py1, py2, py3, py4⟩ := xPm_yr (k := (xKw (tX Xf Msz) cu)) (xKw_rg _ _)
    rw [← jx] at py1 py2 py3 py4
    have hy8 : Unit → ((xKw (tX Xf Msz) cu) = 15 ∨ (xKw (tX Xf Msz) cu) = 16 ∨ (xKw (tX Xf Msz) cu) = 17 ∨ (xKw (tX Xf Msz) cu) = 18 ∨ (xKw (tX Xf Msz) cu) = 19 ∨ (xKw (tX Xf Msz) cu) = 22 ∨ (xKw (tX Xf Msz) cu) = 24 ∨ (xKw (tX Xf Msz) cu) = 23) := fun _ => py1.mp jk.1
    have hy23 : Unit → (kk = 21 ↔ (xKw (tX Xf Msz) cu) = 23) := fun _ => py2
    clear py1 py2
    have hyo : (op1 = 1 ∧ ((xKw (tX Xf Msz) cu) = 19 ∨ (xKw (tX Xf Msz) cu) = 22) ∧ Mdp < 3) ∨ (op1 = 0 ∧ ¬ (xKw (tX Xf Msz) cu) = 19 ∧ ¬ (xKw (tX Xf Msz) cu) = 22) := (by rcases jo with ⟨a1, a2, a3⟩ | ⟨a1, a2, a3⟩; exact Or.inl ⟨a1, a2.elim (fun h => Or.inl (py3.mp h)) (fun h => Or.inr (py4.mp h)), a3⟩; exact Or.inr ⟨a1, fun h => a2 (py3.mpr h), fun h => a3 (py4.mpr h)⟩)
    replace hyo : Unit → _ := fun _ => hyo
    clear py3 py4
    replace jo : Unit → _ := fun _ => jo
    replace jd : Unit → _ := fun _ => jd
    replace jc : Unit → _ := fun _ => jc
    obtain ⟨⟨ar_2, br_2⟩, cr_2, dr_2, er_2, gr_2, hr_2⟩ := id jrf
    have kr_2 := tk_1 dr_2 (xKd_rg _ _)
    have wr_2 := xKw_rg (tX Xf Msz) jp
    refine lv_iload hx hb dX12_yearStep_197 (lv_at hl 0 rfl) ?_
    refine lv_if_eq (tgt := 222) hx hb dX12_yearStep_199 rfl (fun c_3 => ?_) (fun c_3 => ?_)
    ·
      have c_3 := (zeq (x := iZ op1) (y := iZ 0) rfl rfl ⟨by omega, by omega⟩ wn_0).mp c_3
      refine lv_iload_n hx hb dX12_yearStep_222 rfl (lv_at hl 3 rfl) ?_
      refine lv_bipush (v := iZ 21) hx hb dX12_yearStep_223 bip_21 ?_
      refine lv_icmp_ne (tgt := 279) hx hb dX12_yearStep_225 rfl (fun c_4 => ?_) (fun c_4 => ?_)
      ·
        have c_4 := mt (zeq (x := iZ kk) (y := iZ 21) rfl rfl ⟨by omega, by omega⟩ wn_21).mpr c_4
        refine lv_aload_n hx hb dX12_yearStep_279 rfl (lv_at hl 4 rfl) ?_
        refine lv_bipush (v := iZ 59) hx hb dX12_yearStep_280 bip_59 ?_
        refine CWV (As := [.int (iZ 59)]) (rest := []) (wc := _) (wr := [(Ma, .inl (k 1, 5340, .inl Afy)), (Mn, .inl (k 2, 36, .inr (.inl Nf))), (Mo, .inl (k 1, 3, .inl Of))]) hx hb hml hown hts hKK hP hD hS hA (y_wantSign l D k hm Ma Mn Ms My Mt Mp Mx Mo Mk Ml Mb Mh Mc Mz Mr Mq Mst Mtd Msz Mtky Mfry Meny Mvay Mfk Mfpy Mfsy Mse Mlt Mdp Mcty Mdr Mrs Mit Mmk Mtp Mbt Xf 59 jp (by first | with_reducible assumption | exact (by first | with_reducible assumption | exact ⟨⟨by omega, by omega⟩, ⟨by omega, by omega⟩, ⟨by omega, by omega⟩, by omega, by omega, by omega⟩)) (by omega) jrf ⟨by omega, by omega⟩) ci_X12_wantSign qm_X12_212 ⟨Nat.le_of_ble_eq_true rfl, Nat.le_of_ble_eq_true rfl⟩ ⟨Nat.le_of_ble_eq_true rfl, Nat.le_of_ble_eq_true rfl⟩ [0, 1] [2, 3, 4] rfl rfl rfl rfl rfl (dj rfl) 0 rfl rfl rfl hl.1 rfl (Nat.le_of_ble_eq_true rfl) dX12_yearStep_282 (fun u_5 H locs hφ hP hD hS => ?_)
        obtain ⟨p_6, p_7, p_8⟩ : ((0 ≤ (u_5.1.2.2.1 : Int) ∧ (u_5.1.2.2.1 : Int) ≤ u_5.1.2.2.2.1) ∧ ((u_5.1.2.2.2.1 : Int) ≤ Msz ∧ (Msz : Int) ≤ 900) ∧ (0 ≤ (u_5.1.2.1 : Int) ∧ (u_5.1.2.1 : Int) ≤ 4) ∧ ((u_5.1.2.1 : Int) ≤ 4 * (u_5.1.2.2.2.1 - u_5.1.2.2.1)) ∧ (-1 ≤ (u_5.1.2.2.2.2.1 : Int) ∧ (u_5.1.2.2.2.2.1 : Int) ≤ 100000)) ∧ (0 ≤ (u_5.1.2.2.2.2.2.1 : Int) ∧ (u_5.1.2.2.2.2.2.1 : Int) ≤ 9) ∧ (((u_5.1.1 : Int) = 1 ∧ ∃ q9 : Int, xTs (tX Xf Msz) 59 jp = .inr q9 ∧ jp < q9 ∧ RFX (tX Xf Msz) q9 u_5.1.2.2.1 u_5.1.2.2.2.1 u_5.1.2.1 u_5.1.2.2.2.2.1 ∧ (u_5.1.2.2.2.2.2.1 : Int) = 0 ∧ u_5.1.2.2.2.2.2.2 = Mfpy) ∨ ((u_5.1.1 : Int) = 0 ∧ xTs (tX Xf Msz) 59 jp = .inl (u_5.1.2.2.2.2.2.1, u_5.1.2.2.2.2.2.2) ∧ 1 ≤ (u_5.1.2.2.2.2.2.1 : Int))) := hφ
        refine W.eq (g2 := F0 m 285 ls [.int (iZ u_5.1.1)]) rfl ?_
        rcases p_8 with ⟨qt_9, cut_9, st_9, lt_9, xt_9, ut_9, vt_9⟩ | ⟨qt_9, st_9, bt_9⟩
        ·
          rw [qt_9]
          obtain ⟨⟨ar_10, br_10⟩, cr_10, dr_10, er_10, gr_10, hr_10⟩ := id xt_9
          have kr_10 := tk_1 dr_10 (xKd_rg _ _)
          have wr_10 := xKw_rg (tX Xf Msz) cut_9
          have jc3 : Mcty = Mct + 1 ∧ Mct < 30 := (by have q9 := jc (); omega)
          exact EWz hx hb hr hlocks hS ((1, u_5.1.2.1, u_5.1.2.2.1, u_5.1.2.2.2.1, u_5.1.2.2.2.2.1, u_5.1.2.2.2.2.2.1, u_5.1.2.2.2.2.2.2, Mdp, Mcty), 0, (Afy, Of), ()) rfl rfl ⟨(show (0 ≤ (u_5.1.2.2.1 : Int) ∧ (u_5.1.2.2.1 : Int) ≤ u_5.1.2.2.2.1) ∧ ((u_5.1.2.2.2.1 : Int) ≤ Msz ∧ (Msz : Int) ≤ 900) ∧ (0 ≤ (u_5.1.2.1 : Int) ∧ (u_5.1.2.1 : Int) ≤ 4) ∧ ((u_5.1.2.1 : Int) ≤ 4 * (u_5.1.2.2.2.1 - u_5.1.2.2.1)) ∧ (-1 ≤ (u_5.1.2.2.2.2.1 : Int) ∧ (u_5.1.2.2.2.2.1 : Int) ≤ 100000) from (by first | with_reducible assumption | exact (by first | with_reducible assumption | exact ⟨⟨by omega, by omega⟩, ⟨by omega, by omega⟩, ⟨by omega, by omega⟩, by omega, by omega, by omega⟩))), (show 0 ≤ (u_5.1.2.2.2.2.2.1 : Int) ∧ (u_5.1.2.2.2.2.2.1 : Int) ≤ 9 from (by omega)), (show KP Afy Af from (fun e h1 h2 => jA e h1 (Or.inl h2))), (show ((1 : Int) = 1 ∧ ∃ (q9 : Int) (W9 A9 B9 C9 P9 O9 : Int → Int), xYp (tX Xf Msz) N n cu (gz Af 3565, Mct, Mdp, W0, A0, B0, C0, P0, O0) = .inr (q9, (gz Afy 3565, Mcty, Mdp, W9, A9, B9, C9, P9, O9)) ∧ cu < q9 ∧ RFX (tX Xf Msz) q9 u_5.1.2.2.1 u_5.1.2.2.2.1 u_5.1.2.1 u_5.1.2.2.2.2.1 ∧ YRL Afy Of Mdp W9 A9 B9 C9 P9 O9 ∧ (u_5.1.2.2.2.2.2.1 : Int) = 0 ∧ u_5.1.2.2.2.2.2.2 = Mfp) ∨ ((1 : Int) = 0 ∧ xYp (tX Xf Msz) N n cu (gz Af 3565, Mct, Mdp, W0, A0, B0, C0, P0, O0) = .inl (u_5.1.2.2.2.2.2.1, u_5.1.2.2.2.2.2.2) ∧ 1 ≤ (u_5.1.2.2.2.2.2.1 : Int)) from (Or.inl ⟨rfl, cut_9, _, _, _, _, _, _, (by rw [j5, show Mcty = Mct + 1 from (by omega)]; exact xYp_k (show ¬ ((xKw (tX Xf Msz) cu) = 19 ∨ (xKw (tX Xf Msz) cu) = 22) from yo_0 (hyo ()) (by omega)) (show ((xKw (tX Xf Msz) cu) = 15 ∨ (xKw (tX Xf Msz) cu) = 16 ∨ (xKw (tX Xf Msz) cu) = 17 ∨ (xKw (tX Xf Msz) cu) = 18 ∨ (xKw (tX Xf Msz) cu) = 19 ∨ (xKw (tX Xf Msz) cu) = 22 ∨ (xKw (tX Xf Msz) cu) = 24) from yw_7 (hy8 ()) (fun h9 => by have y2 := (hy23 ()).mpr h9; omega)) (by omega) jre st_9), by omega, xt_9, YRL.add hYL hYV jA j5 jw jrs j4 (YRL.keep hYL), by omega, by omega⟩)), (show 0 ≤ (Mcty : Int) ∧ (Mcty : Int) ≤ 31 from (by omega))⟩ (hP.sub [3, 4, 0, 1, 2] rfl) (hD.sub [3, 4, 0, 1, 2] rfl rfl) dX12_yearStep_285
        ·
          rw [qt_9]
          have jc3 : Mcty = Mct + 1 ∧ Mct < 30 := (by have q9 := jc (); omega)
          exact EWz hx hb hr hlocks hS ((0, u_5.1.2.1, u_5.1.2.2.1, u_5.1.2.2.2.1, u_5.1.2.2.2.2.1, u_5.1.2.2.2.2.2.1, u_5.1.2.2.2.2.2.2, Mdp, Mcty), 0, (Afy, Of), ()) rfl rfl ⟨(show (0 ≤ (u_5.1.2.2.1 : Int) ∧ (u_5.1.2.2.1 : Int) ≤ u_5.1.2.2.2.1) ∧ ((u_5.1.2.2.2.1 : Int) ≤ Msz ∧ (Msz : Int) ≤ 900) ∧ (0 ≤ (u_5.1.2.1 : Int) ∧ (u_5.1.2.1 : Int) ≤ 4) ∧ ((u_5.1.2.1 : Int) ≤ 4 * (u_5.1.2.2.2.1 - u_5.1.2.2.1)) ∧ (-1 ≤ (u_5.1.2.2.2.2.1 : Int) ∧ (u_5.1.2.2.2.2.1 : Int) ≤ 100000) from (by first | with_reducible assumption | exact (by first | with_reducible assumption | exact ⟨⟨by omega, by omega⟩, ⟨by omega, by omega⟩, ⟨by omega, by omega⟩, by omega, by omega, by omega⟩))), (show 0 ≤ (u_5.1.2.2.2.2.2.1 : Int) ∧ (u_5.1.2.2.2.2.2.1 : Int) ≤ 9 from (by omega)), (show KP Afy Af from (fun e h1 h2 => jA e h1 (Or.inl h2))), (show ((0 : Int) = 1 ∧ ∃ (q9 : Int) (W9 A9 B9 C9 P9 O9 : Int → Int), xYp (tX Xf Msz) N n cu (gz Af 3565, Mct, Mdp, W0, A0, B0, C0, P0, O0) = .inr (q9, (gz Afy 3565, Mcty, Mdp, W9, A9, B9, C9, P9, O9)) ∧ cu < q9 ∧ RFX (tX Xf Msz) q9 u_5.1.2.2.1 u_5.1.2.2.2.1 u_5.1.2.1 u_5.1.2.2.2.2.1 ∧ YRL Afy Of Mdp W9 A9 B9 C9 P9 O9 ∧ (u_5.1.2.2.2.2.2.1 : Int) = 0 ∧ u_5.1.2.2.2.2.2.2 = Mfp) ∨ ((0 : Int) = 0 ∧ xYp (tX Xf Msz) N n cu (gz Af 3565, Mct, Mdp, W0, A0, B0, C0, P0, O0) = .inl (u_5.1.2.2.2.2.2.1, u_5.1.2.2.2.2.2.2) ∧ 1 ≤ (u_5.1.2.2.2.2.2.1 : Int)) from (Or.inr ⟨rfl, xYp_b (show ((xKw (tX Xf Msz) cu) = 15 ∨ (xKw (tX Xf Msz) cu) = 16 ∨ (xKw (tX Xf Msz) cu) = 17 ∨ (xKw (tX Xf Msz) cu) = 18 ∨ (xKw (tX Xf Msz) cu) = 19 ∨ (xKw (tX Xf Msz) cu) = 22 ∨ (xKw (tX Xf Msz) cu) = 24) from yw_7 (hy8 ()) (fun h9 => by have y2 := (hy23 ()).mpr h9; omega)) (by omega) (show ¬ (((xKw (tX Xf Msz) cu) = 19 ∨ (xKw (tX Xf Msz) cu) = 22) ∧ 3 ≤ Mdp) from yo_7 (hyo ())) jre st_9, by omega⟩)), (show 0 ≤ (Mcty : Int) ∧ (Mcty : Int) ≤ 31 from (by omega))⟩ (hP.sub [3, 4, 0, 1, 2] rfl) (hD.sub [3, 4, 0, 1, 2] rfl rfl) dX12_yearStep_285
      ·
        have c_4 := (zeq (x := iZ kk) (y := iZ 21) rfl rfl ⟨by omega, by omega⟩ wn_21).mp c_4
        refine lv_aload_n hx hb dX12_yearStep_228 rfl (lv_at hl 4 rfl) ?_
        refine lv_dup hx hb dX12_yearStep_229 rfl ?_
        refine va_get (D := D) (ci := 12) (v := .int (iZ Mdp)) (C := RX12) (T := TX12) (N := 36) hx hb hts iX12 hown hK hP 0 rfl rfl 22 (bl rfl) (hts _ qf_X12_231) (fun _ h => h) rfl dX12_yearStep_230 ?_
        refine lv_iconst (v := iZ 1) hx hb dX12_yearStep_233 rfl ?_
        refine lv_isub hx hb dX12_yearStep_234 ?_
        refine lv_topi (fun x_11 ex_11 => ?_)
        obtain rfl : x_11 = iZ (Mdp - 1) := ex_11.trans (iZ_sub Mdp 1)
        refine va_put (D := D) (ci := 12) (v := .int (iZ (Mdp - 1))) (ty := .int) (C := RX12) (T := TX12) (N := 36) hx hb hts iX12 tyX12 tyX12_ok nmX12 hown hK hP hD hS 0 rfl rfl 22 (bl rfl) (hts _ qf_X12_231) (fun _ h => h) rfl (by decide +kernel) rfl rfl (Nat.le_of_ble_eq_true rfl) dX12_yearStep_235 (fun H locs hP hD hS => ?_)
        have jd3 : 0 < Mdp := jd () (by omega)
        have hoo := hYL.1 (Mdp - 1) (by omega) (by omega)
        have hoO := v7 (Mdp - 1) (by omega) (by omega)
        refine lv_aload_n hx hb dX12_yearStep_238 rfl (lv_at hl 4 rfl) ?_
        refine va_get (D := D) (ci := 12) (v := .ref Ma) (C := RX12) (T := TX12) (N := 36) hx hb hts iX12 hown hK hP 0 rfl rfl 0 (bl rfl) (hts _ qf_X12_7) (fun _ h => h) rfl dX12_yearStep_239 ?_
        refine lv_iload_n hx hb dX12_yearStep_242 rfl (lv_at hl 1 rfl) ?_
        refine lv_iconst (v := iZ 4) hx hb dX12_yearStep_243 rfl ?_
        refine lv_iadd hx hb dX12_yearStep_244 ?_
        refine lv_topi (fun x_12 ex_12 => ?_)
        obtain rfl : x_12 = iZ ((4080 + (6 * (gz Af 3565))) + 4) := ex_12.trans (iZ_add (4080 + (6 * (gz Af 3565))) 4)
        refine lv_aload_n hx hb dX12_yearStep_245 rfl (lv_at hl 4 rfl) ?_
        refine va_get (D := D) (ci := 12) (v := .ref Mo) (C := RX12) (T := TX12) (N := 36) hx hb hts iX12 hown hK hP 0 rfl rfl 21 (bl rfl) (hts _ qf_X12_44) (fun _ h => h) rfl dX12_yearStep_246 ?_
        refine lv_aload_n hx hb dX12_yearStep_249 rfl (lv_at hl 4 rfl) ?_
        refine va_get (D := D) (ci := 12) (v := .int (iZ (Mdp - 1))) (C := RX12) (T := TX12) (N := 36) hx hb hts iX12 hown hK hP 0 rfl rfl 22 (bl rfl) (hts _ qf_X12_231) (fun _ h => h) rfl dX12_yearStep_250 ?_
        refine va_iald hx hb hK hP 4 1 rfl rfl (zin (e := (Mdp - 1)) (n := 3) ⟨by omega, by omega⟩ (bl rfl)) dX12_yearStep_253 ?_
        refine lv_topi (fun x_13 ex_13 => ?_)
        obtain rfl : x_13 = iZ (gz Of (Mdp - 1)) := ex_13.trans (gz_eq ⟨by omega, by omega⟩)
        have h_14 := gz_rg Of (Mdp - 1)
        refine va_iast hx hb hK hP hD hS 2 1 rfl rfl (zin (e := ((4080 + (6 * (gz Af 3565))) + 4)) (n := 5340) ⟨by omega, by omega⟩ (bl rfl)) dX12_yearStep_254 (fun H locs hP hD hS => ?_)
        obtain ⟨f_15, hf_15⟩ : ∃ gg9, gg9 = upd Afy (iZ ((4080 + (6 * (gz Af 3565))) + 4)).toNatClampNeg (iZ (gz Of (Mdp - 1))) := ⟨_, rfl⟩
        rw [← hf_15] at hP hD
        refine lv_aload_n hx hb dX12_yearStep_255 rfl (lv_at hl 4 rfl) ?_
        refine va_get (D := D) (ci := 12) (v := .ref Ma) (C := RX12) (T := TX12) (N := 36) hx hb hts iX12 hown hK hP 0 rfl rfl 0 (bl rfl) (hts _ qf_X12_7) (fun _ h => h) rfl dX12_yearStep_256 ?_
        refine lv_sipush (v := iZ 4080) hx hb dX12_yearStep_259 sip_4080 ?_
        refine lv_bipush (v := iZ 6) hx hb dX12_yearStep_262 bip_6 ?_
        refine lv_aload_n hx hb dX12_yearStep_264 rfl (lv_at hl 4 rfl) ?_
        refine va_get (D := D) (ci := 12) (v := .ref Mo) (C := RX12) (T := TX12) (N := 36) hx hb hts iX12 hown hK hP 0 rfl rfl 21 (bl rfl) (hts _ qf_X12_44) (fun _ h => h) rfl dX12_yearStep_265 ?_
        refine lv_aload_n hx hb dX12_yearStep_268 rfl (lv_at hl 4 rfl) ?_
        refine va_get (D := D) (ci := 12) (v := .int (iZ (Mdp - 1))) (C := RX12) (T := TX12) (N := 36) hx hb hts iX12 hown hK hP 0 rfl rfl 22 (bl rfl) (hts _ qf_X12_231) (fun _ h => h) rfl dX12_yearStep_269 ?_
        refine va_iald hx hb hK hP 4 1 rfl rfl (zin (e := (Mdp - 1)) (n := 3) ⟨by omega, by omega⟩ (bl rfl)) dX12_yearStep_272 ?_
        refine lv_topi (fun x_16 ex_16 => ?_)
        obtain rfl : x_16 = iZ (gz Of (Mdp - 1)) := ex_16.trans (gz_eq ⟨by omega, by omega⟩)
        have h_17 := gz_rg Of (Mdp - 1)
        refine lv_imul hx hb dX12_yearStep_273 ?_
        refine lv_topi (fun x_18 ex_18 => ?_)
        obtain rfl : x_18 = iZ (6 * (gz Of (Mdp - 1))) := ex_18.trans (iZ_mul 6 (gz Of (Mdp - 1)))
        refine lv_iadd hx hb dX12_yearStep_274 ?_
        refine lv_topi (fun x_19 ex_19 => ?_)
        obtain rfl : x_19 = iZ (4080 + (6 * (gz Of (Mdp - 1)))) := ex_19.trans (iZ_add 4080 (6 * (gz Of (Mdp - 1))))
        refine lv_iconst (v := iZ 4) hx hb dX12_yearStep_275 rfl ?_
        refine lv_iadd hx hb dX12_yearStep_276 ?_
        refine lv_topi (fun x_20 ex_20 => ?_)
        obtain rfl : x_20 = iZ ((4080 + (6 * (gz Of (Mdp - 1)))) + 4) := ex_20.trans (iZ_add (4080 + (6 * (gz Of (Mdp - 1)))) 4)
        refine lv_iload_n hx hb dX12_yearStep_277 rfl (lv_at hl 2 rfl) ?_
        refine va_iast hx hb hK hP hD hS 2 1 rfl rfl (zin (e := ((4080 + (6 * (gz Of (Mdp - 1)))) + 4)) (n := 5340) ⟨by omega, by omega⟩ (bl rfl)) dX12_yearStep_278 (fun H locs hP hD hS => ?_)
        obtain ⟨f_21, hf_21⟩ : ∃ gg9, gg9 = upd f_15 (iZ ((4080 + (6 * (gz Of (Mdp - 1)))) + 4)).toNatClampNeg (iZ (gz Af 3565)) := ⟨_, rfl⟩
        rw [← hf_21] at hP hD
        refine lv_aload_n hx hb dX12_yearStep_279 rfl (lv_at hl 4 rfl) ?_
        refine lv_bipush (v := iZ 59) hx hb dX12_yearStep_280 bip_59 ?_
        refine CWV (As := [.int (iZ 59)]) (rest := []) (wc := _) (wr := [(Ma, .inl (k 1, 5340, .inl f_21)), (Mn, .inl (k 2, 36, .inr (.inl Nf))), (Mo, .inl (k 1, 3, .inl Of))]) hx hb hml hown hts hKK hP hD hS hA (y_wantSign l D k hm Ma Mn Ms My Mt Mp Mx Mo Mk Ml Mb Mh Mc Mz Mr Mq Mst Mtd Msz Mtky Mfry Meny Mvay Mfk Mfpy Mfsy Mse Mlt (Mdp - 1) Mcty Mdr Mrs Mit Mmk Mtp Mbt Xf 59 jp (by first | with_reducible assumption | exact (by first | with_reducible assumption | exact ⟨⟨by omega, by omega⟩, ⟨by omega, by omega⟩, ⟨by omega, by omega⟩, by omega, by omega, by omega⟩)) (by omega) jrf ⟨by omega, by omega⟩) ci_X12_wantSign qm_X12_212 ⟨Nat.le_of_ble_eq_true rfl, Nat.le_of_ble_eq_true rfl⟩ ⟨Nat.le_of_ble_eq_true rfl, Nat.le_of_ble_eq_true rfl⟩ [0, 1] [2, 3, 4] rfl rfl rfl rfl rfl (dj rfl) 0 rfl rfl rfl hl.1 rfl (Nat.le_of_ble_eq_true rfl) dX12_yearStep_282 (fun u_22 H locs hφ hP hD hS => ?_)
        obtain ⟨p_23, p_24, p_25⟩ : ((0 ≤ (u_22.1.2.2.1 : Int) ∧ (u_22.1.2.2.1 : Int) ≤ u_22.1.2.2.2.1) ∧ ((u_22.1.2.2.2.1 : Int) ≤ Msz ∧ (Msz : Int) ≤ 900) ∧ (0 ≤ (u_22.1.2.1 : Int) ∧ (u_22.1.2.1 : Int) ≤ 4) ∧ ((u_22.1.2.1 : Int) ≤ 4 * (u_22.1.2.2.2.1 - u_22.1.2.2.1)) ∧ (-1 ≤ (u_22.1.2.2.2.2.1 : Int) ∧ (u_22.1.2.2.2.2.1 : Int) ≤ 100000)) ∧ (0 ≤ (u_22.1.2.2.2.2.2.1 : Int) ∧ (u_22.1.2.2.2.2.2.1 : Int) ≤ 9) ∧ (((u_22.1.1 : Int) = 1 ∧ ∃ q9 : Int, xTs (tX Xf Msz) 59 jp = .inr q9 ∧ jp < q9 ∧ RFX (tX Xf Msz) q9 u_22.1.2.2.1 u_22.1.2.2.2.1 u_22.1.2.1 u_22.1.2.2.2.2.1 ∧ (u_22.1.2.2.2.2.2.1 : Int) = 0 ∧ u_22.1.2.2.2.2.2.2 = Mfpy) ∨ ((u_22.1.1 : Int) = 0 ∧ xTs (tX Xf Msz) 59 jp = .inl (u_22.1.2.2.2.2.2.1, u_22.1.2.2.2.2.2.2) ∧ 1 ≤ (u_22.1.2.2.2.2.2.1 : Int))) := hφ
        refine W.eq (g2 := F0 m 285 ls [.int (iZ u_22.1.1)]) rfl ?_
        rcases p_25 with ⟨qt_26, cut_26, st_26, lt_26, xt_26, ut_26, vt_26⟩ | ⟨qt_26, st_26, bt_26⟩
        ·
          rw [qt_26]
          obtain ⟨⟨ar_27, br_27⟩, cr_27, dr_27, er_27, gr_27, hr_27⟩ := id xt_26
          have kr_27 := tk_1 dr_27 (xKd_rg _ _)
          have wr_27 := xKw_rg (tX Xf Msz) cut_26
          have jc3 : Mcty = Mct := (by have q9 := jc (); omega)
          have h23 : (xKw (tX Xf Msz) cu) = 23 := (hy23 ()).mp (by omega)
          obtain ⟨je1, je2⟩ := xRe_23 h23 jre
          have hcl := YRL.close hYL hYV (by omega) jA j5 (by rw [jw, h23, yCd_n (by omega)]; decide) hf_15 (by omega) (by omega) hf_21 (by omega) (by omega)
          exact EWz hx hb hr hlocks hS ((1, u_22.1.2.1, u_22.1.2.2.1, u_22.1.2.2.2.1, u_22.1.2.2.2.2.1, u_22.1.2.2.2.2.2.1, u_22.1.2.2.2.2.2.2, (Mdp - 1), Mcty), 0, (f_21, Of), ()) rfl rfl ⟨(show (0 ≤ (u_22.1.2.2.1 : Int) ∧ (u_22.1.2.2.1 : Int) ≤ u_22.1.2.2.2.1) ∧ ((u_22.1.2.2.2.1 : Int) ≤ Msz ∧ (Msz : Int) ≤ 900) ∧ (0 ≤ (u_22.1.2.1 : Int) ∧ (u_22.1.2.1 : Int) ≤ 4) ∧ ((u_22.1.2.1 : Int) ≤ 4 * (u_22.1.2.2.2.1 - u_22.1.2.2.1)) ∧ (-1 ≤ (u_22.1.2.2.2.2.1 : Int) ∧ (u_22.1.2.2.2.2.1 : Int) ≤ 100000) from (by first | with_reducible assumption | exact (by first | with_reducible assumption | exact ⟨⟨by omega, by omega⟩, ⟨by omega, by omega⟩, ⟨by omega, by omega⟩, by omega, by omega, by omega⟩))), (show 0 ≤ (u_22.1.2.2.2.2.2.1 : Int) ∧ (u_22.1.2.2.2.2.2.1 : Int) ≤ 9 from (by omega)), (show KP f_21 Af from (KP.tr (KP.up hf_21 ⟨by omega, by omega⟩ ⟨by omega, by omega⟩) (KP.tr (KP.up hf_15 ⟨by omega, by omega⟩ ⟨by omega, by omega⟩) (fun e h1 h2 => jA e h1 (Or.inl h2))))), (show ((1 : Int) = 1 ∧ ∃ (q9 : Int) (W9 A9 B9 C9 P9 O9 : Int → Int), xYp (tX Xf Msz) N n cu (gz Af 3565, Mct, Mdp, W0, A0, B0, C0, P0, O0) = .inr (q9, (gz f_21 3565, Mcty, (Mdp - 1), W9, A9, B9, C9, P9, O9)) ∧ cu < q9 ∧ RFX (tX Xf Msz) q9 u_22.1.2.2.1 u_22.1.2.2.2.1 u_22.1.2.1 u_22.1.2.2.2.2.1 ∧ YRL f_21 Of (Mdp - 1) W9 A9 B9 C9 P9 O9 ∧ (u_22.1.2.2.2.2.2.1 : Int) = 0 ∧ u_22.1.2.2.2.2.2.2 = Mfp) ∨ ((1 : Int) = 0 ∧ xYp (tX Xf Msz) N n cu (gz Af 3565, Mct, Mdp, W0, A0, B0, C0, P0, O0) = .inl (u_22.1.2.2.2.2.2.1, u_22.1.2.2.2.2.2.2) ∧ 1 ≤ (u_22.1.2.2.2.2.2.1 : Int)) from (Or.inl ⟨rfl, cut_26, _, _, _, _, _, _, (by rw [hcl.1, show Mcty = Mct from (by omega)]; exact xYp_e h23 (by omega) (by rw [← je1]; exact st_26)), by omega, xt_26, hcl.2, by omega, by omega⟩)), (show 0 ≤ (Mcty : Int) ∧ (Mcty : Int) ≤ 31 from (by omega))⟩ (hP.sub [3, 4, 0, 1, 2] rfl) (hD.sub [3, 4, 0, 1, 2] rfl rfl) dX12_yearStep_285
        ·
          rw [qt_26]
          have jc3 : Mcty = Mct := (by have q9 := jc (); omega)
          have h23 : (xKw (tX Xf Msz) cu) = 23 := (hy23 ()).mp (by omega)
          obtain ⟨je1, je2⟩ := xRe_23 h23 jre
          exact EWz hx hb hr hlocks hS ((0, u_22.1.2.1, u_22.1.2.2.1, u_22.1.2.2.2.1, u_22.1.2.2.2.2.1, u_22.1.2.2.2.2.2.1, u_22.1.2.2.2.2.2.2, (Mdp - 1), Mcty), 0, (f_21, Of), ()) rfl rfl ⟨(show (0 ≤ (u_22.1.2.2.1 : Int) ∧ (u_22.1.2.2.1 : Int) ≤ u_22.1.2.2.2.1) ∧ ((u_22.1.2.2.2.1 : Int) ≤ Msz ∧ (Msz : Int) ≤ 900) ∧ (0 ≤ (u_22.1.2.1 : Int) ∧ (u_22.1.2.1 : Int) ≤ 4) ∧ ((u_22.1.2.1 : Int) ≤ 4 * (u_22.1.2.2.2.1 - u_22.1.2.2.1)) ∧ (-1 ≤ (u_22.1.2.2.2.2.1 : Int) ∧ (u_22.1.2.2.2.2.1 : Int) ≤ 100000) from (by first | with_reducible assumption | exact (by first | with_reducible assumption | exact ⟨⟨by omega, by omega⟩, ⟨by omega, by omega⟩, ⟨by omega, by omega⟩, by omega, by omega, by omega⟩))), (show 0 ≤ (u_22.1.2.2.2.2.2.1 : Int) ∧ (u_22.1.2.2.2.2.2.1 : Int) ≤ 9 from (by omega)), (show KP f_21 Af from (KP.tr (KP.up hf_21 ⟨by omega, by omega⟩ ⟨by omega, by omega⟩) (KP.tr (KP.up hf_15 ⟨by omega, by omega⟩ ⟨by omega, by omega⟩) (fun e h1 h2 => jA e h1 (Or.inl h2))))), (show ((0 : Int) = 1 ∧ ∃ (q9 : Int) (W9 A9 B9 C9 P9 O9 : Int → Int), xYp (tX Xf Msz) N n cu (gz Af 3565, Mct, Mdp, W0, A0, B0, C0, P0, O0) = .inr (q9, (gz f_21 3565, Mcty, (Mdp - 1), W9, A9, B9, C9, P9, O9)) ∧ cu < q9 ∧ RFX (tX Xf Msz) q9 u_22.1.2.2.1 u_22.1.2.2.2.1 u_22.1.2.1 u_22.1.2.2.2.2.1 ∧ YRL f_21 Of (Mdp - 1) W9 A9 B9 C9 P9 O9 ∧ (u_22.1.2.2.2.2.2.1 : Int) = 0 ∧ u_22.1.2.2.2.2.2.2 = Mfp) ∨ ((0 : Int) = 0 ∧ xYp (tX Xf Msz) N n cu (gz Af 3565, Mct, Mdp, W0, A0, B0, C0, P0, O0) = .inl (u_22.1.2.2.2.2.2.1, u_22.1.2.2.2.2.2.2) ∧ 1 ≤ (u_22.1.2.2.2.2.2.1 : Int)) from (Or.inr ⟨rfl, xYp_el h23 (by omega) (by rw [← je1]; exact st_26), by omega⟩)), (show 0 ≤ (Mcty : Int) ∧ (Mcty : Int) ≤ 31 from (by omega))⟩ (hP.sub [3, 4, 0, 1, 2] rfl) (hD.sub [3, 4, 0, 1, 2] rfl rfl) dX12_yearStep_285
    ·
      have c_3 := mt (zeq (x := iZ op1) (y := iZ 0) rfl rfl ⟨by omega, by omega⟩ wn_0).mpr c_3
      have jo3 : Mdp < 3 ∧ ¬ kk = 21 := (by have q9 := jo (); omega)
      refine lv_aload_n hx hb dX12_yearStep_202 rfl (lv_at hl 4 rfl) ?_
      refine va_get (D := D) (ci := 12) (v := .ref Mo) (C := RX12) (T := TX12) (N := 36) hx hb hts iX12 hown hK hP 0 rfl rfl 21 (bl rfl) (hts _ qf_X12_44) (fun _ h => h) rfl dX12_yearStep_203 ?_
      refine lv_aload_n hx hb dX12_yearStep_206 rfl (lv_at hl 4 rfl) ?_
      refine va_get (D := D) (ci := 12) (v := .int (iZ Mdp)) (C := RX12) (T := TX12) (N := 36) hx hb hts iX12 hown hK hP 0 rfl rfl 22 (bl rfl) (hts _ qf_X12_231) (fun _ h => h) rfl dX12_yearStep_207 ?_
      refine lv_iload_n hx hb dX12_yearStep_210 rfl (lv_at hl 2 rfl) ?_
      refine va_iast hx hb hK hP hD hS 4 1 rfl rfl (zin (e := Mdp) (n := 3) ⟨by omega, by omega⟩ (bl rfl)) dX12_yearStep_211 (fun H locs hP hD hS => ?_)
      obtain ⟨f_28, hf_28⟩ : ∃ gg9, gg9 = upd Of (iZ Mdp).toNatClampNeg (iZ (gz Af 3565)) := ⟨_, rfl⟩
      rw [← hf_28] at hP hD
      refine lv_aload_n hx hb dX12_yearStep_212 rfl (lv_at hl 4 rfl) ?_
      refine lv_dup hx hb dX12_yearStep_213 rfl ?_
      refine va_get (D := D) (ci := 12) (v := .int (iZ Mdp)) (C := RX12) (T := TX12) (N := 36) hx hb hts iX12 hown hK hP 0 rfl rfl 22 (bl rfl) (hts _ qf_X12_231) (fun _ h => h) rfl dX12_yearStep_214 ?_
      refine lv_iconst (v := iZ 1) hx hb dX12_yearStep_217 rfl ?_
      refine lv_iadd hx hb dX12_yearStep_218 ?_
      refine lv_topi (fun x_29 ex_29 => ?_)
      obtain rfl : x_29 = iZ (Mdp + 1) := ex_29.trans (iZ_add Mdp 1)
      refine va_put (D := D) (ci := 12) (v := .int (iZ (Mdp + 1))) (ty := .int) (C := RX12) (T := TX12) (N := 36) hx hb hts iX12 tyX12 tyX12_ok nmX12 hown hK hP hD hS 0 rfl rfl 22 (bl rfl) (hts _ qf_X12_231) (fun _ h => h) rfl (by decide +kernel) rfl rfl (Nat.le_of_ble_eq_true rfl) dX12_yearStep_219 (fun H locs hP hD hS => ?_)
      refine lv_iload_n hx hb dX12_yearStep_222 rfl (lv_at hl 3 rfl) ?_
      refine lv_bipush (v := iZ 21) hx hb dX12_yearStep_223 bip_21 ?_
      refine lv_icmp_ne (tgt := 279) hx hb dX12_yearStep_225 rfl (fun c_30 => ?_) (fun c_30 => ?_)
      ·
        have c_30 := mt (zeq (x := iZ kk) (y := iZ 21) rfl rfl ⟨by omega, by omega⟩ wn_21).mpr c_30
        refine lv_aload_n hx hb dX12_yearStep_279 rfl (lv_at hl 4 rfl) ?_
        refine lv_bipush (v := iZ 59) hx hb dX12_yearStep_280 bip_59 ?_
        refine CWV (As := [.int (iZ 59)]) (rest := []) (wc := _) (wr := [(Ma, .inl (k 1, 5340, .inl Afy)), (Mn, .inl (k 2, 36, .inr (.inl Nf))), (Mo, .inl (k 1, 3, .inl f_28))]) hx hb hml hown hts hKK hP hD hS hA (y_wantSign l D k hm Ma Mn Ms My Mt Mp Mx Mo Mk Ml Mb Mh Mc Mz Mr Mq Mst Mtd Msz Mtky Mfry Meny Mvay Mfk Mfpy Mfsy Mse Mlt (Mdp + 1) Mcty Mdr Mrs Mit Mmk Mtp Mbt Xf 59 jp (by first | with_reducible assumption | exact (by first | with_reducible assumption | exact ⟨⟨by omega, by omega⟩, ⟨by omega, by omega⟩, ⟨by omega, by omega⟩, by omega, by omega, by omega⟩)) (by omega) jrf ⟨by omega, by omega⟩) ci_X12_wantSign qm_X12_212 ⟨Nat.le_of_ble_eq_true rfl, Nat.le_of_ble_eq_true rfl⟩ ⟨Nat.le_of_ble_eq_true rfl, Nat.le_of_ble_eq_true rfl⟩ [0, 1] [2, 3, 4] rfl rfl rfl rfl rfl (dj rfl) 0 rfl rfl rfl hl.1 rfl (Nat.le_of_ble_eq_true rfl) dX12_yearStep_282 (fun u_31 H locs hφ hP hD hS => ?_)
        obtain ⟨p_32, p_33, p_34⟩ : ((0 ≤ (u_31.1.2.2.1 : Int) ∧ (u_31.1.2.2.1 : Int) ≤ u_31.1.2.2.2.1) ∧ ((u_31.1.2.2.2.1 : Int) ≤ Msz ∧ (Msz : Int) ≤ 900) ∧ (0 ≤ (u_31.1.2.1 : Int) ∧ (u_31.1.2.1 : Int) ≤ 4) ∧ ((u_31.1.2.1 : Int) ≤ 4 * (u_31.1.2.2.2.1 - u_31.1.2.2.1)) ∧ (-1 ≤ (u_31.1.2.2.2.2.1 : Int) ∧ (u_31.1.2.2.2.2.1 : Int) ≤ 100000)) ∧ (0 ≤ (u_31.1.2.2.2.2.2.1 : Int) ∧ (u_31.1.2.2.2.2.2.1 : Int) ≤ 9) ∧ (((u_31.1.1 : Int) = 1 ∧ ∃ q9 : Int, xTs (tX Xf Msz) 59 jp = .inr q9 ∧ jp < q9 ∧ RFX (tX Xf Msz) q9 u_31.1.2.2.1 u_31.1.2.2.2.1 u_31.1.2.1 u_31.1.2.2.2.2.1 ∧ (u_31.1.2.2.2.2.2.1 : Int) = 0 ∧ u_31.1.2.2.2.2.2.2 = Mfpy) ∨ ((u_31.1.1 : Int) = 0 ∧ xTs (tX Xf Msz) 59 jp = .inl (u_31.1.2.2.2.2.2.1, u_31.1.2.2.2.2.2.2) ∧ 1 ≤ (u_31.1.2.2.2.2.2.1 : Int))) := hφ
        refine W.eq (g2 := F0 m 285 ls [.int (iZ u_31.1.1)]) rfl ?_
        rcases p_34 with ⟨qt_35, cut_35, st_35, lt_35, xt_35, ut_35, vt_35⟩ | ⟨qt_35, st_35, bt_35⟩
        ·
          rw [qt_35]
          obtain ⟨⟨ar_36, br_36⟩, cr_36, dr_36, er_36, gr_36, hr_36⟩ := id xt_35
          have kr_36 := tk_1 dr_36 (xKd_rg _ _)
          have wr_36 := xKw_rg (tX Xf Msz) cut_35
          have jc3 : Mcty = Mct + 1 ∧ Mct < 30 := (by have q9 := jc (); omega)
          exact EWz hx hb hr hlocks hS ((1, u_31.1.2.1, u_31.1.2.2.1, u_31.1.2.2.2.1, u_31.1.2.2.2.2.1, u_31.1.2.2.2.2.2.1, u_31.1.2.2.2.2.2.2, (Mdp + 1), Mcty), 0, (Afy, f_28), ()) rfl rfl ⟨(show (0 ≤ (u_31.1.2.2.1 : Int) ∧ (u_31.1.2.2.1 : Int) ≤ u_31.1.2.2.2.1) ∧ ((u_31.1.2.2.2.1 : Int) ≤ Msz ∧ (Msz : Int) ≤ 900) ∧ (0 ≤ (u_31.1.2.1 : Int) ∧ (u_31.1.2.1 : Int) ≤ 4) ∧ ((u_31.1.2.1 : Int) ≤ 4 * (u_31.1.2.2.2.1 - u_31.1.2.2.1)) ∧ (-1 ≤ (u_31.1.2.2.2.2.1 : Int) ∧ (u_31.1.2.2.2.2.1 : Int) ≤ 100000) from (by first | with_reducible assumption | exact (by first | with_reducible assumption | exact ⟨⟨by omega, by omega⟩, ⟨by omega, by omega⟩, ⟨by omega, by omega⟩, by omega, by omega, by omega⟩))), (show 0 ≤ (u_31.1.2.2.2.2.2.1 : Int) ∧ (u_31.1.2.2.2.2.2.1 : Int) ≤ 9 from (by omega)), (show KP Afy Af from (fun e h1 h2 => jA e h1 (Or.inl h2))), (show ((1 : Int) = 1 ∧ ∃ (q9 : Int) (W9 A9 B9 C9 P9 O9 : Int → Int), xYp (tX Xf Msz) N n cu (gz Af 3565, Mct, Mdp, W0, A0, B0, C0, P0, O0) = .inr (q9, (gz Afy 3565, Mcty, (Mdp + 1), W9, A9, B9, C9, P9, O9)) ∧ cu < q9 ∧ RFX (tX Xf Msz) q9 u_31.1.2.2.1 u_31.1.2.2.2.1 u_31.1.2.1 u_31.1.2.2.2.2.1 ∧ YRL Afy f_28 (Mdp + 1) W9 A9 B9 C9 P9 O9 ∧ (u_31.1.2.2.2.2.2.1 : Int) = 0 ∧ u_31.1.2.2.2.2.2.2 = Mfp) ∨ ((1 : Int) = 0 ∧ xYp (tX Xf Msz) N n cu (gz Af 3565, Mct, Mdp, W0, A0, B0, C0, P0, O0) = .inl (u_31.1.2.2.2.2.2.1, u_31.1.2.2.2.2.2.2) ∧ 1 ≤ (u_31.1.2.2.2.2.2.1 : Int)) from (Or.inl ⟨rfl, cut_35, _, _, _, _, _, _, (by rw [j5, show Mcty = Mct + 1 from (by omega)]; exact xYp_o (show (xKw (tX Xf Msz) cu) = 19 ∨ (xKw (tX Xf Msz) cu) = 22 from yo_1 (hyo ()) (by omega)) (show ((xKw (tX Xf Msz) cu) = 15 ∨ (xKw (tX Xf Msz) cu) = 16 ∨ (xKw (tX Xf Msz) cu) = 17 ∨ (xKw (tX Xf Msz) cu) = 18 ∨ (xKw (tX Xf Msz) cu) = 19 ∨ (xKw (tX Xf Msz) cu) = 22 ∨ (xKw (tX Xf Msz) cu) = 24) from yw_7 (hy8 ()) (fun h9 => by have y2 := (hy23 ()).mpr h9; omega)) (by omega) (by omega) jre st_35), by omega, xt_35, YRL.add hYL hYV jA j5 jw jrs j4 (YRL.push hYL hYV hf_28 ⟨by omega, by omega⟩ ⟨by omega, by omega⟩), by omega, by omega⟩)), (show 0 ≤ (Mcty : Int) ∧ (Mcty : Int) ≤ 31 from (by omega))⟩ (hP.sub [3, 4, 0, 1, 2] rfl) (hD.sub [3, 4, 0, 1, 2] rfl rfl) dX12_yearStep_285
        ·
          rw [qt_35]
          have jc3 : Mcty = Mct + 1 ∧ Mct < 30 := (by have q9 := jc (); omega)
          exact EWz hx hb hr hlocks hS ((0, u_31.1.2.1, u_31.1.2.2.1, u_31.1.2.2.2.1, u_31.1.2.2.2.2.1, u_31.1.2.2.2.2.2.1, u_31.1.2.2.2.2.2.2, (Mdp + 1), Mcty), 0, (Afy, f_28), ()) rfl rfl ⟨(show (0 ≤ (u_31.1.2.2.1 : Int) ∧ (u_31.1.2.2.1 : Int) ≤ u_31.1.2.2.2.1) ∧ ((u_31.1.2.2.2.1 : Int) ≤ Msz ∧ (Msz : Int) ≤ 900) ∧ (0 ≤ (u_31.1.2.1 : Int) ∧ (u_31.1.2.1 : Int) ≤ 4) ∧ ((u_31.1.2.1 : Int) ≤ 4 * (u_31.1.2.2.2.1 - u_31.1.2.2.1)) ∧ (-1 ≤ (u_31.1.2.2.2.2.1 : Int) ∧ (u_31.1.2.2.2.2.1 : Int) ≤ 100000) from (by first | with_reducible assumption | exact (by first | with_reducible assumption | exact ⟨⟨by omega, by omega⟩, ⟨by omega, by omega⟩, ⟨by omega, by omega⟩, by omega, by omega, by omega⟩))), (show 0 ≤ (u_31.1.2.2.2.2.2.1 : Int) ∧ (u_31.1.2.2.2.2.2.1 : Int) ≤ 9 from (by omega)), (show KP Afy Af from (fun e h1 h2 => jA e h1 (Or.inl h2))), (show ((0 : Int) = 1 ∧ ∃ (q9 : Int) (W9 A9 B9 C9 P9 O9 : Int → Int), xYp (tX Xf Msz) N n cu (gz Af 3565, Mct, Mdp, W0, A0, B0, C0, P0, O0) = .inr (q9, (gz Afy 3565, Mcty, (Mdp + 1), W9, A9, B9, C9, P9, O9)) ∧ cu < q9 ∧ RFX (tX Xf Msz) q9 u_31.1.2.2.1 u_31.1.2.2.2.1 u_31.1.2.1 u_31.1.2.2.2.2.1 ∧ YRL Afy f_28 (Mdp + 1) W9 A9 B9 C9 P9 O9 ∧ (u_31.1.2.2.2.2.2.1 : Int) = 0 ∧ u_31.1.2.2.2.2.2.2 = Mfp) ∨ ((0 : Int) = 0 ∧ xYp (tX Xf Msz) N n cu (gz Af 3565, Mct, Mdp, W0, A0, B0, C0, P0, O0) = .inl (u_31.1.2.2.2.2.2.1, u_31.1.2.2.2.2.2.2) ∧ 1 ≤ (u_31.1.2.2.2.2.2.1 : Int)) from (Or.inr ⟨rfl, xYp_b (show ((xKw (tX Xf Msz) cu) = 15 ∨ (xKw (tX Xf Msz) cu) = 16 ∨ (xKw (tX Xf Msz) cu) = 17 ∨ (xKw (tX Xf Msz) cu) = 18 ∨ (xKw (tX Xf Msz) cu) = 19 ∨ (xKw (tX Xf Msz) cu) = 22 ∨ (xKw (tX Xf Msz) cu) = 24) from yw_7 (hy8 ()) (fun h9 => by have y2 := (hy23 ()).mpr h9; omega)) (by omega) (show ¬ (((xKw (tX Xf Msz) cu) = 19 ∨ (xKw (tX Xf Msz) cu) = 22) ∧ 3 ≤ Mdp) from yo_7 (hyo ())) jre st_35, by omega⟩)), (show 0 ≤ (Mcty : Int) ∧ (Mcty : Int) ≤ 31 from (by omega))⟩ (hP.sub [3, 4, 0, 1, 2] rfl) (hD.sub [3, 4, 0, 1, 2] rfl rfl) dX12_yearStep_285
      ·
        have c_30 := (zeq (x := iZ kk) (y := iZ 21) rfl rfl ⟨by omega, by omega⟩ wn_21).mp c_30
        exact absurd c_30 (by omega)
  have HJ137 : ∀ (Mctx : Int) (op1 : Int) (kk : Int) (H : Heap) (locs : List Loc) (ls : Array Slot), ((15 ≤ kk ∧ kk ≤ 22) ∧ (0 ≤ op1 ∧ op1 ≤ 1)) → (kk = xPm (xKw (tX Xf Msz) cu)) → ((op1 = 1 ∧ (kk = 19 ∨ kk = 20) ∧ Mdp < 3) ∨ (op1 = 0 ∧ ¬ kk = 19 ∧ ¬ kk = 20)) → (kk = 21 → 0 < Mdp) → ((kk = 21 ∧ (Mctx : Int) = Mct) ∨ (¬ kk = 21 ∧ (Mctx : Int) = Mct + 1 ∧ Mct < 30)) → va_P D vwCl [(hm, .inr (12, [.ref Ma, .ref Mn, .int (iZ Mst), .long Mtp, .long Mbt, .ref Ms, .ref My, .ref Mt, .ref Mp, .ref Mx, .int (iZ Mtd), .int (iZ Msz), .int (iZ Mtk), .int (iZ Mfr), .int (iZ Men), .int (iZ Mva), .int (iZ Mfk), .int (iZ Mfp), .int (iZ Mfs), .int (iZ Mse), .int (iZ Mlt), .ref Mo, .int (iZ Mdp), .int (iZ Mctx), .ref Mk, .ref Ml, .ref Mb, .ref Mh, .ref Mc, .int (iZ Mdr), .int (iZ Mrs), .ref Mz, .ref Mr, .ref Mq, .int (iZ Mit), .int (iZ Mmk)])), (Mx, .inl (k 0, 900, .inl Xf)), (Ma, .inl (k 1, 5340, .inl Af)), (Mn, .inl (k 2, 36, .inr (.inl Nf))), (Mo, .inl (k 1, 3, .inl Of))] H → va_D A [(hm, .inr (12, [.ref Ma, .ref Mn, .int (iZ Mst), .long Mtp, .long Mbt, .ref Ms, .ref My, .ref Mt, .ref Mp, .ref Mx, .int (iZ Mtd), .int (iZ Msz), .int (iZ Mtk), .int (iZ Mfr), .int (iZ Men), .int (iZ Mva), .int (iZ Mfk), .int (iZ Mfp), .int (iZ Mfs), .int (iZ Mse), .int (iZ Mlt), .ref Mo, .int (iZ Mdp), .int (iZ Mctx), .ref Mk, .ref Ml, .ref Mb, .ref Mh, .ref Mc, .int (iZ Mdr), .int (iZ Mrs), .ref Mz, .ref Mr, .ref Mq, .int (iZ Mit), .int (iZ Mmk)])), (Mx, .inl (k 0, 900, .inl Xf)), (Ma, .inl (k 1, 5340, .inl Af)), (Mn, .inl (k 2, 36, .inr (.inl Nf))), (Mo, .inl (k 1, 3, .inl Of))] → va_S A s.heap H locs → lv_has ls 6 [(4, .int (iZ op1)), (3, .int (iZ (4080 + (6 * (gz Af 3565))))), (2, .int (iZ (gz Af 3565))), (1, .int (iZ kk)), (0, .ref hm)] → W p l e (rj 10 0 0) s m [.ref hm].toArray below meth c H locs 0 0 (MQ below (QW (σ := ((Int × Int × Int × Int × Int × Int × Int × Int × Int) × (Int64) × ((Nat → Int32) × (Nat → Int32)) × (Unit))) (fun u => some (.int (iZ u.1.1))) (fun u => ((0 ≤ (u.1.2.2.1 : Int) ∧ (u.1.2.2.1 : Int) ≤ u.1.2.2.2.1) ∧ ((u.1.2.2.2.1 : Int) ≤ Msz ∧ (Msz : Int) ≤ 900) ∧ (0 ≤ (u.1.2.1 : Int) ∧ (u.1.2.1 : Int) ≤ 4) ∧ ((u.1.2.1 : Int) ≤ 4 * (u.1.2.2.2.1 - u.1.2.2.1)) ∧ (-1 ≤ (u.1.2.2.2.2.1 : Int) ∧ (u.1.2.2.2.2.1 : Int) ≤ 100000)) ∧ (0 ≤ (u.1.2.2.2.2.2.1 : Int) ∧ (u.1.2.2.2.2.2.1 : Int) ≤ 9) ∧ (KP u.2.2.1.1 Af) ∧ (((u.1.1 : Int) = 1 ∧ ∃ (q9 : Int) (W9 A9 B9 C9 P9 O9 : Int → Int), xYp (tX Xf Msz) N n cu (gz Af 3565, Mct, Mdp, W0, A0, B0, C0, P0, O0) = .inr (q9, (gz u.2.2.1.1 3565, u.1.2.2.2.2.2.2.2.2, u.1.2.2.2.2.2.2.2.1, W9, A9, B9, C9, P9, O9)) ∧ cu < q9 ∧ RFX (tX Xf Msz) q9 u.1.2.2.1 u.1.2.2.2.1 u.1.2.1 u.1.2.2.2.2.1 ∧ YRL u.2.2.1.1 u.2.2.1.2 u.1.2.2.2.2.2.2.2.1 W9 A9 B9 C9 P9 O9 ∧ (u.1.2.2.2.2.2.1 : Int) = 0 ∧ u.1.2.2.2.2.2.2.1 = Mfp) ∨ ((u.1.1 : Int) = 0 ∧ xYp (tX Xf Msz) N n cu (gz Af 3565, Mct, Mdp, W0, A0, B0, C0, P0, O0) = .inl (u.1.2.2.2.2.2.1, u.1.2.2.2.2.2.2.1) ∧ 1 ≤ (u.1.2.2.2.2.2.1 : Int))) ∧ (0 ≤ (u.1.2.2.2.2.2.2.2.2 : Int) ∧ (u.1.2.2.2.2.2.2.2.2 : Int) ≤ 31)) (fun u => [(hm, .inr (12, [.ref Ma, .ref Mn, .int (iZ Mst), .long Mtp, .long Mbt, .ref Ms, .ref My, .ref Mt, .ref Mp, .ref Mx, .int (iZ Mtd), .int (iZ Msz), .int (iZ u.1.2.1), .int (iZ u.1.2.2.1), .int (iZ u.1.2.2.2.1), .int (iZ u.1.2.2.2.2.1), .int (iZ Mfk), .int (iZ u.1.2.2.2.2.2.2.1), .int (iZ u.1.2.2.2.2.2.1), .int (iZ Mse), .int (iZ Mlt), .ref Mo, .int (iZ u.1.2.2.2.2.2.2.2.1), .int (iZ u.1.2.2.2.2.2.2.2.2), .ref Mk, .ref Ml, .ref Mb, .ref Mh, .ref Mc, .int (iZ Mdr), .int (iZ Mrs), .ref Mz, .ref Mr, .ref Mq, .int (iZ Mit), .int (iZ Mmk)])), (Mx, .inl (k 0, 900, .inl Xf)), (Ma, .inl (k 1, 5340, .inl u.2.2.1.1)), (Mn, .inl (k 2, 36, .inr (.inl Nf))), (Mo, .inl (k 1, 3, .inl u.2.2.1.2))]) D A) [.ref hm].toArray s 0 0 A) (F0 m 137 ls []) := by
    intro Mctx op1 kk H locs ls jk jx jo jd jc hP hD hS hl
    obtain ⟨py1, py2, py3, py4⟩ := xPm_yr (k := (xKw (tX Xf Msz) cu)) (xKw_rg _ _)
    rw [← jx] at py1 py2 py3 py4
    have hy8 : Unit → ((xKw (tX Xf Msz) cu) = 15 ∨ (xKw (tX Xf Msz) cu) = 16 ∨ (xKw (tX Xf Msz) cu) = 17 ∨ (xKw (tX Xf Msz) cu) = 18 ∨ (xKw (tX Xf Msz) cu) = 19 ∨ (xKw (tX Xf Msz) cu) = 22 ∨ (xKw (tX Xf Msz) cu) = 24 ∨ (xKw (tX Xf Msz) cu) = 23) := fun _ => py1.mp jk.1
    have hy23 : Unit → (kk = 21 ↔ (xKw (tX Xf Msz) cu) = 23) := fun _ => py2
    clear py1 py2
    have hyo : (op1 = 1 ∧ ((xKw (tX Xf Msz) cu) = 19 ∨ (xKw (tX Xf Msz) cu) = 22) ∧ Mdp < 3) ∨ (op1 = 0 ∧ ¬ (xKw (tX Xf Msz) cu) = 19 ∧ ¬ (xKw (tX Xf Msz) cu) = 22) := (by rcases jo with ⟨a1, a2, a3⟩ | ⟨a1, a2, a3⟩; exact Or.inl ⟨a1, a2.elim (fun h => Or.inl (py3.mp h)) (fun h => Or.inr (py4.mp h)), a3⟩; exact Or.inr ⟨a1, fun h => a2 (py3.mpr h), fun h => a3 (py4.mpr h)⟩)
    replace hyo : Unit → _ := fun _ => hyo
    clear py3 py4
    replace jo : Unit → _ := fun _ => jo
    replace jd : Unit → _ := fun _ => jd
    replace jc : Unit → _ := fun _ => jc
    have hrb : gz Af 3565 ≤ 59 := (by have q9 := jc (); have q8 := jd (); omega)
    refine lv_aload_n hx hb dX12_yearStep_137 rfl (lv_at hl 4 rfl) ?_
    refine va_get (D := D) (ci := 12) (v := .ref Ma) (C := RX12) (T := TX12) (N := 36) hx hb hts iX12 hown hK hP 0 rfl rfl 0 (bl rfl) (hts _ qf_X12_7) (fun _ h => h) rfl dX12_yearStep_138 ?_
    refine lv_iload_n hx hb dX12_yearStep_141 rfl (lv_at hl 1 rfl) ?_
    refine lv_iload_n hx hb dX12_yearStep_142 rfl (lv_at hl 3 rfl) ?_
    refine va_iast hx hb hK hP hD hS 2 1 rfl rfl (zin (e := (4080 + (6 * (gz Af 3565)))) (n := 5340) ⟨by omega, by omega⟩ (bl rfl)) dX12_yearStep_143 (fun H locs hP hD hS => ?_)
    obtain ⟨f_37, hf_37⟩ : ∃ gg9, gg9 = upd Af (iZ (4080 + (6 * (gz Af 3565)))).toNatClampNeg (iZ kk) := ⟨_, rfl⟩
    rw [← hf_37] at hP hD
    have hb1 := fun j hj => gz_upc (j := j) hf_37 ⟨by omega, by omega⟩ ⟨by omega, by omega⟩ hj
    refine lv_iconst (v := iZ 1) hx hb dX12_yearStep_144 rfl ?_
    refine lv_istore (lv' := [(5, .int (iZ 1)), (4, .int (iZ op1)), (3, .int (iZ (4080 + (6 * (gz Af 3565))))), (2, .int (iZ (gz Af 3565))), (1, .int (iZ kk)), (0, .ref hm)]) hx hb dX12_yearStep_145 hl (bl rfl) rfl (fun ls hl => ?_)
    have HL147 : ∀ (fu : Nat) (v5_147 : Int) (Afq147 : Nat → Int32) (H : Heap) (locs : List Loc) (ls : Array Slot), ((5) + 2 - v5_147) < (fu : Int) → ((1 ≤ v5_147 ∧ v5_147 ≤ (5) + 1)) → (∀ e : Int, 0 ≤ e → (e < (4080 + (6 * (gz Af 3565))) + 1 ∨ (4080 + (6 * (gz Af 3565))) + v5_147 ≤ e) → gz Afq147 e = gz f_37 e) → (∀ e : Int, (4080 + (6 * (gz Af 3565))) + 1 ≤ e → e < (4080 + (6 * (gz Af 3565))) + v5_147 → gz Afq147 e = 0) → va_P D vwCl [(hm, .inr (12, [.ref Ma, .ref Mn, .int (iZ Mst), .long Mtp, .long Mbt, .ref Ms, .ref My, .ref Mt, .ref Mp, .ref Mx, .int (iZ Mtd), .int (iZ Msz), .int (iZ Mtk), .int (iZ Mfr), .int (iZ Men), .int (iZ Mva), .int (iZ Mfk), .int (iZ Mfp), .int (iZ Mfs), .int (iZ Mse), .int (iZ Mlt), .ref Mo, .int (iZ Mdp), .int (iZ Mctx), .ref Mk, .ref Ml, .ref Mb, .ref Mh, .ref Mc, .int (iZ Mdr), .int (iZ Mrs), .ref Mz, .ref Mr, .ref Mq, .int (iZ Mit), .int (iZ Mmk)])), (Mx, .inl (k 0, 900, .inl Xf)), (Ma, .inl (k 1, 5340, .inl Afq147)), (Mn, .inl (k 2, 36, .inr (.inl Nf))), (Mo, .inl (k 1, 3, .inl Of))] H → va_D A [(hm, .inr (12, [.ref Ma, .ref Mn, .int (iZ Mst), .long Mtp, .long Mbt, .ref Ms, .ref My, .ref Mt, .ref Mp, .ref Mx, .int (iZ Mtd), .int (iZ Msz), .int (iZ Mtk), .int (iZ Mfr), .int (iZ Men), .int (iZ Mva), .int (iZ Mfk), .int (iZ Mfp), .int (iZ Mfs), .int (iZ Mse), .int (iZ Mlt), .ref Mo, .int (iZ Mdp), .int (iZ Mctx), .ref Mk, .ref Ml, .ref Mb, .ref Mh, .ref Mc, .int (iZ Mdr), .int (iZ Mrs), .ref Mz, .ref Mr, .ref Mq, .int (iZ Mit), .int (iZ Mmk)])), (Mx, .inl (k 0, 900, .inl Xf)), (Ma, .inl (k 1, 5340, .inl Afq147)), (Mn, .inl (k 2, 36, .inr (.inl Nf))), (Mo, .inl (k 1, 3, .inl Of))] → va_S A s.heap H locs → lv_has ls 6 [(5, .int (iZ v5_147)), (4, .int (iZ op1)), (3, .int (iZ (4080 + (6 * (gz Af 3565))))), (2, .int (iZ (gz Af 3565))), (1, .int (iZ kk)), (0, .ref hm)] → W p l e (rj 10 0 0) s m [.ref hm].toArray below meth c H locs 0 0 (MQ below (QW (σ := ((Int × Int × Int × Int × Int × Int × Int × Int × Int) × (Int64) × ((Nat → Int32) × (Nat → Int32)) × (Unit))) (fun u => some (.int (iZ u.1.1))) (fun u => ((0 ≤ (u.1.2.2.1 : Int) ∧ (u.1.2.2.1 : Int) ≤ u.1.2.2.2.1) ∧ ((u.1.2.2.2.1 : Int) ≤ Msz ∧ (Msz : Int) ≤ 900) ∧ (0 ≤ (u.1.2.1 : Int) ∧ (u.1.2.1 : Int) ≤ 4) ∧ ((u.1.2.1 : Int) ≤ 4 * (u.1.2.2.2.1 - u.1.2.2.1)) ∧ (-1 ≤ (u.1.2.2.2.2.1 : Int) ∧ (u.1.2.2.2.2.1 : Int) ≤ 100000)) ∧ (0 ≤ (u.1.2.2.2.2.2.1 : Int) ∧ (u.1.2.2.2.2.2.1 : Int) ≤ 9) ∧ (KP u.2.2.1.1 Af) ∧ (((u.1.1 : Int) = 1 ∧ ∃ (q9 : Int) (W9 A9 B9 C9 P9 O9 : Int → Int), xYp (tX Xf Msz) N n cu (gz Af 3565, Mct, Mdp, W0, A0, B0, C0, P0, O0) = .inr (q9, (gz u.2.2.1.1 3565, u.1.2.2.2.2.2.2.2.2, u.1.2.2.2.2.2.2.2.1, W9, A9, B9, C9, P9, O9)) ∧ cu < q9 ∧ RFX (tX Xf Msz) q9 u.1.2.2.1 u.1.2.2.2.1 u.1.2.1 u.1.2.2.2.2.1 ∧ YRL u.2.2.1.1 u.2.2.1.2 u.1.2.2.2.2.2.2.2.1 W9 A9 B9 C9 P9 O9 ∧ (u.1.2.2.2.2.2.1 : Int) = 0 ∧ u.1.2.2.2.2.2.2.1 = Mfp) ∨ ((u.1.1 : Int) = 0 ∧ xYp (tX Xf Msz) N n cu (gz Af 3565, Mct, Mdp, W0, A0, B0, C0, P0, O0) = .inl (u.1.2.2.2.2.2.1, u.1.2.2.2.2.2.2.1) ∧ 1 ≤ (u.1.2.2.2.2.2.1 : Int))) ∧ (0 ≤ (u.1.2.2.2.2.2.2.2.2 : Int) ∧ (u.1.2.2.2.2.2.2.2.2 : Int) ≤ 31)) (fun u => [(hm, .inr (12, [.ref Ma, .ref Mn, .int (iZ Mst), .long Mtp, .long Mbt, .ref Ms, .ref My, .ref Mt, .ref Mp, .ref Mx, .int (iZ Mtd), .int (iZ Msz), .int (iZ u.1.2.1), .int (iZ u.1.2.2.1), .int (iZ u.1.2.2.2.1), .int (iZ u.1.2.2.2.2.1), .int (iZ Mfk), .int (iZ u.1.2.2.2.2.2.2.1), .int (iZ u.1.2.2.2.2.2.1), .int (iZ Mse), .int (iZ Mlt), .ref Mo, .int (iZ u.1.2.2.2.2.2.2.2.1), .int (iZ u.1.2.2.2.2.2.2.2.2), .ref Mk, .ref Ml, .ref Mb, .ref Mh, .ref Mc, .int (iZ Mdr), .int (iZ Mrs), .ref Mz, .ref Mr, .ref Mq, .int (iZ Mit), .int (iZ Mmk)])), (Mx, .inl (k 0, 900, .inl Xf)), (Ma, .inl (k 1, 5340, .inl u.2.2.1.1)), (Mn, .inl (k 2, 36, .inr (.inl Nf))), (Mo, .inl (k 1, 3, .inl u.2.2.1.2))]) D A) [.ref hm].toArray s 0 0 A) (F0 m 147 ls []) := by
      intro fu
      induction fu with
      | zero => intro v5_147 Afq147 H locs ls hμ147 hi147 hz1 hz2 hP hD hS hl; exact absurd hμ147 (by omega)
      | succ fu ih147 =>
        intro v5_147 Afq147 H locs ls hμ147 hi147 hz1 hz2 hP hD hS hl
        refine lv_iload hx hb dX12_yearStep_147 (lv_at hl 0 rfl) ?_
        refine lv_bipush (v := iZ 6) hx hb dX12_yearStep_149 bip_6 ?_
        refine lv_icmp_ge (tgt := 170) hx hb dX12_yearStep_151 rfl (fun c_38 => ?_) (fun c_38 => ?_)
        ·
          have c_38 := (zle (x := iZ 6) (y := iZ v5_147) rfl rfl wn_6 ⟨by omega, by omega⟩).mp c_38
          have h65 := hz1 3565 (by omega) (by omega)
          have h65b := hb1 3565 (by omega)
          refine lv_aload_n hx hb dX12_yearStep_170 rfl (lv_at hl 5 rfl) ?_
          refine va_get (D := D) (ci := 12) (v := .ref Ma) (C := RX12) (T := TX12) (N := 36) hx hb hts iX12 hown hK hP 0 rfl rfl 0 (bl rfl) (hts _ qf_X12_7) (fun _ h => h) rfl dX12_yearStep_171 ?_
          refine lv_sipush (v := iZ 3565) hx hb dX12_yearStep_174 sip_3565 ?_
          refine lv_dup2_11 hx hb dX12_yearStep_177 rfl rfl ?_
          refine va_iald hx hb hK hP 2 1 rfl rfl (zin (e := 3565) (n := 5340) ⟨by omega, by omega⟩ (bl rfl)) dX12_yearStep_178 ?_
          refine lv_topi (fun x_39 ex_39 => ?_)
          obtain rfl : x_39 = iZ (gz Afq147 3565) := ex_39.trans (gz_eq ⟨by omega, by omega⟩)
          have h_40 := gz_rg Afq147 3565
          refine lv_iconst (v := iZ 1) hx hb dX12_yearStep_179 rfl ?_
          refine lv_iadd hx hb dX12_yearStep_180 ?_
          refine lv_topi (fun x_41 ex_41 => ?_)
          obtain rfl : x_41 = iZ ((gz Afq147 3565) + 1) := ex_41.trans (iZ_add (gz Afq147 3565) 1)
          refine va_iast hx hb hK hP hD hS 2 1 rfl rfl (zin (e := 3565) (n := 5340) ⟨by omega, by omega⟩ (bl rfl)) dX12_yearStep_181 (fun H locs hP hD hS => ?_)
          obtain ⟨f_42, hf_42⟩ : ∃ gg9, gg9 = upd Afq147 (iZ 3565).toNatClampNeg (iZ ((gz Afq147 3565) + 1)) := ⟨_, rfl⟩
          rw [← hf_42] at hP hD
          have hb3 := fun j hj => gz_upc (j := j) hf_42 ⟨by omega, by omega⟩ ⟨by omega, by omega⟩ hj
          have hA3 : ∀ e : Int, 0 ≤ e → (e < 3560 ∨ (4080 ≤ e ∧ e < (4080 + (6 * (gz Af 3565))))) → gz f_42 e = gz Af e := fun e h1 h2 => by have c1 := hb3 e h1; have c2 := hz1 e h1 (by omega); have c3 := hb1 e h1; omega
          have h35 : gz f_42 3565 = gz Af 3565 + 1 := by have c1 := hb3 3565 (by omega); omega
          have h3r : gz f_42 (4080 + (6 * (gz Af 3565))) = kk := by have c1 := hb3 (4080 + (6 * (gz Af 3565))) (by omega); have c2 := hz1 (4080 + (6 * (gz Af 3565))) (by omega) (by omega); have c3 := hb1 (4080 + (6 * (gz Af 3565))) (by omega); omega
          have h34 : gz f_42 ((4080 + (6 * (gz Af 3565))) + 4) = 0 := by have c1 := hb3 ((4080 + (6 * (gz Af 3565))) + 4) (by omega); have c2 := hz2 ((4080 + (6 * (gz Af 3565))) + 4) (by omega) (by omega); omega
          have h30 := hA3 0 (by omega) (by omega)
          refine lv_aload_n hx hb dX12_yearStep_182 rfl (lv_at hl 5 rfl) ?_
          refine CWV (As := []) (rest := []) (wc := _) (wr := [(Ma, .inl (k 1, 5340, .inl f_42)), (Mn, .inl (k 2, 36, .inr (.inl Nf))), (Mo, .inl (k 1, 3, .inl Of))]) hx hb hml hown hts hKK hP hD hS hA (y_onward l D k hm Ma Mn Ms My Mt Mp Mx Mo Mk Ml Mb Mh Mc Mz Mr Mq Mst Mtd Msz Mtk Mfr Men Mva Mfk Mfp Mfs Mse Mlt Mdp Mctx Mdr Mrs Mit Mmk Mtp Mbt Xf ⟨⟨by omega, by omega⟩, by omega⟩) ci_X12_onward qm_X12_158 ⟨Nat.le_of_ble_eq_true rfl, Nat.le_of_ble_eq_true rfl⟩ ⟨Nat.le_of_ble_eq_true rfl, Nat.le_of_ble_eq_true rfl⟩ [0, 1] [2, 3, 4] rfl rfl rfl rfl rfl (dj rfl) 0 rfl rfl rfl hl.1 rfl (Nat.le_of_ble_eq_true rfl) dX12_yearStep_183 (fun u_43 H locs hφ hP hD hS => ?_)
          obtain ⟨p_44, p_45, p_46⟩ : (RFX (tX Xf Msz) Men u_43.1.2.2.1 u_43.1.2.2.2.1 u_43.1.2.1 u_43.1.2.2.2.2) ∧ ((0 ≤ (u_43.1.2.2.1 : Int) ∧ (u_43.1.2.2.1 : Int) ≤ u_43.1.2.2.2.1) ∧ ((u_43.1.2.2.2.1 : Int) ≤ Msz ∧ (Msz : Int) ≤ 900) ∧ (0 ≤ (u_43.1.2.1 : Int) ∧ (u_43.1.2.1 : Int) ≤ 4) ∧ ((u_43.1.2.1 : Int) ≤ 4 * (u_43.1.2.2.2.1 - u_43.1.2.2.1)) ∧ (-1 ≤ (u_43.1.2.2.2.2 : Int) ∧ (u_43.1.2.2.2.2 : Int) ≤ 100000)) ∧ (Men ≤ u_43.1.2.2.1) := hφ
          have rx_47 := RFX.nx hrf p_44
          obtain ⟨⟨ar_48, br_48⟩, cr_48, dr_48, er_48, gr_48, hr_48⟩ := id rx_47
          have kr_48 := tk_1 dr_48 (xKd_rg _ _)
          have wr_48 := xKw_rg (tX Xf Msz) (xEn (tX Xf Msz) cu)
          refine W.eq (g2 := F0 m 186 ls []) rfl ?_
          refine lv_aload_n hx hb dX12_yearStep_186 rfl (lv_at hl 5 rfl) ?_
          refine lv_iload_n hx hb dX12_yearStep_187 rfl (lv_at hl 4 rfl) ?_
          refine lv_iload_n hx hb dX12_yearStep_188 rfl (lv_at hl 2 rfl) ?_
          refine CSV (As := [.int (iZ kk), .int (iZ (4080 + (6 * (gz Af 3565))))]) (rest := []) (wc := _) (wr := [(Mo, .inl (k 1, 3, .inl Of))]) hx hb hml hown hts hKK hP hD hS hA hSY hRR (y_yearOrder l D k sa sv hm Ma Mn Ms My Mt Mp Mx Mo Mk Ml Mb Mh Mc Mz Mr Mq Mst Mtd Msz u_43.1.2.1 u_43.1.2.2.1 u_43.1.2.2.2.1 u_43.1.2.2.2.2 Mfk Mfp Mfs Mse Mlt Mdp Mctx Mdr Mrs Mit Mmk Mtp Mbt Xf f_42 Nf kk (4080 + (6 * (gz Af 3565))) (xEn (tX Xf Msz) cu) n (xKw (tX Xf Msz) cu) N (by first | with_reducible assumption | exact ⟨⟨by omega, by omega⟩, ⟨by omega, by omega⟩, ⟨by omega, by omega⟩, by omega, by omega, by omega⟩) (by omega) rx_47 ⟨by omega, by omega, by omega⟩ hns0 ⟨by omega, by omega⟩ ⟨by omega, by omega⟩ ⟨hy8 (), jx.symm⟩ (by omega)) ci_X12_yearOrder qm_X12_237 ⟨Nat.le_of_ble_eq_true rfl, Nat.le_of_ble_eq_true rfl⟩ ⟨Nat.le_of_ble_eq_true rfl, Nat.le_of_ble_eq_true rfl⟩ [3, 4, 0, 1] [2] rfl rfl rfl rfl rfl (dj rfl) 0 rfl rfl rfl hl.1 rfl (Nat.le_of_ble_eq_true rfl) dX12_yearStep_189 (fun u_49 H locs hφ hP hD hS => ?_)
          obtain ⟨p_50, p_51, p_52, p_53⟩ : ((0 ≤ (u_49.1.2.2.1 : Int) ∧ (u_49.1.2.2.1 : Int) ≤ u_49.1.2.2.2.1) ∧ ((u_49.1.2.2.2.1 : Int) ≤ Msz ∧ (Msz : Int) ≤ 900) ∧ (0 ≤ (u_49.1.2.1 : Int) ∧ (u_49.1.2.1 : Int) ≤ 4) ∧ ((u_49.1.2.1 : Int) ≤ 4 * (u_49.1.2.2.2.1 - u_49.1.2.2.1)) ∧ (-1 ≤ (u_49.1.2.2.2.2.1 : Int) ∧ (u_49.1.2.2.2.2.1 : Int) ≤ 100000)) ∧ (0 ≤ (u_49.1.2.2.2.2.2.1 : Int) ∧ (u_49.1.2.2.2.2.2.1 : Int) ≤ 9) ∧ (((u_49.1.1 : Int) = 1 ∧ ∃ (q9 a9 b9 c9 : Int), xRe (tX Xf Msz) N n (xKw (tX Xf Msz) cu) (xEn (tX Xf Msz) cu) = .inr (q9, a9, b9, c9) ∧ (xEn (tX Xf Msz) cu) ≤ q9 ∧ RFX (tX Xf Msz) q9 u_49.1.2.2.1 u_49.1.2.2.2.1 u_49.1.2.1 u_49.1.2.2.2.2.1 ∧ (RWR u_49.2.2.1 f_42 (4080 + (6 * (gz Af 3565))) ∧ gz u_49.2.2.1 (4080 + (6 * (gz Af 3565))) = yCd (xKw (tX Xf Msz) cu) a9 ∧ yRS u_49.2.2.1 (4080 + (6 * (gz Af 3565))) (xKw (tX Xf Msz) cu) a9 b9 c9) ∧ (u_49.1.2.2.2.2.2.1 : Int) = 0 ∧ u_49.1.2.2.2.2.2.2 = Mfp) ∨ ((u_49.1.1 : Int) = 0 ∧ xRe (tX Xf Msz) N n (xKw (tX Xf Msz) cu) (xEn (tX Xf Msz) cu) = .inl (u_49.1.2.2.2.2.2.1, u_49.1.2.2.2.2.2.2) ∧ 1 ≤ (u_49.1.2.2.2.2.2.1 : Int))) ∧ ((u_49.1.1 : Int) = 0 → KP u_49.2.2.1 f_42) := hφ
          refine W.eq (g2 := F0 m 192 ls [.int (iZ u_49.1.1)]) rfl ?_
          rcases p_52 with ⟨qt_54, cut_54, at_54, bt_54, ct_54, st_54, lt_54, xt_54, ft_54, ut_54, vt_54⟩ | ⟨qt_54, st_54, bt_54⟩
          ·
            rw [qt_54]
            obtain ⟨⟨ar_55, br_55⟩, cr_55, dr_55, er_55, gr_55, hr_55⟩ := id xt_54
            have kr_55 := tk_1 dr_55 (xKd_rg _ _)
            have wr_55 := xKw_rg (tX Xf Msz) cut_54
            have hA4 : ∀ e : Int, 0 ≤ e → (e < 3560 ∨ (4080 ≤ e ∧ e < 4080 + 6 * gz Af 3565)) → gz u_49.2.2.1 e = gz Af e := fun e h1 h2 => by have c1 := ft_54.1 e h1 (by omega); have c2 := hA3 e h1 (by omega); omega
            have h45 : gz u_49.2.2.1 3565 = gz Af 3565 + 1 := by have c1 := ft_54.1 3565 (by omega) (by omega); omega
            have h44 : gz u_49.2.2.1 ((4080 + (6 * gz Af 3565)) + 4) = 0 := by have c1 := ft_54.1 ((4080 + (6 * gz Af 3565)) + 4) (by omega) (by omega); omega
            refine lv_if_ne (tgt := 197) hx hb dX12_yearStep_192 rfl (fun _ => ?_) (fun c => absurd c (by decide))
            exact HJ197 u_49.1.2.1 u_49.1.2.2.1 u_49.1.2.2.2.1 u_49.1.2.2.2.2.1 u_49.1.2.2.2.2.2.1 u_49.1.2.2.2.2.2.2 u_49.2.2.1 Mctx op1 kk cut_54 at_54 bt_54 ct_54 _ _ _ (show (15 ≤ kk ∧ kk ≤ 22) ∧ (0 ≤ op1 ∧ op1 ≤ 1) from (by first | with_reducible assumption | exact ⟨⟨by omega, by omega⟩, by omega, by omega⟩)) (show kk = xPm (xKw (tX Xf Msz) cu) from (by first | with_reducible assumption | exact jx)) (show (op1 = 1 ∧ (kk = 19 ∨ kk = 20) ∧ Mdp < 3) ∨ (op1 = 0 ∧ ¬ kk = 19 ∧ ¬ kk = 20) from (jo ())) (show kk = 21 → 0 < Mdp from (jd ())) (show (kk = 21 ∧ (Mctx : Int) = Mct) ∨ (¬ kk = 21 ∧ (Mctx : Int) = Mct + 1 ∧ Mct < 30) from (jc ())) (show (0 ≤ (u_49.1.2.2.1 : Int) ∧ (u_49.1.2.2.1 : Int) ≤ u_49.1.2.2.2.1) ∧ ((u_49.1.2.2.2.1 : Int) ≤ Msz ∧ (Msz : Int) ≤ 900) ∧ (0 ≤ (u_49.1.2.1 : Int) ∧ (u_49.1.2.1 : Int) ≤ 4) ∧ ((u_49.1.2.1 : Int) ≤ 4 * (u_49.1.2.2.2.1 - u_49.1.2.2.1)) ∧ (-1 ≤ (u_49.1.2.2.2.2.1 : Int) ∧ (u_49.1.2.2.2.2.1 : Int) ≤ 100000) from (by first | with_reducible assumption | exact (by first | with_reducible assumption | exact ⟨⟨by omega, by omega⟩, ⟨by omega, by omega⟩, ⟨by omega, by omega⟩, by omega, by omega, by omega⟩))) (show (u_49.1.2.2.2.2.2.1 : Int) = 0 ∧ u_49.1.2.2.2.2.2.2 = Mfp from ⟨by omega, by omega⟩) (show RFX (tX Xf Msz) cut_54 u_49.1.2.2.1 u_49.1.2.2.2.1 u_49.1.2.1 u_49.1.2.2.2.2.1 from xt_54) (show cu < cut_54 from (Int.lt_of_lt_of_le (rf_lt hrf (kw_kd (fun h9 => by have y8 := yw_rg (hy8 ()); rw [h9] at y8; exact absurd y8.1 (by decide)))) lt_54)) (show ∀ e : Int, 0 ≤ e → (e < 3560 ∨ (4080 ≤ e ∧ e < 4080 + 6 * gz Af 3565)) → gz u_49.2.2.1 e = gz Af e from hA4) (show gz u_49.2.2.1 3565 = gz Af 3565 + 1 from h45) (show gz u_49.2.2.1 (4080 + (6 * (gz Af 3565))) = yCd (xKw (tX Xf Msz) cu) at_54 from ft_54.2.1) (show yRS u_49.2.2.1 (4080 + (6 * (gz Af 3565))) (xKw (tX Xf Msz) cu) at_54 bt_54 ct_54 from ft_54.2.2) (show gz u_49.2.2.1 ((4080 + (6 * (gz Af 3565))) + 4) = 0 from h44) (show xRe (tX Xf Msz) N n (xKw (tX Xf Msz) cu) (xEn (tX Xf Msz) cu) = .inr (cut_54, at_54, bt_54, ct_54) from st_54) (hP.sub [1, 2, 3, 4, 0] rfl) (hD.sub [1, 2, 3, 4, 0] rfl rfl) hS (lv_sub hl [1, 2, 3, 4, 5] rfl)
          ·
            rw [qt_54]
            have kzt_54 := p_53 qt_54
            refine lv_if_ne (tgt := 197) hx hb dX12_yearStep_192 rfl (fun c => absurd (by decide) c) (fun _ => ?_)
            refine lv_iconst (v := iZ 0) hx hb dX12_yearStep_195 rfl ?_
            exact EWz hx hb hr hlocks hS ((0, u_49.1.2.1, u_49.1.2.2.1, u_49.1.2.2.2.1, u_49.1.2.2.2.2.1, u_49.1.2.2.2.2.2.1, u_49.1.2.2.2.2.2.2, Mdp, Mctx), 0, (u_49.2.2.1, Of), ()) rfl rfl ⟨(show (0 ≤ (u_49.1.2.2.1 : Int) ∧ (u_49.1.2.2.1 : Int) ≤ u_49.1.2.2.2.1) ∧ ((u_49.1.2.2.2.1 : Int) ≤ Msz ∧ (Msz : Int) ≤ 900) ∧ (0 ≤ (u_49.1.2.1 : Int) ∧ (u_49.1.2.1 : Int) ≤ 4) ∧ ((u_49.1.2.1 : Int) ≤ 4 * (u_49.1.2.2.2.1 - u_49.1.2.2.1)) ∧ (-1 ≤ (u_49.1.2.2.2.2.1 : Int) ∧ (u_49.1.2.2.2.2.1 : Int) ≤ 100000) from (by first | with_reducible assumption | exact (by first | with_reducible assumption | exact ⟨⟨by omega, by omega⟩, ⟨by omega, by omega⟩, ⟨by omega, by omega⟩, by omega, by omega, by omega⟩))), (show 0 ≤ (u_49.1.2.2.2.2.2.1 : Int) ∧ (u_49.1.2.2.2.2.2.1 : Int) ≤ 9 from (by omega)), (show KP u_49.2.2.1 Af from (KP.tr kzt_54 (fun e h1 h2 => hA3 e h1 (Or.inl h2)))), (show ((0 : Int) = 1 ∧ ∃ (q9 : Int) (W9 A9 B9 C9 P9 O9 : Int → Int), xYp (tX Xf Msz) N n cu (gz Af 3565, Mct, Mdp, W0, A0, B0, C0, P0, O0) = .inr (q9, (gz u_49.2.2.1 3565, Mctx, Mdp, W9, A9, B9, C9, P9, O9)) ∧ cu < q9 ∧ RFX (tX Xf Msz) q9 u_49.1.2.2.1 u_49.1.2.2.2.1 u_49.1.2.1 u_49.1.2.2.2.2.1 ∧ YRL u_49.2.2.1 Of Mdp W9 A9 B9 C9 P9 O9 ∧ (u_49.1.2.2.2.2.2.1 : Int) = 0 ∧ u_49.1.2.2.2.2.2.2 = Mfp) ∨ ((0 : Int) = 0 ∧ xYp (tX Xf Msz) N n cu (gz Af 3565, Mct, Mdp, W0, A0, B0, C0, P0, O0) = .inl (u_49.1.2.2.2.2.2.1, u_49.1.2.2.2.2.2.2) ∧ 1 ≤ (u_49.1.2.2.2.2.2.1 : Int)) from (Or.inr ⟨rfl, xYp_a (show ((xKw (tX Xf Msz) cu) = 15 ∨ (xKw (tX Xf Msz) cu) = 16 ∨ (xKw (tX Xf Msz) cu) = 17 ∨ (xKw (tX Xf Msz) cu) = 18 ∨ (xKw (tX Xf Msz) cu) = 19 ∨ (xKw (tX Xf Msz) cu) = 22 ∨ (xKw (tX Xf Msz) cu) = 24) ∨ (xKw (tX Xf Msz) cu) = 23 from yw_78 (hy8 ())) (by by_cases h9 : kk = 21; exact Or.inl ((hy23 ()).mp h9); exact Or.inr (by have q9 := jc (); omega)) (show ¬ (((xKw (tX Xf Msz) cu) = 19 ∨ (xKw (tX Xf Msz) cu) = 22) ∧ 3 ≤ Mdp) from yo_7 (hyo ())) st_54, by omega⟩)), (show 0 ≤ (Mctx : Int) ∧ (Mctx : Int) ≤ 31 from (by have q9 := jc (); omega))⟩ (hP.sub [1, 2, 3, 4, 0] rfl) (hD.sub [1, 2, 3, 4, 0] rfl rfl) dX12_yearStep_196
        ·
          have c_38 := mt (zle (x := iZ 6) (y := iZ v5_147) rfl rfl wn_6 ⟨by omega, by omega⟩).mpr c_38
          refine lv_aload_n hx hb dX12_yearStep_154 rfl (lv_at hl 5 rfl) ?_
          refine va_get (D := D) (ci := 12) (v := .ref Ma) (C := RX12) (T := TX12) (N := 36) hx hb hts iX12 hown hK hP 0 rfl rfl 0 (bl rfl) (hts _ qf_X12_7) (fun _ h => h) rfl dX12_yearStep_155 ?_
          refine lv_iload_n hx hb dX12_yearStep_158 rfl (lv_at hl 2 rfl) ?_
          refine lv_iload hx hb dX12_yearStep_159 (lv_at hl 0 rfl) ?_
          refine lv_iadd hx hb dX12_yearStep_161 ?_
          refine lv_topi (fun x_58 ex_58 => ?_)
          obtain rfl : x_58 = iZ ((4080 + (6 * (gz Af 3565))) + v5_147) := ex_58.trans (iZ_add (4080 + (6 * (gz Af 3565))) v5_147)
          refine lv_iconst (v := iZ 0) hx hb dX12_yearStep_162 rfl ?_
          refine va_iast hx hb hK hP hD hS 2 1 rfl rfl (zin (e := ((4080 + (6 * (gz Af 3565))) + v5_147)) (n := 5340) ⟨by omega, by omega⟩ (bl rfl)) dX12_yearStep_163 (fun H locs hP hD hS => ?_)
          obtain ⟨f_59, hf_59⟩ : ∃ gg9, gg9 = upd Afq147 (iZ ((4080 + (6 * (gz Af 3565))) + v5_147)).toNatClampNeg (iZ 0) := ⟨_, rfl⟩
          rw [← hf_59] at hP hD
          refine lv_iinc (v := iZ (v5_147 + 1)) (lv' := [(5, .int (iZ (v5_147 + 1))), (4, .int (iZ op1)), (3, .int (iZ (4080 + (6 * (gz Af 3565))))), (2, .int (iZ (gz Af 3565))), (1, .int (iZ kk)), (0, .ref hm)]) hx hb dX12_yearStep_164 hl (k := 0) rfl (iZ_add v5_147 1) (by decide) rfl (fun ls hl => ?_)
          refine lv_goto (tgt := 147) hx hb dX12_yearStep_167 rfl ?_
          exact ih147  (v5_147 + 1) f_59 _ _ _ (by omega) (show (1 ≤ (v5_147 + 1) ∧ (v5_147 + 1) ≤ (5) + 1) from ⟨by omega, by omega⟩) (show ∀ e : Int, 0 ≤ e → (e < (4080 + (6 * (gz Af 3565))) + 1 ∨ (4080 + (6 * (gz Af 3565))) + (v5_147 + 1) ≤ e) → gz f_59 e = gz f_37 e from (fun e h1 h2 => by have c1 := gz_upc (j := e) hf_59 ⟨by omega, by omega⟩ ⟨by omega, by omega⟩ (by omega); have := hz1 e (by omega) (by omega); omega)) (show ∀ e : Int, (4080 + (6 * (gz Af 3565))) + 1 ≤ e → e < (4080 + (6 * (gz Af 3565))) + (v5_147 + 1) → gz f_59 e = 0 from (fun e h1 h2 => by have c1 := gz_upc (j := e) hf_59 ⟨by omega, by omega⟩ ⟨by omega, by omega⟩ (by omega); rcases Int.lt_or_eq_of_le (show e ≤ (4080 + (6 * (gz Af 3565))) + v5_147 by omega) with h3 | h3; have := hz2 e h1 (by omega); omega; omega)) (hP.sub [0, 1, 2, 3, 4] rfl) (hD.sub [0, 1, 2, 3, 4] rfl rfl) hS (lv_sub hl [0, 1, 2, 3, 4, 5] rfl)
    exact HL147 9 1 f_37 _ _ _ (by omega) (show (1 ≤ 1 ∧ 1 ≤ (5) + 1) from ⟨by omega, by omega⟩) (show ∀ e : Int, 0 ≤ e → (e < (4080 + (6 * (gz Af 3565))) + 1 ∨ (4080 + (6 * (gz Af 3565))) + 1 ≤ e) → gz f_37 e = gz f_37 e from (fun e h1 h2 => rfl)) (show ∀ e : Int, (4080 + (6 * (gz Af 3565))) + 1 ≤ e → e < (4080 + (6 * (gz Af 3565))) + 1 → gz f_37 e = 0 from (fun e h1 h2 => absurd h1 (by omega))) (hP.sub [0, 1, 2, 3, 4] rfl) (hD.sub [0, 1, 2, 3, 4] rfl rfl) hS (lv_sub hl [0, 1, 2, 3, 4, 5] rfl)
  have HJ117 : ∀ (op1 : Int) (kk : Int) (H : Heap) (locs : List Loc) (ls : Array Slot), ((15 ≤ kk ∧ kk ≤ 22) ∧ (0 ≤ op1 ∧ op1 ≤ 1)) → (kk = xPm (xKw (tX Xf Msz) cu)) → ((op1 = 1 ∧ (kk = 19 ∨ kk = 20) ∧ Mdp < 3) ∨ (op1 = 0 ∧ ¬ kk = 19 ∧ ¬ kk = 20)) → (kk = 21 → 0 < Mdp) → (kk = 21 ∨ Mct < 30) → va_P D vwCl [(hm, .inr (12, [.ref Ma, .ref Mn, .int (iZ Mst), .long Mtp, .long Mbt, .ref Ms, .ref My, .ref Mt, .ref Mp, .ref Mx, .int (iZ Mtd), .int (iZ Msz), .int (iZ Mtk), .int (iZ Mfr), .int (iZ Men), .int (iZ Mva), .int (iZ Mfk), .int (iZ Mfp), .int (iZ Mfs), .int (iZ Mse), .int (iZ Mlt), .ref Mo, .int (iZ Mdp), .int (iZ Mct), .ref Mk, .ref Ml, .ref Mb, .ref Mh, .ref Mc, .int (iZ Mdr), .int (iZ Mrs), .ref Mz, .ref Mr, .ref Mq, .int (iZ Mit), .int (iZ Mmk)])), (Mx, .inl (k 0, 900, .inl Xf)), (Ma, .inl (k 1, 5340, .inl Af)), (Mn, .inl (k 2, 36, .inr (.inl Nf))), (Mo, .inl (k 1, 3, .inl Of))] H → va_D A [(hm, .inr (12, [.ref Ma, .ref Mn, .int (iZ Mst), .long Mtp, .long Mbt, .ref Ms, .ref My, .ref Mt, .ref Mp, .ref Mx, .int (iZ Mtd), .int (iZ Msz), .int (iZ Mtk), .int (iZ Mfr), .int (iZ Men), .int (iZ Mva), .int (iZ Mfk), .int (iZ Mfp), .int (iZ Mfs), .int (iZ Mse), .int (iZ Mlt), .ref Mo, .int (iZ Mdp), .int (iZ Mct), .ref Mk, .ref Ml, .ref Mb, .ref Mh, .ref Mc, .int (iZ Mdr), .int (iZ Mrs), .ref Mz, .ref Mr, .ref Mq, .int (iZ Mit), .int (iZ Mmk)])), (Mx, .inl (k 0, 900, .inl Xf)), (Ma, .inl (k 1, 5340, .inl Af)), (Mn, .inl (k 2, 36, .inr (.inl Nf))), (Mo, .inl (k 1, 3, .inl Of))] → va_S A s.heap H locs → lv_has ls 6 [(4, .int (iZ op1)), (3, .int (iZ (4080 + (6 * (gz Af 3565))))), (2, .int (iZ (gz Af 3565))), (1, .int (iZ kk)), (0, .ref hm)] → W p l e (rj 10 0 0) s m [.ref hm].toArray below meth c H locs 0 0 (MQ below (QW (σ := ((Int × Int × Int × Int × Int × Int × Int × Int × Int) × (Int64) × ((Nat → Int32) × (Nat → Int32)) × (Unit))) (fun u => some (.int (iZ u.1.1))) (fun u => ((0 ≤ (u.1.2.2.1 : Int) ∧ (u.1.2.2.1 : Int) ≤ u.1.2.2.2.1) ∧ ((u.1.2.2.2.1 : Int) ≤ Msz ∧ (Msz : Int) ≤ 900) ∧ (0 ≤ (u.1.2.1 : Int) ∧ (u.1.2.1 : Int) ≤ 4) ∧ ((u.1.2.1 : Int) ≤ 4 * (u.1.2.2.2.1 - u.1.2.2.1)) ∧ (-1 ≤ (u.1.2.2.2.2.1 : Int) ∧ (u.1.2.2.2.2.1 : Int) ≤ 100000)) ∧ (0 ≤ (u.1.2.2.2.2.2.1 : Int) ∧ (u.1.2.2.2.2.2.1 : Int) ≤ 9) ∧ (KP u.2.2.1.1 Af) ∧ (((u.1.1 : Int) = 1 ∧ ∃ (q9 : Int) (W9 A9 B9 C9 P9 O9 : Int → Int), xYp (tX Xf Msz) N n cu (gz Af 3565, Mct, Mdp, W0, A0, B0, C0, P0, O0) = .inr (q9, (gz u.2.2.1.1 3565, u.1.2.2.2.2.2.2.2.2, u.1.2.2.2.2.2.2.2.1, W9, A9, B9, C9, P9, O9)) ∧ cu < q9 ∧ RFX (tX Xf Msz) q9 u.1.2.2.1 u.1.2.2.2.1 u.1.2.1 u.1.2.2.2.2.1 ∧ YRL u.2.2.1.1 u.2.2.1.2 u.1.2.2.2.2.2.2.2.1 W9 A9 B9 C9 P9 O9 ∧ (u.1.2.2.2.2.2.1 : Int) = 0 ∧ u.1.2.2.2.2.2.2.1 = Mfp) ∨ ((u.1.1 : Int) = 0 ∧ xYp (tX Xf Msz) N n cu (gz Af 3565, Mct, Mdp, W0, A0, B0, C0, P0, O0) = .inl (u.1.2.2.2.2.2.1, u.1.2.2.2.2.2.2.1) ∧ 1 ≤ (u.1.2.2.2.2.2.1 : Int))) ∧ (0 ≤ (u.1.2.2.2.2.2.2.2.2 : Int) ∧ (u.1.2.2.2.2.2.2.2.2 : Int) ≤ 31)) (fun u => [(hm, .inr (12, [.ref Ma, .ref Mn, .int (iZ Mst), .long Mtp, .long Mbt, .ref Ms, .ref My, .ref Mt, .ref Mp, .ref Mx, .int (iZ Mtd), .int (iZ Msz), .int (iZ u.1.2.1), .int (iZ u.1.2.2.1), .int (iZ u.1.2.2.2.1), .int (iZ u.1.2.2.2.2.1), .int (iZ Mfk), .int (iZ u.1.2.2.2.2.2.2.1), .int (iZ u.1.2.2.2.2.2.1), .int (iZ Mse), .int (iZ Mlt), .ref Mo, .int (iZ u.1.2.2.2.2.2.2.2.1), .int (iZ u.1.2.2.2.2.2.2.2.2), .ref Mk, .ref Ml, .ref Mb, .ref Mh, .ref Mc, .int (iZ Mdr), .int (iZ Mrs), .ref Mz, .ref Mr, .ref Mq, .int (iZ Mit), .int (iZ Mmk)])), (Mx, .inl (k 0, 900, .inl Xf)), (Ma, .inl (k 1, 5340, .inl u.2.2.1.1)), (Mn, .inl (k 2, 36, .inr (.inl Nf))), (Mo, .inl (k 1, 3, .inl u.2.2.1.2))]) D A) [.ref hm].toArray s 0 0 A) (F0 m 117 ls []) := by
    intro op1 kk H locs ls jk jx jo jd jcc hP hD hS hl
    refine lv_aload_n hx hb dX12_yearStep_117 rfl (lv_at hl 4 rfl) ?_
    refine lv_dup hx hb dX12_yearStep_118 rfl ?_
    refine va_get (D := D) (ci := 12) (v := .int (iZ Mct)) (C := RX12) (T := TX12) (N := 36) hx hb hts iX12 hown hK hP 0 rfl rfl 23 (bl rfl) (hts _ qf_X12_234) (fun _ h => h) rfl dX12_yearStep_119 ?_
    refine lv_iload_n hx hb dX12_yearStep_122 rfl (lv_at hl 3 rfl) ?_
    refine lv_bipush (v := iZ 21) hx hb dX12_yearStep_123 bip_21 ?_
    refine lv_icmp_ne (tgt := 132) hx hb dX12_yearStep_125 rfl (fun c_60 => ?_) (fun c_60 => ?_)
    ·
      have c_60 := mt (zeq (x := iZ kk) (y := iZ 21) rfl rfl ⟨by omega, by omega⟩ wn_21).mpr c_60
      refine lv_iconst (v := iZ 1) hx hb dX12_yearStep_132 rfl ?_
      refine lv_iadd hx hb dX12_yearStep_133 ?_
      refine lv_topi (fun x_61 ex_61 => ?_)
      obtain rfl : x_61 = iZ (Mct + 1) := ex_61.trans (iZ_add Mct 1)
      refine va_put (D := D) (ci := 12) (v := .int (iZ (Mct + 1))) (ty := .int) (C := RX12) (T := TX12) (N := 36) hx hb hts iX12 tyX12 tyX12_ok nmX12 hown hK hP hD hS 0 rfl rfl 23 (bl rfl) (hts _ qf_X12_234) (fun _ h => h) rfl (by decide +kernel) rfl rfl (Nat.le_of_ble_eq_true rfl) dX12_yearStep_134 (fun H locs hP hD hS => ?_)
      exact HJ137 (Mct + 1) op1 kk _ _ _ (show (15 ≤ kk ∧ kk ≤ 22) ∧ (0 ≤ op1 ∧ op1 ≤ 1) from (by first | with_reducible assumption | exact ⟨⟨by omega, by omega⟩, by omega, by omega⟩)) (show kk = xPm (xKw (tX Xf Msz) cu) from (by first | with_reducible assumption | exact jx)) (show (op1 = 1 ∧ (kk = 19 ∨ kk = 20) ∧ Mdp < 3) ∨ (op1 = 0 ∧ ¬ kk = 19 ∧ ¬ kk = 20) from (by first | with_reducible assumption | omega)) (show kk = 21 → 0 < Mdp from (by first | with_reducible assumption | exact fun h9 => by omega)) (show (kk = 21 ∧ ((Mct + 1) : Int) = Mct) ∨ (¬ kk = 21 ∧ ((Mct + 1) : Int) = Mct + 1 ∧ Mct < 30) from (by first | with_reducible assumption | omega)) (hP.sub [0, 1, 2, 3, 4] rfl) (hD.sub [0, 1, 2, 3, 4] rfl rfl) hS (lv_sub hl [0, 1, 2, 3, 4] rfl)
    ·
      have c_60 := (zeq (x := iZ kk) (y := iZ 21) rfl rfl ⟨by omega, by omega⟩ wn_21).mp c_60
      refine lv_iconst (v := iZ 0) hx hb dX12_yearStep_128 rfl ?_
      refine lv_goto (tgt := 133) hx hb dX12_yearStep_129 rfl ?_
      refine lv_iadd hx hb dX12_yearStep_133 ?_
      refine lv_topi (fun x_62 ex_62 => ?_)
      obtain rfl : x_62 = iZ (Mct + 0) := ex_62.trans (iZ_add Mct 0)
      refine va_put (D := D) (ci := 12) (v := .int (iZ (Mct + 0))) (ty := .int) (C := RX12) (T := TX12) (N := 36) hx hb hts iX12 tyX12 tyX12_ok nmX12 hown hK hP hD hS 0 rfl rfl 23 (bl rfl) (hts _ qf_X12_234) (fun _ h => h) rfl (by decide +kernel) rfl rfl (Nat.le_of_ble_eq_true rfl) dX12_yearStep_134 (fun H locs hP hD hS => ?_)
      exact HJ137 (Mct + 0) op1 kk _ _ _ (show (15 ≤ kk ∧ kk ≤ 22) ∧ (0 ≤ op1 ∧ op1 ≤ 1) from (by first | with_reducible assumption | exact ⟨⟨by omega, by omega⟩, by omega, by omega⟩)) (show kk = xPm (xKw (tX Xf Msz) cu) from (by first | with_reducible assumption | exact jx)) (show (op1 = 1 ∧ (kk = 19 ∨ kk = 20) ∧ Mdp < 3) ∨ (op1 = 0 ∧ ¬ kk = 19 ∧ ¬ kk = 20) from (by first | with_reducible assumption | omega)) (show kk = 21 → 0 < Mdp from (by first | with_reducible assumption | exact fun h9 => by omega)) (show (kk = 21 ∧ ((Mct + 0) : Int) = Mct) ∨ (¬ kk = 21 ∧ ((Mct + 0) : Int) = Mct + 1 ∧ Mct < 30) from (by first | with_reducible assumption | omega)) (hP.sub [0, 1, 2, 3, 4] rfl) (hD.sub [0, 1, 2, 3, 4] rfl rfl) hS (lv_sub hl [0, 1, 2, 3, 4] rfl)
  refine lv_aload_n hx hb dX12_yearStep_0 rfl (lv_at hl 0 rfl) ?_
  refine va_ldcS hx hb hown hRR dX12_yearStep_1 ?_
  refine CSV (As := [.ref sa]) (rest := []) (wc := _) (wr := [(Ma, .inl (k 1, 5340, .inl Af)), (Mn, .inl (k 2, 36, .inr (.inl Nf))), (Mo, .inl (k 1, 3, .inl Of))]) hx hb hml hown hts hKK hP hD hS hA hSY hRR (y_inWords l D k sa sv ([.ref Ma, .ref Mn, .int (iZ Mst), .long Mtp, .long Mbt, .ref Ms, .ref My, .ref Mt, .ref Mp, .ref Mx, .int (iZ Mtd), .int (iZ Msz), .int (iZ Mtk), .int (iZ Mfr), .int (iZ Men), .int (iZ Mva), .int (iZ Mfk), .int (iZ Mfp), .int (iZ Mfs), .int (iZ Mse), .int (iZ Mlt), .ref Mo, .int (iZ Mdp), .int (iZ Mct), .ref Mk, .ref Ml, .ref Mb, .ref Mh, .ref Mc, .int (iZ Mdr), .int (iZ Mrs), .ref Mz, .ref Mr, .ref Mq, .int (iZ Mit), .int (iZ Mmk)]) hm Mx Msz Mtk Mfr Men Xf cu rfl rfl rfl rfl rfl ⟨⟨⟨by omega, by omega⟩, by omega, by omega⟩, by omega, by omega⟩ ⟨⟨br_1, cr_1⟩, dr_1, gr_1⟩) ci_X12_inWords qm_X12_167 ⟨Nat.le_of_ble_eq_true rfl, Nat.le_of_ble_eq_true rfl⟩ ⟨Nat.le_of_ble_eq_true rfl, Nat.le_of_ble_eq_true rfl⟩ [0, 1] [2, 3, 4] rfl rfl rfl rfl rfl (dj rfl) 0 rfl rfl rfl hl.1 rfl (Nat.le_of_ble_eq_true rfl) dX12_yearStep_3 (fun u_63 H locs hφ hP hD hS => ?_)
  have p_64 : u_63.1 = xPm (xKw (tX Xf Msz) cu) := hφ
  have pm_65 := xPm_rg (xKw_rg (tX Xf Msz) cu)
  refine W.eq (g2 := F0 m 6 ls [.int (iZ u_63.1)]) rfl ?_
  refine lv_istore_n (lv' := [(1, .int (iZ u_63.1)), (0, .ref hm)]) hx hb dX12_yearStep_6 rfl hl (bl rfl) rfl (fun ls hl => ?_)
  obtain ⟨py1, py2, py3, py4⟩ := xPm_yr (k := (xKw (tX Xf Msz) cu)) (xKw_rg _ _)
  rw [← p_64] at py1 py2 py3 py4
  have pyh : Unit → _ := fun _ => And.intro py1 (And.intro py2 (And.intro py3 py4))
  clear py1 py2 py3 py4
  refine lv_aload_n hx hb dX12_yearStep_7 rfl (lv_at hl 1 rfl) ?_
  refine va_get (D := D) (ci := 12) (v := .ref Ma) (C := RX12) (T := TX12) (N := 36) hx hb hts iX12 hown hK hP 3 rfl rfl 0 (bl rfl) (hts _ qf_X12_7) (fun _ h => h) rfl dX12_yearStep_8 ?_
  refine lv_sipush (v := iZ 3565) hx hb dX12_yearStep_11 sip_3565 ?_
  refine va_iald hx hb hK hP 0 1 rfl rfl (zin (e := 3565) (n := 5340) ⟨by omega, by omega⟩ (bl rfl)) dX12_yearStep_14 ?_
  refine lv_topi (fun x_66 ex_66 => ?_)
  obtain rfl : x_66 = iZ (gz Af 3565) := ex_66.trans (gz_eq ⟨by omega, by omega⟩)
  have h_67 := gz_rg Af 3565
  refine lv_istore_n (lv' := [(2, .int (iZ (gz Af 3565))), (1, .int (iZ u_63.1)), (0, .ref hm)]) hx hb dX12_yearStep_15 rfl hl (bl rfl) rfl (fun ls hl => ?_)
  refine lv_sipush (v := iZ 4080) hx hb dX12_yearStep_16 sip_4080 ?_
  refine lv_bipush (v := iZ 6) hx hb dX12_yearStep_19 bip_6 ?_
  refine lv_iload_n hx hb dX12_yearStep_21 rfl (lv_at hl 0 rfl) ?_
  refine lv_imul hx hb dX12_yearStep_22 ?_
  refine lv_topi (fun x_68 ex_68 => ?_)
  obtain rfl : x_68 = iZ (6 * (gz Af 3565)) := ex_68.trans (iZ_mul 6 (gz Af 3565))
  refine lv_iadd hx hb dX12_yearStep_23 ?_
  refine lv_topi (fun x_69 ex_69 => ?_)
  obtain rfl : x_69 = iZ (4080 + (6 * (gz Af 3565))) := ex_69.trans (iZ_add 4080 (6 * (gz Af 3565)))
  refine lv_istore_n (lv' := [(3, .int (iZ (4080 + (6 * (gz Af 3565))))), (2, .int (iZ (gz Af 3565))), (1, .int (iZ u_63.1)), (0, .ref hm)]) hx hb dX12_yearStep_24 rfl hl (bl rfl) rfl (fun ls hl => ?_)
  refine lv_iload_n hx hb dX12_yearStep_25 rfl (lv_at hl 2 rfl) ?_
  refine lv_bipush (v := iZ 19) hx hb dX12_yearStep_26 bip_19 ?_
  refine lv_icmp_eq (tgt := 37) hx hb dX12_yearStep_28 rfl (fun c_70 => ?_) (fun c_70 => ?_)
  ·
    have c_70 := (zeq (x := iZ u_63.1) (y := iZ 19) rfl rfl ⟨by omega, by omega⟩ wn_19).mp c_70
    refine lv_iconst (v := iZ 1) hx hb dX12_yearStep_37 rfl ?_
    refine lv_goto (tgt := 42) hx hb dX12_yearStep_38 rfl ?_
    refine lv_istore (lv' := [(4, .int (iZ 1)), (3, .int (iZ (4080 + (6 * (gz Af 3565))))), (2, .int (iZ (gz Af 3565))), (1, .int (iZ u_63.1)), (0, .ref hm)]) hx hb dX12_yearStep_42 hl (bl rfl) rfl (fun ls hl => ?_)
    refine lv_iload_n hx hb dX12_yearStep_44 rfl (lv_at hl 3 rfl) ?_
    refine lv_bipush (v := iZ 15) hx hb dX12_yearStep_45 bip_15 ?_
    refine lv_icmp_lt (tgt := 69) hx hb dX12_yearStep_47 rfl (fun c_71 => ?_) (fun c_71 => ?_)
    ·
      have c_71 := (zlt (x := iZ u_63.1) (y := iZ 15) rfl rfl ⟨by omega, by omega⟩ wn_15).mp c_71
      exact absurd c_71 (by omega)
    ·
      have c_71 := mt (zlt (x := iZ u_63.1) (y := iZ 15) rfl rfl ⟨by omega, by omega⟩ wn_15).mpr c_71
      refine lv_iload_n hx hb dX12_yearStep_50 rfl (lv_at hl 3 rfl) ?_
      refine lv_bipush (v := iZ 22) hx hb dX12_yearStep_51 bip_22 ?_
      refine lv_icmp_gt (tgt := 69) hx hb dX12_yearStep_53 rfl (fun c_72 => ?_) (fun c_72 => ?_)
      ·
        have c_72 := (zlt (x := iZ 22) (y := iZ u_63.1) rfl rfl wn_22 ⟨by omega, by omega⟩).mp c_72
        exact absurd c_72 (by omega)
      ·
        have c_72 := mt (zlt (x := iZ 22) (y := iZ u_63.1) rfl rfl wn_22 ⟨by omega, by omega⟩).mpr c_72
        refine lv_iload_n hx hb dX12_yearStep_56 rfl (lv_at hl 3 rfl) ?_
        refine lv_bipush (v := iZ 21) hx hb dX12_yearStep_57 bip_21 ?_
        refine lv_icmp_ne (tgt := 75) hx hb dX12_yearStep_59 rfl (fun c_73 => ?_) (fun c_73 => ?_)
        ·
          have c_73 := mt (zeq (x := iZ u_63.1) (y := iZ 21) rfl rfl ⟨by omega, by omega⟩ wn_21).mpr c_73
          refine lv_iload_n hx hb dX12_yearStep_75 rfl (lv_at hl 3 rfl) ?_
          refine lv_bipush (v := iZ 21) hx hb dX12_yearStep_76 bip_21 ?_
          refine lv_icmp_eq (tgt := 97) hx hb dX12_yearStep_78 rfl (fun c_74 => ?_) (fun c_74 => ?_)
          ·
            have c_74 := (zeq (x := iZ u_63.1) (y := iZ 21) rfl rfl ⟨by omega, by omega⟩ wn_21).mp c_74
            exact absurd c_74 (by omega)
          ·
            have c_74 := mt (zeq (x := iZ u_63.1) (y := iZ 21) rfl rfl ⟨by omega, by omega⟩ wn_21).mpr c_74
            refine lv_aload_n hx hb dX12_yearStep_81 rfl (lv_at hl 4 rfl) ?_
            refine va_get (D := D) (ci := 12) (v := .int (iZ Mct)) (C := RX12) (T := TX12) (N := 36) hx hb hts iX12 hown hK hP 3 rfl rfl 23 (bl rfl) (hts _ qf_X12_234) (fun _ h => h) rfl dX12_yearStep_82 ?_
            refine lv_bipush (v := iZ 30) hx hb dX12_yearStep_85 bip_30 ?_
            refine lv_icmp_ne (tgt := 97) hx hb dX12_yearStep_87 rfl (fun c_75 => ?_) (fun c_75 => ?_)
            ·
              have c_75 := mt (zeq (x := iZ Mct) (y := iZ 30) rfl rfl ⟨by omega, by omega⟩ wn_30).mpr c_75
              refine lv_iload hx hb dX12_yearStep_97 (lv_at hl 0 rfl) ?_
              refine lv_if_eq (tgt := 117) hx hb dX12_yearStep_99 rfl (fun c => absurd c (by decide)) (fun _ => ?_)
              refine lv_aload_n hx hb dX12_yearStep_102 rfl (lv_at hl 4 rfl) ?_
              refine va_get (D := D) (ci := 12) (v := .int (iZ Mdp)) (C := RX12) (T := TX12) (N := 36) hx hb hts iX12 hown hK hP 3 rfl rfl 22 (bl rfl) (hts _ qf_X12_231) (fun _ h => h) rfl dX12_yearStep_103 ?_
              refine lv_iconst (v := iZ 3) hx hb dX12_yearStep_106 rfl ?_
              refine lv_icmp_ne (tgt := 117) hx hb dX12_yearStep_107 rfl (fun c_77 => ?_) (fun c_77 => ?_)
              ·
                have c_77 := mt (zeq (x := iZ Mdp) (y := iZ 3) rfl rfl ⟨by omega, by omega⟩ wn_3).mpr c_77
                exact HJ117 1 u_63.1 _ _ _ (show (15 ≤ u_63.1 ∧ u_63.1 ≤ 22) ∧ (0 ≤ 1 ∧ 1 ≤ 1) from (by first | with_reducible assumption | exact ⟨⟨by omega, by omega⟩, by omega, by omega⟩)) (show u_63.1 = xPm (xKw (tX Xf Msz) cu) from (by first | with_reducible assumption | exact p_64)) (show (1 = 1 ∧ (u_63.1 = 19 ∨ u_63.1 = 20) ∧ Mdp < 3) ∨ (1 = 0 ∧ ¬ u_63.1 = 19 ∧ ¬ u_63.1 = 20) from (by first | with_reducible assumption | omega)) (show u_63.1 = 21 → 0 < Mdp from (by first | with_reducible assumption | exact fun h9 => by omega)) (show u_63.1 = 21 ∨ Mct < 30 from (by omega)) (hP.sub [3, 4, 0, 1, 2] rfl) (hD.sub [3, 4, 0, 1, 2] rfl rfl) hS (lv_sub hl [0, 1, 2, 3, 4] rfl)
              ·
                have c_77 := (zeq (x := iZ Mdp) (y := iZ 3) rfl rfl ⟨by omega, by omega⟩ wn_3).mp c_77
                refine lv_aload_n hx hb dX12_yearStep_110 rfl (lv_at hl 4 rfl) ?_
                refine lv_bipush (v := iZ 7) hx hb dX12_yearStep_111 bip_7 ?_
                refine CWV (As := [.int (iZ 7)]) (rest := []) (wc := _) (wr := [(Ma, .inl (k 1, 5340, .inl Af)), (Mn, .inl (k 2, 36, .inr (.inl Nf))), (Mo, .inl (k 1, 3, .inl Of))]) hx hb hml hown hts hKK hP hD hS hA (y_fails l D k hm Ma Mn Ms My Mt Mp Mx Mo Mk Ml Mb Mh Mc Mz Mr Mq Mst Mtd Msz Mtk Mfr Men Mva Mfk Mfp Mfs Mse Mlt Mdp Mct Mdr Mrs Mit Mmk Mtp Mbt Xf 7 cu ⟨by omega, by omega⟩ (by omega) hrf) ci_X12_fails qm_X12_164 ⟨Nat.le_of_ble_eq_true rfl, Nat.le_of_ble_eq_true rfl⟩ ⟨Nat.le_of_ble_eq_true rfl, Nat.le_of_ble_eq_true rfl⟩ [3, 4] [0, 1, 2] rfl rfl rfl rfl rfl (dj rfl) 0 rfl rfl rfl hl.1 rfl (Nat.le_of_ble_eq_true rfl) dX12_yearStep_113 (fun u_78 H locs hφ hP hD hS => ?_)
                obtain ⟨p_79, p_80⟩ : (u_78.1.2.1 = xFl (tX Xf Msz) cu 7 ∧ u_78.1.2.2 = xPl (tX Xf Msz) cu) ∧ (1 ≤ (u_78.1.2.1 : Int) ∧ (u_78.1.2.1 : Int) ≤ 9) := hφ
                refine W.eq (g2 := F0 m 116 ls [.int (iZ 0)]) rfl ?_
                exact EWz hx hb hr hlocks hS ((0, Mtk, Mfr, Men, Mva, u_78.1.2.1, u_78.1.2.2, Mdp, Mct), 0, (Af, Of), ()) rfl rfl ⟨(show (0 ≤ (Mfr : Int) ∧ (Mfr : Int) ≤ Men) ∧ ((Men : Int) ≤ Msz ∧ (Msz : Int) ≤ 900) ∧ (0 ≤ (Mtk : Int) ∧ (Mtk : Int) ≤ 4) ∧ ((Mtk : Int) ≤ 4 * (Men - Mfr)) ∧ (-1 ≤ (Mva : Int) ∧ (Mva : Int) ≤ 100000) from (by first | with_reducible assumption | exact (by first | with_reducible assumption | exact ⟨⟨by omega, by omega⟩, ⟨by omega, by omega⟩, ⟨by omega, by omega⟩, by omega, by omega, by omega⟩))), (show 0 ≤ (u_78.1.2.1 : Int) ∧ (u_78.1.2.1 : Int) ≤ 9 from (by omega)), (show KP Af Af from (KP.rf _)), (show ((0 : Int) = 1 ∧ ∃ (q9 : Int) (W9 A9 B9 C9 P9 O9 : Int → Int), xYp (tX Xf Msz) N n cu (gz Af 3565, Mct, Mdp, W0, A0, B0, C0, P0, O0) = .inr (q9, (gz Af 3565, Mct, Mdp, W9, A9, B9, C9, P9, O9)) ∧ cu < q9 ∧ RFX (tX Xf Msz) q9 Mfr Men Mtk Mva ∧ YRL Af Of Mdp W9 A9 B9 C9 P9 O9 ∧ (u_78.1.2.1 : Int) = 0 ∧ u_78.1.2.2 = Mfp) ∨ ((0 : Int) = 0 ∧ xYp (tX Xf Msz) N n cu (gz Af 3565, Mct, Mdp, W0, A0, B0, C0, P0, O0) = .inl (u_78.1.2.1, u_78.1.2.2) ∧ 1 ≤ (u_78.1.2.1 : Int)) from (Or.inr ⟨rfl, xYp_7 (show ((xKw (tX Xf Msz) cu) = 15 ∨ (xKw (tX Xf Msz) cu) = 16 ∨ (xKw (tX Xf Msz) cu) = 17 ∨ (xKw (tX Xf Msz) cu) = 18 ∨ (xKw (tX Xf Msz) cu) = 19 ∨ (xKw (tX Xf Msz) cu) = 22 ∨ (xKw (tX Xf Msz) cu) = 24) from yw_7 ((pyh ()).1.mp ⟨by omega, by omega⟩) (fun h9 => by have y2 := (pyh ()).2.1.mpr h9; omega)) (by omega) ⟨(show (xKw (tX Xf Msz) cu) = 19 ∨ (xKw (tX Xf Msz) cu) = 22 from (by have y3 : u_63.1 = 19 ∨ u_63.1 = 20 := (by omega); exact y3.elim (fun h => Or.inl ((pyh ()).2.2.1.mp h)) (fun h => Or.inr ((pyh ()).2.2.2.mp h)))), by omega⟩ p_79, by omega⟩)), (show 0 ≤ (Mct : Int) ∧ (Mct : Int) ≤ 31 from (by omega))⟩ (hP.sub [3, 4, 0, 1, 2] rfl) (hD.sub [3, 4, 0, 1, 2] rfl rfl) dX12_yearStep_116
            ·
              have c_75 := (zeq (x := iZ Mct) (y := iZ 30) rfl rfl ⟨by omega, by omega⟩ wn_30).mp c_75
              refine lv_aload_n hx hb dX12_yearStep_90 rfl (lv_at hl 4 rfl) ?_
              refine lv_bipush (v := iZ 6) hx hb dX12_yearStep_91 bip_6 ?_
              refine CWV (As := [.int (iZ 6)]) (rest := []) (wc := _) (wr := [(Ma, .inl (k 1, 5340, .inl Af)), (Mn, .inl (k 2, 36, .inr (.inl Nf))), (Mo, .inl (k 1, 3, .inl Of))]) hx hb hml hown hts hKK hP hD hS hA (y_fails l D k hm Ma Mn Ms My Mt Mp Mx Mo Mk Ml Mb Mh Mc Mz Mr Mq Mst Mtd Msz Mtk Mfr Men Mva Mfk Mfp Mfs Mse Mlt Mdp Mct Mdr Mrs Mit Mmk Mtp Mbt Xf 6 cu ⟨by omega, by omega⟩ (by omega) hrf) ci_X12_fails qm_X12_164 ⟨Nat.le_of_ble_eq_true rfl, Nat.le_of_ble_eq_true rfl⟩ ⟨Nat.le_of_ble_eq_true rfl, Nat.le_of_ble_eq_true rfl⟩ [3, 4] [0, 1, 2] rfl rfl rfl rfl rfl (dj rfl) 0 rfl rfl rfl hl.1 rfl (Nat.le_of_ble_eq_true rfl) dX12_yearStep_93 (fun u_81 H locs hφ hP hD hS => ?_)
              obtain ⟨p_82, p_83⟩ : (u_81.1.2.1 = xFl (tX Xf Msz) cu 6 ∧ u_81.1.2.2 = xPl (tX Xf Msz) cu) ∧ (1 ≤ (u_81.1.2.1 : Int) ∧ (u_81.1.2.1 : Int) ≤ 9) := hφ
              refine W.eq (g2 := F0 m 96 ls [.int (iZ 0)]) rfl ?_
              exact EWz hx hb hr hlocks hS ((0, Mtk, Mfr, Men, Mva, u_81.1.2.1, u_81.1.2.2, Mdp, Mct), 0, (Af, Of), ()) rfl rfl ⟨(show (0 ≤ (Mfr : Int) ∧ (Mfr : Int) ≤ Men) ∧ ((Men : Int) ≤ Msz ∧ (Msz : Int) ≤ 900) ∧ (0 ≤ (Mtk : Int) ∧ (Mtk : Int) ≤ 4) ∧ ((Mtk : Int) ≤ 4 * (Men - Mfr)) ∧ (-1 ≤ (Mva : Int) ∧ (Mva : Int) ≤ 100000) from (by first | with_reducible assumption | exact (by first | with_reducible assumption | exact ⟨⟨by omega, by omega⟩, ⟨by omega, by omega⟩, ⟨by omega, by omega⟩, by omega, by omega, by omega⟩))), (show 0 ≤ (u_81.1.2.1 : Int) ∧ (u_81.1.2.1 : Int) ≤ 9 from (by omega)), (show KP Af Af from (KP.rf _)), (show ((0 : Int) = 1 ∧ ∃ (q9 : Int) (W9 A9 B9 C9 P9 O9 : Int → Int), xYp (tX Xf Msz) N n cu (gz Af 3565, Mct, Mdp, W0, A0, B0, C0, P0, O0) = .inr (q9, (gz Af 3565, Mct, Mdp, W9, A9, B9, C9, P9, O9)) ∧ cu < q9 ∧ RFX (tX Xf Msz) q9 Mfr Men Mtk Mva ∧ YRL Af Of Mdp W9 A9 B9 C9 P9 O9 ∧ (u_81.1.2.1 : Int) = 0 ∧ u_81.1.2.2 = Mfp) ∨ ((0 : Int) = 0 ∧ xYp (tX Xf Msz) N n cu (gz Af 3565, Mct, Mdp, W0, A0, B0, C0, P0, O0) = .inl (u_81.1.2.1, u_81.1.2.2) ∧ 1 ≤ (u_81.1.2.1 : Int)) from (Or.inr ⟨rfl, xYp_6 (show ((xKw (tX Xf Msz) cu) = 15 ∨ (xKw (tX Xf Msz) cu) = 16 ∨ (xKw (tX Xf Msz) cu) = 17 ∨ (xKw (tX Xf Msz) cu) = 18 ∨ (xKw (tX Xf Msz) cu) = 19 ∨ (xKw (tX Xf Msz) cu) = 22 ∨ (xKw (tX Xf Msz) cu) = 24) from yw_7 ((pyh ()).1.mp ⟨by omega, by omega⟩) (fun h9 => by have y2 := (pyh ()).2.1.mpr h9; omega)) (by omega) p_82, by omega⟩)), (show 0 ≤ (Mct : Int) ∧ (Mct : Int) ≤ 31 from (by omega))⟩ (hP.sub [3, 4, 0, 1, 2] rfl) (hD.sub [3, 4, 0, 1, 2] rfl rfl) dX12_yearStep_96
        ·
          have c_73 := (zeq (x := iZ u_63.1) (y := iZ 21) rfl rfl ⟨by omega, by omega⟩ wn_21).mp c_73
          exact absurd c_73 (by omega)
  ·
    have c_70 := mt (zeq (x := iZ u_63.1) (y := iZ 19) rfl rfl ⟨by omega, by omega⟩ wn_19).mpr c_70
    refine lv_iload_n hx hb dX12_yearStep_31 rfl (lv_at hl 2 rfl) ?_
    refine lv_bipush (v := iZ 20) hx hb dX12_yearStep_32 bip_20 ?_
    refine lv_icmp_ne (tgt := 41) hx hb dX12_yearStep_34 rfl (fun c_84 => ?_) (fun c_84 => ?_)
    ·
      have c_84 := mt (zeq (x := iZ u_63.1) (y := iZ 20) rfl rfl ⟨by omega, by omega⟩ wn_20).mpr c_84
      refine lv_iconst (v := iZ 0) hx hb dX12_yearStep_41 rfl ?_
      refine lv_istore (lv' := [(4, .int (iZ 0)), (3, .int (iZ (4080 + (6 * (gz Af 3565))))), (2, .int (iZ (gz Af 3565))), (1, .int (iZ u_63.1)), (0, .ref hm)]) hx hb dX12_yearStep_42 hl (bl rfl) rfl (fun ls hl => ?_)
      refine lv_iload_n hx hb dX12_yearStep_44 rfl (lv_at hl 3 rfl) ?_
      refine lv_bipush (v := iZ 15) hx hb dX12_yearStep_45 bip_15 ?_
      refine lv_icmp_lt (tgt := 69) hx hb dX12_yearStep_47 rfl (fun c_85 => ?_) (fun c_85 => ?_)
      ·
        have c_85 := (zlt (x := iZ u_63.1) (y := iZ 15) rfl rfl ⟨by omega, by omega⟩ wn_15).mp c_85
        refine lv_aload_n hx hb dX12_yearStep_69 rfl (lv_at hl 4 rfl) ?_
        refine lv_iconst (v := iZ 2) hx hb dX12_yearStep_70 rfl ?_
        refine CWV (As := [.int (iZ 2)]) (rest := []) (wc := _) (wr := [(Ma, .inl (k 1, 5340, .inl Af)), (Mn, .inl (k 2, 36, .inr (.inl Nf))), (Mo, .inl (k 1, 3, .inl Of))]) hx hb hml hown hts hKK hP hD hS hA (y_fails l D k hm Ma Mn Ms My Mt Mp Mx Mo Mk Ml Mb Mh Mc Mz Mr Mq Mst Mtd Msz Mtk Mfr Men Mva Mfk Mfp Mfs Mse Mlt Mdp Mct Mdr Mrs Mit Mmk Mtp Mbt Xf 2 cu ⟨by omega, by omega⟩ (by omega) hrf) ci_X12_fails qm_X12_164 ⟨Nat.le_of_ble_eq_true rfl, Nat.le_of_ble_eq_true rfl⟩ ⟨Nat.le_of_ble_eq_true rfl, Nat.le_of_ble_eq_true rfl⟩ [3, 4] [0, 1, 2] rfl rfl rfl rfl rfl (dj rfl) 0 rfl rfl rfl hl.1 rfl (Nat.le_of_ble_eq_true rfl) dX12_yearStep_71 (fun u_86 H locs hφ hP hD hS => ?_)
        obtain ⟨p_87, p_88⟩ : (u_86.1.2.1 = xFl (tX Xf Msz) cu 2 ∧ u_86.1.2.2 = xPl (tX Xf Msz) cu) ∧ (1 ≤ (u_86.1.2.1 : Int) ∧ (u_86.1.2.1 : Int) ≤ 9) := hφ
        refine W.eq (g2 := F0 m 74 ls [.int (iZ 0)]) rfl ?_
        exact EWz hx hb hr hlocks hS ((0, Mtk, Mfr, Men, Mva, u_86.1.2.1, u_86.1.2.2, Mdp, Mct), 0, (Af, Of), ()) rfl rfl ⟨(show (0 ≤ (Mfr : Int) ∧ (Mfr : Int) ≤ Men) ∧ ((Men : Int) ≤ Msz ∧ (Msz : Int) ≤ 900) ∧ (0 ≤ (Mtk : Int) ∧ (Mtk : Int) ≤ 4) ∧ ((Mtk : Int) ≤ 4 * (Men - Mfr)) ∧ (-1 ≤ (Mva : Int) ∧ (Mva : Int) ≤ 100000) from (by first | with_reducible assumption | exact (by first | with_reducible assumption | exact ⟨⟨by omega, by omega⟩, ⟨by omega, by omega⟩, ⟨by omega, by omega⟩, by omega, by omega, by omega⟩))), (show 0 ≤ (u_86.1.2.1 : Int) ∧ (u_86.1.2.1 : Int) ≤ 9 from (by omega)), (show KP Af Af from (KP.rf _)), (show ((0 : Int) = 1 ∧ ∃ (q9 : Int) (W9 A9 B9 C9 P9 O9 : Int → Int), xYp (tX Xf Msz) N n cu (gz Af 3565, Mct, Mdp, W0, A0, B0, C0, P0, O0) = .inr (q9, (gz Af 3565, Mct, Mdp, W9, A9, B9, C9, P9, O9)) ∧ cu < q9 ∧ RFX (tX Xf Msz) q9 Mfr Men Mtk Mva ∧ YRL Af Of Mdp W9 A9 B9 C9 P9 O9 ∧ (u_86.1.2.1 : Int) = 0 ∧ u_86.1.2.2 = Mfp) ∨ ((0 : Int) = 0 ∧ xYp (tX Xf Msz) N n cu (gz Af 3565, Mct, Mdp, W0, A0, B0, C0, P0, O0) = .inl (u_86.1.2.1, u_86.1.2.2) ∧ 1 ≤ (u_86.1.2.1 : Int)) from (Or.inr ⟨rfl, xYp_2 (show ¬ ((xKw (tX Xf Msz) cu) = 15 ∨ (xKw (tX Xf Msz) cu) = 16 ∨ (xKw (tX Xf Msz) cu) = 17 ∨ (xKw (tX Xf Msz) cu) = 18 ∨ (xKw (tX Xf Msz) cu) = 19 ∨ (xKw (tX Xf Msz) cu) = 22 ∨ (xKw (tX Xf Msz) cu) = 24) from (fun h7 => by have y1 := (pyh ()).1.mpr (yw_8 h7); have y2 : ¬ u_63.1 = 21 := fun h => yw_n h7 ((pyh ()).2.1.mp h); omega)) (fun h9 => by have y2 := (pyh ()).2.1.mpr h9; omega) p_87, by omega⟩)), (show 0 ≤ (Mct : Int) ∧ (Mct : Int) ≤ 31 from (by omega))⟩ (hP.sub [3, 4, 0, 1, 2] rfl) (hD.sub [3, 4, 0, 1, 2] rfl rfl) dX12_yearStep_74
      ·
        have c_85 := mt (zlt (x := iZ u_63.1) (y := iZ 15) rfl rfl ⟨by omega, by omega⟩ wn_15).mpr c_85
        refine lv_iload_n hx hb dX12_yearStep_50 rfl (lv_at hl 3 rfl) ?_
        refine lv_bipush (v := iZ 22) hx hb dX12_yearStep_51 bip_22 ?_
        refine lv_icmp_gt (tgt := 69) hx hb dX12_yearStep_53 rfl (fun c_89 => ?_) (fun c_89 => ?_)
        ·
          have c_89 := (zlt (x := iZ 22) (y := iZ u_63.1) rfl rfl wn_22 ⟨by omega, by omega⟩).mp c_89
          refine lv_aload_n hx hb dX12_yearStep_69 rfl (lv_at hl 4 rfl) ?_
          refine lv_iconst (v := iZ 2) hx hb dX12_yearStep_70 rfl ?_
          refine CWV (As := [.int (iZ 2)]) (rest := []) (wc := _) (wr := [(Ma, .inl (k 1, 5340, .inl Af)), (Mn, .inl (k 2, 36, .inr (.inl Nf))), (Mo, .inl (k 1, 3, .inl Of))]) hx hb hml hown hts hKK hP hD hS hA (y_fails l D k hm Ma Mn Ms My Mt Mp Mx Mo Mk Ml Mb Mh Mc Mz Mr Mq Mst Mtd Msz Mtk Mfr Men Mva Mfk Mfp Mfs Mse Mlt Mdp Mct Mdr Mrs Mit Mmk Mtp Mbt Xf 2 cu ⟨by omega, by omega⟩ (by omega) hrf) ci_X12_fails qm_X12_164 ⟨Nat.le_of_ble_eq_true rfl, Nat.le_of_ble_eq_true rfl⟩ ⟨Nat.le_of_ble_eq_true rfl, Nat.le_of_ble_eq_true rfl⟩ [3, 4] [0, 1, 2] rfl rfl rfl rfl rfl (dj rfl) 0 rfl rfl rfl hl.1 rfl (Nat.le_of_ble_eq_true rfl) dX12_yearStep_71 (fun u_90 H locs hφ hP hD hS => ?_)
          obtain ⟨p_91, p_92⟩ : (u_90.1.2.1 = xFl (tX Xf Msz) cu 2 ∧ u_90.1.2.2 = xPl (tX Xf Msz) cu) ∧ (1 ≤ (u_90.1.2.1 : Int) ∧ (u_90.1.2.1 : Int) ≤ 9) := hφ
          refine W.eq (g2 := F0 m 74 ls [.int (iZ 0)]) rfl ?_
          exact EWz hx hb hr hlocks hS ((0, Mtk, Mfr, Men, Mva, u_90.1.2.1, u_90.1.2.2, Mdp, Mct), 0, (Af, Of), ()) rfl rfl ⟨(show (0 ≤ (Mfr : Int) ∧ (Mfr : Int) ≤ Men) ∧ ((Men : Int) ≤ Msz ∧ (Msz : Int) ≤ 900) ∧ (0 ≤ (Mtk : Int) ∧ (Mtk : Int) ≤ 4) ∧ ((Mtk : Int) ≤ 4 * (Men - Mfr)) ∧ (-1 ≤ (Mva : Int) ∧ (Mva : Int) ≤ 100000) from (by first | with_reducible assumption | exact (by first | with_reducible assumption | exact ⟨⟨by omega, by omega⟩, ⟨by omega, by omega⟩, ⟨by omega, by omega⟩, by omega, by omega, by omega⟩))), (show 0 ≤ (u_90.1.2.1 : Int) ∧ (u_90.1.2.1 : Int) ≤ 9 from (by omega)), (show KP Af Af from (KP.rf _)), (show ((0 : Int) = 1 ∧ ∃ (q9 : Int) (W9 A9 B9 C9 P9 O9 : Int → Int), xYp (tX Xf Msz) N n cu (gz Af 3565, Mct, Mdp, W0, A0, B0, C0, P0, O0) = .inr (q9, (gz Af 3565, Mct, Mdp, W9, A9, B9, C9, P9, O9)) ∧ cu < q9 ∧ RFX (tX Xf Msz) q9 Mfr Men Mtk Mva ∧ YRL Af Of Mdp W9 A9 B9 C9 P9 O9 ∧ (u_90.1.2.1 : Int) = 0 ∧ u_90.1.2.2 = Mfp) ∨ ((0 : Int) = 0 ∧ xYp (tX Xf Msz) N n cu (gz Af 3565, Mct, Mdp, W0, A0, B0, C0, P0, O0) = .inl (u_90.1.2.1, u_90.1.2.2) ∧ 1 ≤ (u_90.1.2.1 : Int)) from (Or.inr ⟨rfl, xYp_2 (show ¬ ((xKw (tX Xf Msz) cu) = 15 ∨ (xKw (tX Xf Msz) cu) = 16 ∨ (xKw (tX Xf Msz) cu) = 17 ∨ (xKw (tX Xf Msz) cu) = 18 ∨ (xKw (tX Xf Msz) cu) = 19 ∨ (xKw (tX Xf Msz) cu) = 22 ∨ (xKw (tX Xf Msz) cu) = 24) from (fun h7 => by have y1 := (pyh ()).1.mpr (yw_8 h7); have y2 : ¬ u_63.1 = 21 := fun h => yw_n h7 ((pyh ()).2.1.mp h); omega)) (fun h9 => by have y2 := (pyh ()).2.1.mpr h9; omega) p_91, by omega⟩)), (show 0 ≤ (Mct : Int) ∧ (Mct : Int) ≤ 31 from (by omega))⟩ (hP.sub [3, 4, 0, 1, 2] rfl) (hD.sub [3, 4, 0, 1, 2] rfl rfl) dX12_yearStep_74
        ·
          have c_89 := mt (zlt (x := iZ 22) (y := iZ u_63.1) rfl rfl wn_22 ⟨by omega, by omega⟩).mpr c_89
          refine lv_iload_n hx hb dX12_yearStep_56 rfl (lv_at hl 3 rfl) ?_
          refine lv_bipush (v := iZ 21) hx hb dX12_yearStep_57 bip_21 ?_
          refine lv_icmp_ne (tgt := 75) hx hb dX12_yearStep_59 rfl (fun c_93 => ?_) (fun c_93 => ?_)
          ·
            have c_93 := mt (zeq (x := iZ u_63.1) (y := iZ 21) rfl rfl ⟨by omega, by omega⟩ wn_21).mpr c_93
            refine lv_iload_n hx hb dX12_yearStep_75 rfl (lv_at hl 3 rfl) ?_
            refine lv_bipush (v := iZ 21) hx hb dX12_yearStep_76 bip_21 ?_
            refine lv_icmp_eq (tgt := 97) hx hb dX12_yearStep_78 rfl (fun c_94 => ?_) (fun c_94 => ?_)
            ·
              have c_94 := (zeq (x := iZ u_63.1) (y := iZ 21) rfl rfl ⟨by omega, by omega⟩ wn_21).mp c_94
              refine lv_iload hx hb dX12_yearStep_97 (lv_at hl 0 rfl) ?_
              refine lv_if_eq (tgt := 117) hx hb dX12_yearStep_99 rfl (fun _ => ?_) (fun c => absurd (by decide) c)
              exact HJ117 0 u_63.1 _ _ _ (show (15 ≤ u_63.1 ∧ u_63.1 ≤ 22) ∧ (0 ≤ 0 ∧ 0 ≤ 1) from (by first | with_reducible assumption | exact ⟨⟨by omega, by omega⟩, by omega, by omega⟩)) (show u_63.1 = xPm (xKw (tX Xf Msz) cu) from (by first | with_reducible assumption | exact p_64)) (show (0 = 1 ∧ (u_63.1 = 19 ∨ u_63.1 = 20) ∧ Mdp < 3) ∨ (0 = 0 ∧ ¬ u_63.1 = 19 ∧ ¬ u_63.1 = 20) from (by first | with_reducible assumption | omega)) (show u_63.1 = 21 → 0 < Mdp from (by first | with_reducible assumption | exact fun h9 => by omega)) (show u_63.1 = 21 ∨ Mct < 30 from (by omega)) (hP.sub [3, 4, 0, 1, 2] rfl) (hD.sub [3, 4, 0, 1, 2] rfl rfl) hS (lv_sub hl [0, 1, 2, 3, 4] rfl)
            ·
              have c_94 := mt (zeq (x := iZ u_63.1) (y := iZ 21) rfl rfl ⟨by omega, by omega⟩ wn_21).mpr c_94
              refine lv_aload_n hx hb dX12_yearStep_81 rfl (lv_at hl 4 rfl) ?_
              refine va_get (D := D) (ci := 12) (v := .int (iZ Mct)) (C := RX12) (T := TX12) (N := 36) hx hb hts iX12 hown hK hP 3 rfl rfl 23 (bl rfl) (hts _ qf_X12_234) (fun _ h => h) rfl dX12_yearStep_82 ?_
              refine lv_bipush (v := iZ 30) hx hb dX12_yearStep_85 bip_30 ?_
              refine lv_icmp_ne (tgt := 97) hx hb dX12_yearStep_87 rfl (fun c_96 => ?_) (fun c_96 => ?_)
              ·
                have c_96 := mt (zeq (x := iZ Mct) (y := iZ 30) rfl rfl ⟨by omega, by omega⟩ wn_30).mpr c_96
                refine lv_iload hx hb dX12_yearStep_97 (lv_at hl 0 rfl) ?_
                refine lv_if_eq (tgt := 117) hx hb dX12_yearStep_99 rfl (fun _ => ?_) (fun c => absurd (by decide) c)
                exact HJ117 0 u_63.1 _ _ _ (show (15 ≤ u_63.1 ∧ u_63.1 ≤ 22) ∧ (0 ≤ 0 ∧ 0 ≤ 1) from (by first | with_reducible assumption | exact ⟨⟨by omega, by omega⟩, by omega, by omega⟩)) (show u_63.1 = xPm (xKw (tX Xf Msz) cu) from (by first | with_reducible assumption | exact p_64)) (show (0 = 1 ∧ (u_63.1 = 19 ∨ u_63.1 = 20) ∧ Mdp < 3) ∨ (0 = 0 ∧ ¬ u_63.1 = 19 ∧ ¬ u_63.1 = 20) from (by first | with_reducible assumption | omega)) (show u_63.1 = 21 → 0 < Mdp from (by first | with_reducible assumption | exact fun h9 => by omega)) (show u_63.1 = 21 ∨ Mct < 30 from (by omega)) (hP.sub [3, 4, 0, 1, 2] rfl) (hD.sub [3, 4, 0, 1, 2] rfl rfl) hS (lv_sub hl [0, 1, 2, 3, 4] rfl)
              ·
                have c_96 := (zeq (x := iZ Mct) (y := iZ 30) rfl rfl ⟨by omega, by omega⟩ wn_30).mp c_96
                refine lv_aload_n hx hb dX12_yearStep_90 rfl (lv_at hl 4 rfl) ?_
                refine lv_bipush (v := iZ 6) hx hb dX12_yearStep_91 bip_6 ?_
                refine CWV (As := [.int (iZ 6)]) (rest := []) (wc := _) (wr := [(Ma, .inl (k 1, 5340, .inl Af)), (Mn, .inl (k 2, 36, .inr (.inl Nf))), (Mo, .inl (k 1, 3, .inl Of))]) hx hb hml hown hts hKK hP hD hS hA (y_fails l D k hm Ma Mn Ms My Mt Mp Mx Mo Mk Ml Mb Mh Mc Mz Mr Mq Mst Mtd Msz Mtk Mfr Men Mva Mfk Mfp Mfs Mse Mlt Mdp Mct Mdr Mrs Mit Mmk Mtp Mbt Xf 6 cu ⟨by omega, by omega⟩ (by omega) hrf) ci_X12_fails qm_X12_164 ⟨Nat.le_of_ble_eq_true rfl, Nat.le_of_ble_eq_true rfl⟩ ⟨Nat.le_of_ble_eq_true rfl, Nat.le_of_ble_eq_true rfl⟩ [3, 4] [0, 1, 2] rfl rfl rfl rfl rfl (dj rfl) 0 rfl rfl rfl hl.1 rfl (Nat.le_of_ble_eq_true rfl) dX12_yearStep_93 (fun u_98 H locs hφ hP hD hS => ?_)
                obtain ⟨p_99, p_100⟩ : (u_98.1.2.1 = xFl (tX Xf Msz) cu 6 ∧ u_98.1.2.2 = xPl (tX Xf Msz) cu) ∧ (1 ≤ (u_98.1.2.1 : Int) ∧ (u_98.1.2.1 : Int) ≤ 9) := hφ
                refine W.eq (g2 := F0 m 96 ls [.int (iZ 0)]) rfl ?_
                exact EWz hx hb hr hlocks hS ((0, Mtk, Mfr, Men, Mva, u_98.1.2.1, u_98.1.2.2, Mdp, Mct), 0, (Af, Of), ()) rfl rfl ⟨(show (0 ≤ (Mfr : Int) ∧ (Mfr : Int) ≤ Men) ∧ ((Men : Int) ≤ Msz ∧ (Msz : Int) ≤ 900) ∧ (0 ≤ (Mtk : Int) ∧ (Mtk : Int) ≤ 4) ∧ ((Mtk : Int) ≤ 4 * (Men - Mfr)) ∧ (-1 ≤ (Mva : Int) ∧ (Mva : Int) ≤ 100000) from (by first | with_reducible assumption | exact (by first | with_reducible assumption | exact ⟨⟨by omega, by omega⟩, ⟨by omega, by omega⟩, ⟨by omega, by omega⟩, by omega, by omega, by omega⟩))), (show 0 ≤ (u_98.1.2.1 : Int) ∧ (u_98.1.2.1 : Int) ≤ 9 from (by omega)), (show KP Af Af from (KP.rf _)), (show ((0 : Int) = 1 ∧ ∃ (q9 : Int) (W9 A9 B9 C9 P9 O9 : Int → Int), xYp (tX Xf Msz) N n cu (gz Af 3565, Mct, Mdp, W0, A0, B0, C0, P0, O0) = .inr (q9, (gz Af 3565, Mct, Mdp, W9, A9, B9, C9, P9, O9)) ∧ cu < q9 ∧ RFX (tX Xf Msz) q9 Mfr Men Mtk Mva ∧ YRL Af Of Mdp W9 A9 B9 C9 P9 O9 ∧ (u_98.1.2.1 : Int) = 0 ∧ u_98.1.2.2 = Mfp) ∨ ((0 : Int) = 0 ∧ xYp (tX Xf Msz) N n cu (gz Af 3565, Mct, Mdp, W0, A0, B0, C0, P0, O0) = .inl (u_98.1.2.1, u_98.1.2.2) ∧ 1 ≤ (u_98.1.2.1 : Int)) from (Or.inr ⟨rfl, xYp_6 (show ((xKw (tX Xf Msz) cu) = 15 ∨ (xKw (tX Xf Msz) cu) = 16 ∨ (xKw (tX Xf Msz) cu) = 17 ∨ (xKw (tX Xf Msz) cu) = 18 ∨ (xKw (tX Xf Msz) cu) = 19 ∨ (xKw (tX Xf Msz) cu) = 22 ∨ (xKw (tX Xf Msz) cu) = 24) from yw_7 ((pyh ()).1.mp ⟨by omega, by omega⟩) (fun h9 => by have y2 := (pyh ()).2.1.mpr h9; omega)) (by omega) p_99, by omega⟩)), (show 0 ≤ (Mct : Int) ∧ (Mct : Int) ≤ 31 from (by omega))⟩ (hP.sub [3, 4, 0, 1, 2] rfl) (hD.sub [3, 4, 0, 1, 2] rfl rfl) dX12_yearStep_96
          ·
            have c_93 := (zeq (x := iZ u_63.1) (y := iZ 21) rfl rfl ⟨by omega, by omega⟩ wn_21).mp c_93
            refine lv_aload_n hx hb dX12_yearStep_62 rfl (lv_at hl 4 rfl) ?_
            refine va_get (D := D) (ci := 12) (v := .int (iZ Mdp)) (C := RX12) (T := TX12) (N := 36) hx hb hts iX12 hown hK hP 3 rfl rfl 22 (bl rfl) (hts _ qf_X12_231) (fun _ h => h) rfl dX12_yearStep_63 ?_
            refine lv_if_ne (tgt := 75) hx hb dX12_yearStep_66 rfl (fun c_101 => ?_) (fun c_101 => ?_)
            ·
              have c_101 := mt (zeq (x := iZ Mdp) (y := iZ 0) rfl rfl ⟨by omega, by omega⟩ wn_0).mpr c_101
              refine lv_iload_n hx hb dX12_yearStep_75 rfl (lv_at hl 3 rfl) ?_
              refine lv_bipush (v := iZ 21) hx hb dX12_yearStep_76 bip_21 ?_
              refine lv_icmp_eq (tgt := 97) hx hb dX12_yearStep_78 rfl (fun c_102 => ?_) (fun c_102 => ?_)
              ·
                have c_102 := (zeq (x := iZ u_63.1) (y := iZ 21) rfl rfl ⟨by omega, by omega⟩ wn_21).mp c_102
                refine lv_iload hx hb dX12_yearStep_97 (lv_at hl 0 rfl) ?_
                refine lv_if_eq (tgt := 117) hx hb dX12_yearStep_99 rfl (fun _ => ?_) (fun c => absurd (by decide) c)
                exact HJ117 0 u_63.1 _ _ _ (show (15 ≤ u_63.1 ∧ u_63.1 ≤ 22) ∧ (0 ≤ 0 ∧ 0 ≤ 1) from (by first | with_reducible assumption | exact ⟨⟨by omega, by omega⟩, by omega, by omega⟩)) (show u_63.1 = xPm (xKw (tX Xf Msz) cu) from (by first | with_reducible assumption | exact p_64)) (show (0 = 1 ∧ (u_63.1 = 19 ∨ u_63.1 = 20) ∧ Mdp < 3) ∨ (0 = 0 ∧ ¬ u_63.1 = 19 ∧ ¬ u_63.1 = 20) from (by first | with_reducible assumption | omega)) (show u_63.1 = 21 → 0 < Mdp from (by first | with_reducible assumption | exact fun h9 => by omega)) (show u_63.1 = 21 ∨ Mct < 30 from (by omega)) (hP.sub [3, 4, 0, 1, 2] rfl) (hD.sub [3, 4, 0, 1, 2] rfl rfl) hS (lv_sub hl [0, 1, 2, 3, 4] rfl)
              ·
                have c_102 := mt (zeq (x := iZ u_63.1) (y := iZ 21) rfl rfl ⟨by omega, by omega⟩ wn_21).mpr c_102
                refine lv_aload_n hx hb dX12_yearStep_81 rfl (lv_at hl 4 rfl) ?_
                refine va_get (D := D) (ci := 12) (v := .int (iZ Mct)) (C := RX12) (T := TX12) (N := 36) hx hb hts iX12 hown hK hP 3 rfl rfl 23 (bl rfl) (hts _ qf_X12_234) (fun _ h => h) rfl dX12_yearStep_82 ?_
                refine lv_bipush (v := iZ 30) hx hb dX12_yearStep_85 bip_30 ?_
                refine lv_icmp_ne (tgt := 97) hx hb dX12_yearStep_87 rfl (fun c_104 => ?_) (fun c_104 => ?_)
                ·
                  have c_104 := mt (zeq (x := iZ Mct) (y := iZ 30) rfl rfl ⟨by omega, by omega⟩ wn_30).mpr c_104
                  refine lv_iload hx hb dX12_yearStep_97 (lv_at hl 0 rfl) ?_
                  refine lv_if_eq (tgt := 117) hx hb dX12_yearStep_99 rfl (fun _ => ?_) (fun c => absurd (by decide) c)
                  exact HJ117 0 u_63.1 _ _ _ (show (15 ≤ u_63.1 ∧ u_63.1 ≤ 22) ∧ (0 ≤ 0 ∧ 0 ≤ 1) from (by first | with_reducible assumption | exact ⟨⟨by omega, by omega⟩, by omega, by omega⟩)) (show u_63.1 = xPm (xKw (tX Xf Msz) cu) from (by first | with_reducible assumption | exact p_64)) (show (0 = 1 ∧ (u_63.1 = 19 ∨ u_63.1 = 20) ∧ Mdp < 3) ∨ (0 = 0 ∧ ¬ u_63.1 = 19 ∧ ¬ u_63.1 = 20) from (by first | with_reducible assumption | omega)) (show u_63.1 = 21 → 0 < Mdp from (by first | with_reducible assumption | exact fun h9 => by omega)) (show u_63.1 = 21 ∨ Mct < 30 from (by omega)) (hP.sub [3, 4, 0, 1, 2] rfl) (hD.sub [3, 4, 0, 1, 2] rfl rfl) hS (lv_sub hl [0, 1, 2, 3, 4] rfl)
                ·
                  have c_104 := (zeq (x := iZ Mct) (y := iZ 30) rfl rfl ⟨by omega, by omega⟩ wn_30).mp c_104
                  refine lv_aload_n hx hb dX12_yearStep_90 rfl (lv_at hl 4 rfl) ?_
                  refine lv_bipush (v := iZ 6) hx hb dX12_yearStep_91 bip_6 ?_
                  refine CWV (As := [.int (iZ 6)]) (rest := []) (wc := _) (wr := [(Ma, .inl (k 1, 5340, .inl Af)), (Mn, .inl (k 2, 36, .inr (.inl Nf))), (Mo, .inl (k 1, 3, .inl Of))]) hx hb hml hown hts hKK hP hD hS hA (y_fails l D k hm Ma Mn Ms My Mt Mp Mx Mo Mk Ml Mb Mh Mc Mz Mr Mq Mst Mtd Msz Mtk Mfr Men Mva Mfk Mfp Mfs Mse Mlt Mdp Mct Mdr Mrs Mit Mmk Mtp Mbt Xf 6 cu ⟨by omega, by omega⟩ (by omega) hrf) ci_X12_fails qm_X12_164 ⟨Nat.le_of_ble_eq_true rfl, Nat.le_of_ble_eq_true rfl⟩ ⟨Nat.le_of_ble_eq_true rfl, Nat.le_of_ble_eq_true rfl⟩ [3, 4] [0, 1, 2] rfl rfl rfl rfl rfl (dj rfl) 0 rfl rfl rfl hl.1 rfl (Nat.le_of_ble_eq_true rfl) dX12_yearStep_93 (fun u_106 H locs hφ hP hD hS => ?_)
                  obtain ⟨p_107, p_108⟩ : (u_106.1.2.1 = xFl (tX Xf Msz) cu 6 ∧ u_106.1.2.2 = xPl (tX Xf Msz) cu) ∧ (1 ≤ (u_106.1.2.1 : Int) ∧ (u_106.1.2.1 : Int) ≤ 9) := hφ
                  refine W.eq (g2 := F0 m 96 ls [.int (iZ 0)]) rfl ?_
                  exact EWz hx hb hr hlocks hS ((0, Mtk, Mfr, Men, Mva, u_106.1.2.1, u_106.1.2.2, Mdp, Mct), 0, (Af, Of), ()) rfl rfl ⟨(show (0 ≤ (Mfr : Int) ∧ (Mfr : Int) ≤ Men) ∧ ((Men : Int) ≤ Msz ∧ (Msz : Int) ≤ 900) ∧ (0 ≤ (Mtk : Int) ∧ (Mtk : Int) ≤ 4) ∧ ((Mtk : Int) ≤ 4 * (Men - Mfr)) ∧ (-1 ≤ (Mva : Int) ∧ (Mva : Int) ≤ 100000) from (by first | with_reducible assumption | exact (by first | with_reducible assumption | exact ⟨⟨by omega, by omega⟩, ⟨by omega, by omega⟩, ⟨by omega, by omega⟩, by omega, by omega, by omega⟩))), (show 0 ≤ (u_106.1.2.1 : Int) ∧ (u_106.1.2.1 : Int) ≤ 9 from (by omega)), (show KP Af Af from (KP.rf _)), (show ((0 : Int) = 1 ∧ ∃ (q9 : Int) (W9 A9 B9 C9 P9 O9 : Int → Int), xYp (tX Xf Msz) N n cu (gz Af 3565, Mct, Mdp, W0, A0, B0, C0, P0, O0) = .inr (q9, (gz Af 3565, Mct, Mdp, W9, A9, B9, C9, P9, O9)) ∧ cu < q9 ∧ RFX (tX Xf Msz) q9 Mfr Men Mtk Mva ∧ YRL Af Of Mdp W9 A9 B9 C9 P9 O9 ∧ (u_106.1.2.1 : Int) = 0 ∧ u_106.1.2.2 = Mfp) ∨ ((0 : Int) = 0 ∧ xYp (tX Xf Msz) N n cu (gz Af 3565, Mct, Mdp, W0, A0, B0, C0, P0, O0) = .inl (u_106.1.2.1, u_106.1.2.2) ∧ 1 ≤ (u_106.1.2.1 : Int)) from (Or.inr ⟨rfl, xYp_6 (show ((xKw (tX Xf Msz) cu) = 15 ∨ (xKw (tX Xf Msz) cu) = 16 ∨ (xKw (tX Xf Msz) cu) = 17 ∨ (xKw (tX Xf Msz) cu) = 18 ∨ (xKw (tX Xf Msz) cu) = 19 ∨ (xKw (tX Xf Msz) cu) = 22 ∨ (xKw (tX Xf Msz) cu) = 24) from yw_7 ((pyh ()).1.mp ⟨by omega, by omega⟩) (fun h9 => by have y2 := (pyh ()).2.1.mpr h9; omega)) (by omega) p_107, by omega⟩)), (show 0 ≤ (Mct : Int) ∧ (Mct : Int) ≤ 31 from (by omega))⟩ (hP.sub [3, 4, 0, 1, 2] rfl) (hD.sub [3, 4, 0, 1, 2] rfl rfl) dX12_yearStep_96
            ·
              have c_101 := (zeq (x := iZ Mdp) (y := iZ 0) rfl rfl ⟨by omega, by omega⟩ wn_0).mp c_101
              refine lv_aload_n hx hb dX12_yearStep_69 rfl (lv_at hl 4 rfl) ?_
              refine lv_iconst (v := iZ 2) hx hb dX12_yearStep_70 rfl ?_
              refine CWV (As := [.int (iZ 2)]) (rest := []) (wc := _) (wr := [(Ma, .inl (k 1, 5340, .inl Af)), (Mn, .inl (k 2, 36, .inr (.inl Nf))), (Mo, .inl (k 1, 3, .inl Of))]) hx hb hml hown hts hKK hP hD hS hA (y_fails l D k hm Ma Mn Ms My Mt Mp Mx Mo Mk Ml Mb Mh Mc Mz Mr Mq Mst Mtd Msz Mtk Mfr Men Mva Mfk Mfp Mfs Mse Mlt Mdp Mct Mdr Mrs Mit Mmk Mtp Mbt Xf 2 cu ⟨by omega, by omega⟩ (by omega) hrf) ci_X12_fails qm_X12_164 ⟨Nat.le_of_ble_eq_true rfl, Nat.le_of_ble_eq_true rfl⟩ ⟨Nat.le_of_ble_eq_true rfl, Nat.le_of_ble_eq_true rfl⟩ [3, 4] [0, 1, 2] rfl rfl rfl rfl rfl (dj rfl) 0 rfl rfl rfl hl.1 rfl (Nat.le_of_ble_eq_true rfl) dX12_yearStep_71 (fun u_109 H locs hφ hP hD hS => ?_)
              obtain ⟨p_110, p_111⟩ : (u_109.1.2.1 = xFl (tX Xf Msz) cu 2 ∧ u_109.1.2.2 = xPl (tX Xf Msz) cu) ∧ (1 ≤ (u_109.1.2.1 : Int) ∧ (u_109.1.2.1 : Int) ≤ 9) := hφ
              refine W.eq (g2 := F0 m 74 ls [.int (iZ 0)]) rfl ?_
              exact EWz hx hb hr hlocks hS ((0, Mtk, Mfr, Men, Mva, u_109.1.2.1, u_109.1.2.2, Mdp, Mct), 0, (Af, Of), ()) rfl rfl ⟨(show (0 ≤ (Mfr : Int) ∧ (Mfr : Int) ≤ Men) ∧ ((Men : Int) ≤ Msz ∧ (Msz : Int) ≤ 900) ∧ (0 ≤ (Mtk : Int) ∧ (Mtk : Int) ≤ 4) ∧ ((Mtk : Int) ≤ 4 * (Men - Mfr)) ∧ (-1 ≤ (Mva : Int) ∧ (Mva : Int) ≤ 100000) from (by first | with_reducible assumption | exact (by first | with_reducible assumption | exact ⟨⟨by omega, by omega⟩, ⟨by omega, by omega⟩, ⟨by omega, by omega⟩, by omega, by omega, by omega⟩))), (show 0 ≤ (u_109.1.2.1 : Int) ∧ (u_109.1.2.1 : Int) ≤ 9 from (by omega)), (show KP Af Af from (KP.rf _)), (show ((0 : Int) = 1 ∧ ∃ (q9 : Int) (W9 A9 B9 C9 P9 O9 : Int → Int), xYp (tX Xf Msz) N n cu (gz Af 3565, Mct, Mdp, W0, A0, B0, C0, P0, O0) = .inr (q9, (gz Af 3565, Mct, Mdp, W9, A9, B9, C9, P9, O9)) ∧ cu < q9 ∧ RFX (tX Xf Msz) q9 Mfr Men Mtk Mva ∧ YRL Af Of Mdp W9 A9 B9 C9 P9 O9 ∧ (u_109.1.2.1 : Int) = 0 ∧ u_109.1.2.2 = Mfp) ∨ ((0 : Int) = 0 ∧ xYp (tX Xf Msz) N n cu (gz Af 3565, Mct, Mdp, W0, A0, B0, C0, P0, O0) = .inl (u_109.1.2.1, u_109.1.2.2) ∧ 1 ≤ (u_109.1.2.1 : Int)) from (Or.inr ⟨rfl, xYp_2 (show ¬ ((xKw (tX Xf Msz) cu) = 15 ∨ (xKw (tX Xf Msz) cu) = 16 ∨ (xKw (tX Xf Msz) cu) = 17 ∨ (xKw (tX Xf Msz) cu) = 18 ∨ (xKw (tX Xf Msz) cu) = 19 ∨ (xKw (tX Xf Msz) cu) = 22 ∨ (xKw (tX Xf Msz) cu) = 24) from (fun h7 => by have y1 := (pyh ()).1.mpr (yw_8 h7); have y2 : ¬ u_63.1 = 21 := fun h => yw_n h7 ((pyh ()).2.1.mp h); omega)) (fun h9 => by have y2 := (pyh ()).2.1.mpr h9; omega) p_110, by omega⟩)), (show 0 ≤ (Mct : Int) ∧ (Mct : Int) ≤ 31 from (by omega))⟩ (hP.sub [3, 4, 0, 1, 2] rfl) (hD.sub [3, 4, 0, 1, 2] rfl rfl) dX12_yearStep_74
    ·
      have c_84 := (zeq (x := iZ u_63.1) (y := iZ 20) rfl rfl ⟨by omega, by omega⟩ wn_20).mp c_84
      refine lv_iconst (v := iZ 1) hx hb dX12_yearStep_37 rfl ?_
      refine lv_goto (tgt := 42) hx hb dX12_yearStep_38 rfl ?_
      refine lv_istore (lv' := [(4, .int (iZ 1)), (3, .int (iZ (4080 + (6 * (gz Af 3565))))), (2, .int (iZ (gz Af 3565))), (1, .int (iZ u_63.1)), (0, .ref hm)]) hx hb dX12_yearStep_42 hl (bl rfl) rfl (fun ls hl => ?_)
      refine lv_iload_n hx hb dX12_yearStep_44 rfl (lv_at hl 3 rfl) ?_
      refine lv_bipush (v := iZ 15) hx hb dX12_yearStep_45 bip_15 ?_
      refine lv_icmp_lt (tgt := 69) hx hb dX12_yearStep_47 rfl (fun c_112 => ?_) (fun c_112 => ?_)
      ·
        have c_112 := (zlt (x := iZ u_63.1) (y := iZ 15) rfl rfl ⟨by omega, by omega⟩ wn_15).mp c_112
        exact absurd c_112 (by omega)
      ·
        have c_112 := mt (zlt (x := iZ u_63.1) (y := iZ 15) rfl rfl ⟨by omega, by omega⟩ wn_15).mpr c_112
        refine lv_iload_n hx hb dX12_yearStep_50 rfl (lv_at hl 3 rfl) ?_
        refine lv_bipush (v := iZ 22) hx hb dX12_yearStep_51 bip_22 ?_
        refine lv_icmp_gt (tgt := 69) hx hb dX12_yearStep_53 rfl (fun c_113 => ?_) (fun c_113 => ?_)
        ·
          have c_113 := (zlt (x := iZ 22) (y := iZ u_63.1) rfl rfl wn_22 ⟨by omega, by omega⟩).mp c_113
          exact absurd c_113 (by omega)
        ·
          have c_113 := mt (zlt (x := iZ 22) (y := iZ u_63.1) rfl rfl wn_22 ⟨by omega, by omega⟩).mpr c_113
          refine lv_iload_n hx hb dX12_yearStep_56 rfl (lv_at hl 3 rfl) ?_
          refine lv_bipush (v := iZ 21) hx hb dX12_yearStep_57 bip_21 ?_
          refine lv_icmp_ne (tgt := 75) hx hb dX12_yearStep_59 rfl (fun c_114 => ?_) (fun c_114 => ?_)
          ·
            have c_114 := mt (zeq (x := iZ u_63.1) (y := iZ 21) rfl rfl ⟨by omega, by omega⟩ wn_21).mpr c_114
            refine lv_iload_n hx hb dX12_yearStep_75 rfl (lv_at hl 3 rfl) ?_
            refine lv_bipush (v := iZ 21) hx hb dX12_yearStep_76 bip_21 ?_
            refine lv_icmp_eq (tgt := 97) hx hb dX12_yearStep_78 rfl (fun c_115 => ?_) (fun c_115 => ?_)
            ·
              have c_115 := (zeq (x := iZ u_63.1) (y := iZ 21) rfl rfl ⟨by omega, by omega⟩ wn_21).mp c_115
              exact absurd c_115 (by omega)
            ·
              have c_115 := mt (zeq (x := iZ u_63.1) (y := iZ 21) rfl rfl ⟨by omega, by omega⟩ wn_21).mpr c_115
              refine lv_aload_n hx hb dX12_yearStep_81 rfl (lv_at hl 4 rfl) ?_
              refine va_get (D := D) (ci := 12) (v := .int (iZ Mct)) (C := RX12) (T := TX12) (N := 36) hx hb hts iX12 hown hK hP 3 rfl rfl 23 (bl rfl) (hts _ qf_X12_234) (fun _ h => h) rfl dX12_yearStep_82 ?_
              refine lv_bipush (v := iZ 30) hx hb dX12_yearStep_85 bip_30 ?_
              refine lv_icmp_ne (tgt := 97) hx hb dX12_yearStep_87 rfl (fun c_116 => ?_) (fun c_116 => ?_)
              ·
                have c_116 := mt (zeq (x := iZ Mct) (y := iZ 30) rfl rfl ⟨by omega, by omega⟩ wn_30).mpr c_116
                refine lv_iload hx hb dX12_yearStep_97 (lv_at hl 0 rfl) ?_
                refine lv_if_eq (tgt := 117) hx hb dX12_yearStep_99 rfl (fun c => absurd c (by decide)) (fun _ => ?_)
                refine lv_aload_n hx hb dX12_yearStep_102 rfl (lv_at hl 4 rfl) ?_
                refine va_get (D := D) (ci := 12) (v := .int (iZ Mdp)) (C := RX12) (T := TX12) (N := 36) hx hb hts iX12 hown hK hP 3 rfl rfl 22 (bl rfl) (hts _ qf_X12_231) (fun _ h => h) rfl dX12_yearStep_103 ?_
                refine lv_iconst (v := iZ 3) hx hb dX12_yearStep_106 rfl ?_
                refine lv_icmp_ne (tgt := 117) hx hb dX12_yearStep_107 rfl (fun c_118 => ?_) (fun c_118 => ?_)
                ·
                  have c_118 := mt (zeq (x := iZ Mdp) (y := iZ 3) rfl rfl ⟨by omega, by omega⟩ wn_3).mpr c_118
                  exact HJ117 1 u_63.1 _ _ _ (show (15 ≤ u_63.1 ∧ u_63.1 ≤ 22) ∧ (0 ≤ 1 ∧ 1 ≤ 1) from (by first | with_reducible assumption | exact ⟨⟨by omega, by omega⟩, by omega, by omega⟩)) (show u_63.1 = xPm (xKw (tX Xf Msz) cu) from (by first | with_reducible assumption | exact p_64)) (show (1 = 1 ∧ (u_63.1 = 19 ∨ u_63.1 = 20) ∧ Mdp < 3) ∨ (1 = 0 ∧ ¬ u_63.1 = 19 ∧ ¬ u_63.1 = 20) from (by first | with_reducible assumption | omega)) (show u_63.1 = 21 → 0 < Mdp from (by first | with_reducible assumption | exact fun h9 => by omega)) (show u_63.1 = 21 ∨ Mct < 30 from (by omega)) (hP.sub [3, 4, 0, 1, 2] rfl) (hD.sub [3, 4, 0, 1, 2] rfl rfl) hS (lv_sub hl [0, 1, 2, 3, 4] rfl)
                ·
                  have c_118 := (zeq (x := iZ Mdp) (y := iZ 3) rfl rfl ⟨by omega, by omega⟩ wn_3).mp c_118
                  refine lv_aload_n hx hb dX12_yearStep_110 rfl (lv_at hl 4 rfl) ?_
                  refine lv_bipush (v := iZ 7) hx hb dX12_yearStep_111 bip_7 ?_
                  refine CWV (As := [.int (iZ 7)]) (rest := []) (wc := _) (wr := [(Ma, .inl (k 1, 5340, .inl Af)), (Mn, .inl (k 2, 36, .inr (.inl Nf))), (Mo, .inl (k 1, 3, .inl Of))]) hx hb hml hown hts hKK hP hD hS hA (y_fails l D k hm Ma Mn Ms My Mt Mp Mx Mo Mk Ml Mb Mh Mc Mz Mr Mq Mst Mtd Msz Mtk Mfr Men Mva Mfk Mfp Mfs Mse Mlt Mdp Mct Mdr Mrs Mit Mmk Mtp Mbt Xf 7 cu ⟨by omega, by omega⟩ (by omega) hrf) ci_X12_fails qm_X12_164 ⟨Nat.le_of_ble_eq_true rfl, Nat.le_of_ble_eq_true rfl⟩ ⟨Nat.le_of_ble_eq_true rfl, Nat.le_of_ble_eq_true rfl⟩ [3, 4] [0, 1, 2] rfl rfl rfl rfl rfl (dj rfl) 0 rfl rfl rfl hl.1 rfl (Nat.le_of_ble_eq_true rfl) dX12_yearStep_113 (fun u_119 H locs hφ hP hD hS => ?_)
                  obtain ⟨p_120, p_121⟩ : (u_119.1.2.1 = xFl (tX Xf Msz) cu 7 ∧ u_119.1.2.2 = xPl (tX Xf Msz) cu) ∧ (1 ≤ (u_119.1.2.1 : Int) ∧ (u_119.1.2.1 : Int) ≤ 9) := hφ
                  refine W.eq (g2 := F0 m 116 ls [.int (iZ 0)]) rfl ?_
                  exact EWz hx hb hr hlocks hS ((0, Mtk, Mfr, Men, Mva, u_119.1.2.1, u_119.1.2.2, Mdp, Mct), 0, (Af, Of), ()) rfl rfl ⟨(show (0 ≤ (Mfr : Int) ∧ (Mfr : Int) ≤ Men) ∧ ((Men : Int) ≤ Msz ∧ (Msz : Int) ≤ 900) ∧ (0 ≤ (Mtk : Int) ∧ (Mtk : Int) ≤ 4) ∧ ((Mtk : Int) ≤ 4 * (Men - Mfr)) ∧ (-1 ≤ (Mva : Int) ∧ (Mva : Int) ≤ 100000) from (by first | with_reducible assumption | exact (by first | with_reducible assumption | exact ⟨⟨by omega, by omega⟩, ⟨by omega, by omega⟩, ⟨by omega, by omega⟩, by omega, by omega, by omega⟩))), (show 0 ≤ (u_119.1.2.1 : Int) ∧ (u_119.1.2.1 : Int) ≤ 9 from (by omega)), (show KP Af Af from (KP.rf _)), (show ((0 : Int) = 1 ∧ ∃ (q9 : Int) (W9 A9 B9 C9 P9 O9 : Int → Int), xYp (tX Xf Msz) N n cu (gz Af 3565, Mct, Mdp, W0, A0, B0, C0, P0, O0) = .inr (q9, (gz Af 3565, Mct, Mdp, W9, A9, B9, C9, P9, O9)) ∧ cu < q9 ∧ RFX (tX Xf Msz) q9 Mfr Men Mtk Mva ∧ YRL Af Of Mdp W9 A9 B9 C9 P9 O9 ∧ (u_119.1.2.1 : Int) = 0 ∧ u_119.1.2.2 = Mfp) ∨ ((0 : Int) = 0 ∧ xYp (tX Xf Msz) N n cu (gz Af 3565, Mct, Mdp, W0, A0, B0, C0, P0, O0) = .inl (u_119.1.2.1, u_119.1.2.2) ∧ 1 ≤ (u_119.1.2.1 : Int)) from (Or.inr ⟨rfl, xYp_7 (show ((xKw (tX Xf Msz) cu) = 15 ∨ (xKw (tX Xf Msz) cu) = 16 ∨ (xKw (tX Xf Msz) cu) = 17 ∨ (xKw (tX Xf Msz) cu) = 18 ∨ (xKw (tX Xf Msz) cu) = 19 ∨ (xKw (tX Xf Msz) cu) = 22 ∨ (xKw (tX Xf Msz) cu) = 24) from yw_7 ((pyh ()).1.mp ⟨by omega, by omega⟩) (fun h9 => by have y2 := (pyh ()).2.1.mpr h9; omega)) (by omega) ⟨(show (xKw (tX Xf Msz) cu) = 19 ∨ (xKw (tX Xf Msz) cu) = 22 from (by have y3 : u_63.1 = 19 ∨ u_63.1 = 20 := (by omega); exact y3.elim (fun h => Or.inl ((pyh ()).2.2.1.mp h)) (fun h => Or.inr ((pyh ()).2.2.2.mp h)))), by omega⟩ p_120, by omega⟩)), (show 0 ≤ (Mct : Int) ∧ (Mct : Int) ≤ 31 from (by omega))⟩ (hP.sub [3, 4, 0, 1, 2] rfl) (hD.sub [3, 4, 0, 1, 2] rfl rfl) dX12_yearStep_116
              ·
                have c_116 := (zeq (x := iZ Mct) (y := iZ 30) rfl rfl ⟨by omega, by omega⟩ wn_30).mp c_116
                refine lv_aload_n hx hb dX12_yearStep_90 rfl (lv_at hl 4 rfl) ?_
                refine lv_bipush (v := iZ 6) hx hb dX12_yearStep_91 bip_6 ?_
                refine CWV (As := [.int (iZ 6)]) (rest := []) (wc := _) (wr := [(Ma, .inl (k 1, 5340, .inl Af)), (Mn, .inl (k 2, 36, .inr (.inl Nf))), (Mo, .inl (k 1, 3, .inl Of))]) hx hb hml hown hts hKK hP hD hS hA (y_fails l D k hm Ma Mn Ms My Mt Mp Mx Mo Mk Ml Mb Mh Mc Mz Mr Mq Mst Mtd Msz Mtk Mfr Men Mva Mfk Mfp Mfs Mse Mlt Mdp Mct Mdr Mrs Mit Mmk Mtp Mbt Xf 6 cu ⟨by omega, by omega⟩ (by omega) hrf) ci_X12_fails qm_X12_164 ⟨Nat.le_of_ble_eq_true rfl, Nat.le_of_ble_eq_true rfl⟩ ⟨Nat.le_of_ble_eq_true rfl, Nat.le_of_ble_eq_true rfl⟩ [3, 4] [0, 1, 2] rfl rfl rfl rfl rfl (dj rfl) 0 rfl rfl rfl hl.1 rfl (Nat.le_of_ble_eq_true rfl) dX12_yearStep_93 (fun u_122 H locs hφ hP hD hS => ?_)
                obtain ⟨p_123, p_124⟩ : (u_122.1.2.1 = xFl (tX Xf Msz) cu 6 ∧ u_122.1.2.2 = xPl (tX Xf Msz) cu) ∧ (1 ≤ (u_122.1.2.1 : Int) ∧ (u_122.1.2.1 : Int) ≤ 9) := hφ
                refine W.eq (g2 := F0 m 96 ls [.int (iZ 0)]) rfl ?_
                exact EWz hx hb hr hlocks hS ((0, Mtk, Mfr, Men, Mva, u_122.1.2.1, u_122.1.2.2, Mdp, Mct), 0, (Af, Of), ()) rfl rfl ⟨(show (0 ≤ (Mfr : Int) ∧ (Mfr : Int) ≤ Men) ∧ ((Men : Int) ≤ Msz ∧ (Msz : Int) ≤ 900) ∧ (0 ≤ (Mtk : Int) ∧ (Mtk : Int) ≤ 4) ∧ ((Mtk : Int) ≤ 4 * (Men - Mfr)) ∧ (-1 ≤ (Mva : Int) ∧ (Mva : Int) ≤ 100000) from (by first | with_reducible assumption | exact (by first | with_reducible assumption | exact ⟨⟨by omega, by omega⟩, ⟨by omega, by omega⟩, ⟨by omega, by omega⟩, by omega, by omega, by omega⟩))), (show 0 ≤ (u_122.1.2.1 : Int) ∧ (u_122.1.2.1 : Int) ≤ 9 from (by omega)), (show KP Af Af from (KP.rf _)), (show ((0 : Int) = 1 ∧ ∃ (q9 : Int) (W9 A9 B9 C9 P9 O9 : Int → Int), xYp (tX Xf Msz) N n cu (gz Af 3565, Mct, Mdp, W0, A0, B0, C0, P0, O0) = .inr (q9, (gz Af 3565, Mct, Mdp, W9, A9, B9, C9, P9, O9)) ∧ cu < q9 ∧ RFX (tX Xf Msz) q9 Mfr Men Mtk Mva ∧ YRL Af Of Mdp W9 A9 B9 C9 P9 O9 ∧ (u_122.1.2.1 : Int) = 0 ∧ u_122.1.2.2 = Mfp) ∨ ((0 : Int) = 0 ∧ xYp (tX Xf Msz) N n cu (gz Af 3565, Mct, Mdp, W0, A0, B0, C0, P0, O0) = .inl (u_122.1.2.1, u_122.1.2.2) ∧ 1 ≤ (u_122.1.2.1 : Int)) from (Or.inr ⟨rfl, xYp_6 (show ((xKw (tX Xf Msz) cu) = 15 ∨ (xKw (tX Xf Msz) cu) = 16 ∨ (xKw (tX Xf Msz) cu) = 17 ∨ (xKw (tX Xf Msz) cu) = 18 ∨ (xKw (tX Xf Msz) cu) = 19 ∨ (xKw (tX Xf Msz) cu) = 22 ∨ (xKw (tX Xf Msz) cu) = 24) from yw_7 ((pyh ()).1.mp ⟨by omega, by omega⟩) (fun h9 => by have y2 := (pyh ()).2.1.mpr h9; omega)) (by omega) p_123, by omega⟩)), (show 0 ≤ (Mct : Int) ∧ (Mct : Int) ≤ 31 from (by omega))⟩ (hP.sub [3, 4, 0, 1, 2] rfl) (hD.sub [3, 4, 0, 1, 2] rfl rfl) dX12_yearStep_96
          ·
            have c_114 := (zeq (x := iZ u_63.1) (y := iZ 21) rfl rfl ⟨by omega, by omega⟩ wn_21).mp c_114
            exact absurd c_114 (by omega)
end
