section
/-- the byte that is fed at a place of four -/
def byF (w i : Int) : Int := ((iZ w >>> (iZ (24 - 8 * i) &&& 31)).toInt8.toInt32).toInt
theorem byF_rg (w i : Int) : -128 ≤ byF w i ∧ byF w i ≤ 127 := by
  unfold byF
  rw [Int8.toInt_toInt32]
  have a := Int8.le_toInt ((iZ w >>> (iZ (24 - 8 * i) &&& 31)).toInt8)
  have b := Int8.toInt_lt ((iZ w >>> (iZ (24 - 8 * i) &&& 31)).toInt8)
  omega
def pF (B : Int → Int) (t0 t w : Int) : Int → Int := fun e => if t0 ≤ e ∧ e < t then byF w (e - t0) else B e
theorem pF_0 {B : Int → Int} {t w : Int} : pF B t t w = B := by
  funext e
  unfold pF
  rw [if_neg (by omega)]
theorem pt_step {b g : Nat → Int32} {B : Int → Int} {t0 t w j z zs : Int} (h : xRw b (pF B t0 t w) 900) (hg : g = upd b (iZ t).toNatClampNeg (vp_nar .byte (iZ z))) (hs : iZ zs = iZ w >>> (iZ j &&& 31)) (hz : iZ z = (iZ zs).toInt8.toInt32) (hj : j = 24 - 8 * (t - t0)) (ht : (0 ≤ t0 ∧ t0 ≤ t) ∧ t < 900) (rz : -2147483648 ≤ z ∧ z < 2147483648) : xRw g (pF B t0 (t + 1) w) 900 := by
  have e : z = byF w (t - t0) := by
    unfold byF
    rw [← hj, ← hs, ← hz, iZ_ti rz]
  have r := byF_rg w (t - t0)
  rw [nar_b (by omega)] at hg
  intro i h1 h2
  rw [gz_up hg ⟨by omega, by omega⟩ rz h1]
  have k := h i h1 h2
  unfold pF at k ⊢
  by_cases q : i = t
  · rw [if_pos q, if_pos (by omega), q, e]
  · rw [if_neg q, k]
    by_cases q2 : t0 ≤ i ∧ i < t
    · rw [if_pos q2, if_pos (by omega)]
    · rw [if_neg q2, if_neg (by omega)]
def fd5 (B : Int → Int) (t a b c d e : Int) : Int → Int := pF (pF (pF (pF (pF B t (t + 4) a) (t + 4) (t + 4 + 4) b) (t + 4 + 4) (t + 4 + 4 + 4) c) (t + 4 + 4 + 4) (t + 4 + 4 + 4 + 4) d) (t + 4 + 4 + 4 + 4) (t + 4 + 4 + 4 + 4 + 4) e
theorem pF_like {B C : Int → Int} {t0 t w n : Int} (h : ∀ e : Int, 0 ≤ e → e < n → B e = C e) : ∀ e : Int, 0 ≤ e → e < n → pF B t0 t w e = pF C t0 t w e := fun e h1 h2 => by
  unfold pF
  rw [h e h1 h2]
theorem fd5_like {B C : Int → Int} {t a b c d e n : Int} (h : ∀ e : Int, 0 ≤ e → e < n → B e = C e) : ∀ i : Int, 0 ≤ i → i < n → fd5 B t a b c d e i = fd5 C t a b c d e i := pF_like (pF_like (pF_like (pF_like (pF_like h))))
theorem fd5_rg {B : Int → Int} {t a b c d e n : Int} (h : ∀ i : Int, 0 ≤ i → i < n → -128 ≤ B i ∧ B i ≤ 127) : ∀ i : Int, 0 ≤ i → i < n → -128 ≤ fd5 B t a b c d e i ∧ fd5 B t a b c d e i ≤ 127 := by
  have q : ∀ (D : Int → Int) (t0 t1 w : Int), (∀ i : Int, 0 ≤ i → i < n → -128 ≤ D i ∧ D i ≤ 127) → ∀ i : Int, 0 ≤ i → i < n → -128 ≤ pF D t0 t1 w i ∧ pF D t0 t1 w i ≤ 127 := fun D t0 t1 w g i h1 h2 => by
    unfold pF
    split
    · exact byF_rg _ _
    · exact g i h1 h2
  exact q _ _ _ _ (q _ _ _ _ (q _ _ _ _ (q _ _ _ _ (q _ _ _ _ h))))
theorem xRw.pf {b2 b1 : Nat → Int32} {B : Int → Int} {t0 t w : Int} (h2 : xRw b2 (pF (gz b1) t0 t w) 900) (h1 : xRw b1 B 900) : xRw b2 (pF B t0 t w) 900 := fun e a b => (h2 e a b).trans (pF_like (n := 900) (fun i c d => h1 i c d) e a b)
set_option maxHeartbeats 4000000 in
set_option maxRecDepth 100000 in
theorem x_putOnTape (l : Launch) (D : va_G) (k : Nat → ClassId) (hr1 : Nat) (tx : Nat) (kw : Nat) (tp : Int) (ln : Int) (pl : Int) (en : Int) (ki : Int) (va : Int) (ke : Int) (fk : Int) (fp : Int) (nm : Int64) (bf : Nat → Int32) (x : Int) (ht : 0 ≤ tp ∧ tp ≤ 896) : WD (σ := ((Int × Int) × (Int64) × ((Nat → Int32)) × (Unit))) l yX4_putOnTape cX4_putOnTape 3 none 0 0 0 D k [.ref hr1, .int (iZ x)] [(hr1, .inr (4, [.ref tx, .ref kw, .int (iZ tp), .int (iZ ln), .int (iZ pl), .int (iZ en), .int (iZ ki), .int (iZ va), .int (iZ ke), .long nm, .int (iZ fk), .int (iZ fp)])), (tx, .inl (k 0, 900, .inl bf))] (fun _ => none) (fun u => (u.1.2 = tp + 4) ∧ (xRw u.2.2.1 (pF (gz bf) tp (tp + 4) x) 900)) (fun u => [(hr1, .inr (4, [.ref tx, .ref kw, .int (iZ u.1.2), .int (iZ ln), .int (iZ pl), .int (iZ en), .int (iZ ki), .int (iZ va), .int (iZ ke), .long nm, .int (iZ fk), .int (iZ fp)])), (tx, .inl (k 0, 900, .inl u.2.2.1))]) := by
  refine MW (by decide) (Nat.le_of_ble_eq_true rfl) (fun p e s m below meth c ls A hx hb hml hr hlocks hin hts hown hKK hP hD hS hA hl => ?_)
  have hK := hKK.1
  have hl : lv_has ls 3 [(0, .ref hr1), (1, .int (iZ x))] := hl
  refine lv_bipush (v := iZ 24) hx hb dX4_putOnTape_0 bip_24 ?_
  refine lv_istore_n (lv' := [(2, .int (iZ 24)), (0, .ref hr1), (1, .int (iZ x))]) hx hb dX4_putOnTape_2 rfl hl (bl rfl) rfl (fun ls hl => ?_)
  have HL1 : ∀ (fu : Nat) (j : Int) (tp3 : Int) (bf3 : Nat → Int32) (H : Heap) (locs : List Loc) (ls : Array Slot), (j + 9) < (fu : Int) → (-8 ≤ j ∧ j ≤ 24) → (tp3 * 8 = tp * 8 + 24 - j) → (xRw bf3 (pF (gz bf) tp tp3 x) 900) → va_P D vwCl [(hr1, .inr (4, [.ref tx, .ref kw, .int (iZ tp3), .int (iZ ln), .int (iZ pl), .int (iZ en), .int (iZ ki), .int (iZ va), .int (iZ ke), .long nm, .int (iZ fk), .int (iZ fp)])), (tx, .inl (k 0, 900, .inl bf3))] H → va_D A [(hr1, .inr (4, [.ref tx, .ref kw, .int (iZ tp3), .int (iZ ln), .int (iZ pl), .int (iZ en), .int (iZ ki), .int (iZ va), .int (iZ ke), .long nm, .int (iZ fk), .int (iZ fp)])), (tx, .inl (k 0, 900, .inl bf3))] → va_S A s.heap H locs → lv_has ls 3 [(2, .int (iZ j)), (0, .ref hr1), (1, .int (iZ x))] → W p l e (rj 0 0 0) s m [.ref hr1, .int (iZ x)].toArray below meth c H locs 0 0 (MQ below (QW (σ := ((Int × Int) × (Int64) × ((Nat → Int32)) × (Unit))) (fun _ => none) (fun u => (u.1.2 = tp + 4) ∧ (xRw u.2.2.1 (pF (gz bf) tp (tp + 4) x) 900)) (fun u => [(hr1, .inr (4, [.ref tx, .ref kw, .int (iZ u.1.2), .int (iZ ln), .int (iZ pl), .int (iZ en), .int (iZ ki), .int (iZ va), .int (iZ ke), .long nm, .int (iZ fk), .int (iZ fp)])), (tx, .inl (k 0, 900, .inl u.2.2.1))]) D A) [.ref hr1, .int (iZ x)].toArray s 0 0 A) (F0 m 3 ls []) := by
    intro fu
    induction fu with
    | zero => intro j tp3 bf3 H locs ls hμ1 hj ht2 hpt hP hD hS hl; exact absurd hμ1 (by omega)
    | succ fu ih1 =>
      intro j tp3 bf3 H locs ls hμ1 hj ht2 hpt hP hD hS hl
      refine lv_iload_n hx hb dX4_putOnTape_3 rfl (lv_at hl 0 rfl) ?_
      refine lv_if_lt (tgt := 36) hx hb dX4_putOnTape_4 rfl (fun c_1 => ?_) (fun c_1 => ?_)
      ·
        have c_1 := (zlt (x := iZ j) (y := iZ 0) rfl rfl ⟨by omega, by omega⟩ wn_0).mp c_1
        exact EWv hx hb hr hlocks hS ((0, tp3), 0, bf3, ()) rfl ⟨(show tp3 = tp + 4 from (by omega)), (show xRw bf3 (pF (gz bf) tp (tp + 4) x) 900 from (by rw [show tp + 4 = tp3 from (by omega)]; exact hpt))⟩ (hP.sub [0, 1] rfl) (hD.sub [0, 1] rfl rfl) dX4_putOnTape_36
      ·
        have c_1 := mt (zlt (x := iZ j) (y := iZ 0) rfl rfl ⟨by omega, by omega⟩ wn_0).mpr c_1
        refine lv_aload_n hx hb dX4_putOnTape_7 rfl (lv_at hl 1 rfl) ?_
        refine va_get (D := D) (ci := 4) (v := .ref tx) (C := RX4) (T := TX4) (N := 12) hx hb hts iX4 hown hK hP 0 rfl rfl 0 (bl rfl) (hts _ qf_X4_9) (fun _ h => h) rfl dX4_putOnTape_8 ?_
        refine lv_aload_n hx hb dX4_putOnTape_11 rfl (lv_at hl 1 rfl) ?_
        refine va_get (D := D) (ci := 4) (v := .int (iZ tp3)) (C := RX4) (T := TX4) (N := 12) hx hb hts iX4 hown hK hP 0 rfl rfl 2 (bl rfl) (hts _ qf_X4_42) (fun _ h => h) rfl dX4_putOnTape_12 ?_
        refine lv_iload_n hx hb dX4_putOnTape_15 rfl (lv_at hl 2 rfl) ?_
        refine lv_iload_n hx hb dX4_putOnTape_16 rfl (lv_at hl 0 rfl) ?_
        refine lv_ishr hx hb dX4_putOnTape_17 ?_
        refine lv_topi (fun x_3 ex_3 => ?_)
        obtain ⟨z_2, hz_2, hz_2a, hz_2b⟩ := i32_z x_3
        subst hz_2
        refine lv_i2b (v := _) hx hb dX4_putOnTape_18 rfl ?_
        refine lv_topi (fun x_5 ex_5 => ?_)
        obtain ⟨z_4, hz_4, hz_4a, hz_4b⟩ := i32_z x_5
        subst hz_4
        refine va_bast hx hb hK hP hD hS 1 0 rfl rfl (zin (e := tp3) (n := 900) ⟨by omega, by omega⟩ (bl rfl)) dX4_putOnTape_19 (fun H locs hP hD hS => ?_)
        obtain ⟨f_6, hf_6⟩ : ∃ gg9, gg9 = upd bf3 (iZ tp3).toNatClampNeg (vp_nar .byte (iZ z_4)) := ⟨_, rfl⟩
        rw [← hf_6] at hP hD
        refine lv_aload_n hx hb dX4_putOnTape_20 rfl (lv_at hl 1 rfl) ?_
        refine lv_dup hx hb dX4_putOnTape_21 rfl ?_
        refine va_get (D := D) (ci := 4) (v := .int (iZ tp3)) (C := RX4) (T := TX4) (N := 12) hx hb hts iX4 hown hK hP 0 rfl rfl 2 (bl rfl) (hts _ qf_X4_42) (fun _ h => h) rfl dX4_putOnTape_22 ?_
        refine lv_iconst (v := iZ 1) hx hb dX4_putOnTape_25 rfl ?_
        refine lv_iadd hx hb dX4_putOnTape_26 ?_
        refine lv_topi (fun x_7 ex_7 => ?_)
        obtain rfl : x_7 = iZ (tp3 + 1) := ex_7.trans (iZ_add tp3 1)
        refine va_put (D := D) (ci := 4) (v := .int (iZ (tp3 + 1))) (ty := .int) (C := RX4) (T := TX4) (N := 12) hx hb hts iX4 tyX4 tyX4_ok nmX4 hown hK hP hD hS 0 rfl rfl 2 (bl rfl) (hts _ qf_X4_42) (fun _ h => h) rfl (by decide +kernel) rfl rfl (Nat.le_of_ble_eq_true rfl) dX4_putOnTape_27 (fun H locs hP hD hS => ?_)
        refine lv_iinc (v := iZ (j + (-8))) (lv' := [(2, .int (iZ (j + (-8)))), (0, .ref hr1), (1, .int (iZ x))]) hx hb dX4_putOnTape_30 hl (k := 0) rfl (iZ_add j (-8)) (by decide) rfl (fun ls hl => ?_)
        refine lv_goto (tgt := 3) hx hb dX4_putOnTape_33 rfl ?_
        exact ih1  (j + (-8)) (tp3 + 1) f_6 _ _ _ (by omega) (show -8 ≤ (j + (-8)) ∧ (j + (-8)) ≤ 24 from ⟨by omega, by omega⟩) (show (tp3 + 1) * 8 = tp * 8 + 24 - (j + (-8)) from (by omega)) (show xRw f_6 (pF (gz bf) tp (tp3 + 1) x) 900 from (pt_step hpt hf_6 ex_3 ex_5 (by omega) ⟨⟨by omega, by omega⟩, by omega⟩ ⟨hz_4a, hz_4b⟩)) (hP.sub [0, 1] rfl) (hD.sub [0, 1] rfl rfl) hS (lv_sub hl [0, 1, 2] rfl)
  exact HL1 34 24 tp bf _ _ _ (by omega) (show -8 ≤ 24 ∧ 24 ≤ 24 from ⟨by omega, by omega⟩) (show tp * 8 = tp * 8 + 24 - 24 from (by omega)) (show xRw bf (pF (gz bf) tp tp x) 900 from (by rw [pF_0]; exact fun _ _ _ => rfl)) (hP.sub [0, 1] rfl) (hD.sub [0, 1] rfl rfl) hS (lv_sub hl [0, 1, 2] rfl)
set_option maxHeartbeats 4000000 in
set_option maxRecDepth 100000 in
theorem y_four (l : Launch) (D : va_G) (k : Nat → ClassId) (hm : Nat) (Ma : Nat) (Mn : Nat) (Ms : Nat) (My : Nat) (Mt : Nat) (Mp : Nat) (Mx : Nat) (Mo : Nat) (Mk : Nat) (Ml : Nat) (Mb : Nat) (Mh : Nat) (Mc : Nat) (Mz : Nat) (Mr : Nat) (Mq : Nat) (Mst : Int) (Mtd : Int) (Msz : Int) (Mtk : Int) (Mfr : Int) (Men : Int) (Mva : Int) (Mfk : Int) (Mfp : Int) (Mfs : Int) (Mse : Int) (Mlt : Int) (Mdp : Int) (Mct : Int) (Mdr : Int) (Mrs : Int) (Mit : Int) (Mmk : Int) (Mtp : Int64) (Mbt : Int64) (Pf : Nat → Int32) (x : Int) (ht : 0 ≤ Mtd ∧ Mtd ≤ 896) : WD (σ := ((Int × Int) × (Int64) × ((Nat → Int32)) × (Unit))) l yX12_four cX12_four 3 none 0 0 0 D k [.ref hm, .int (iZ x)] [(hm, .inr (12, [.ref Ma, .ref Mn, .int (iZ Mst), .long Mtp, .long Mbt, .ref Ms, .ref My, .ref Mt, .ref Mp, .ref Mx, .int (iZ Mtd), .int (iZ Msz), .int (iZ Mtk), .int (iZ Mfr), .int (iZ Men), .int (iZ Mva), .int (iZ Mfk), .int (iZ Mfp), .int (iZ Mfs), .int (iZ Mse), .int (iZ Mlt), .ref Mo, .int (iZ Mdp), .int (iZ Mct), .ref Mk, .ref Ml, .ref Mb, .ref Mh, .ref Mc, .int (iZ Mdr), .int (iZ Mrs), .ref Mz, .ref Mr, .ref Mq, .int (iZ Mit), .int (iZ Mmk)])), (Mp, .inl (k 0, 900, .inl Pf))] (fun _ => none) (fun u => (u.1.2 = Mtd + 4) ∧ (xRw u.2.2.1 (pF (gz Pf) Mtd (Mtd + 4) x) 900)) (fun u => [(hm, .inr (12, [.ref Ma, .ref Mn, .int (iZ Mst), .long Mtp, .long Mbt, .ref Ms, .ref My, .ref Mt, .ref Mp, .ref Mx, .int (iZ u.1.2), .int (iZ Msz), .int (iZ Mtk), .int (iZ Mfr), .int (iZ Men), .int (iZ Mva), .int (iZ Mfk), .int (iZ Mfp), .int (iZ Mfs), .int (iZ Mse), .int (iZ Mlt), .ref Mo, .int (iZ Mdp), .int (iZ Mct), .ref Mk, .ref Ml, .ref Mb, .ref Mh, .ref Mc, .int (iZ Mdr), .int (iZ Mrs), .ref Mz, .ref Mr, .ref Mq, .int (iZ Mit), .int (iZ Mmk)])), (Mp, .inl (k 0, 900, .inl u.2.2.1))]) := by
  refine MW (by decide) (Nat.le_of_ble_eq_true rfl) (fun p e s m below meth c ls A hx hb hml hr hlocks hin hts hown hKK hP hD hS hA hl => ?_)
  have hK := hKK.1
  have hl : lv_has ls 3 [(0, .ref hm), (1, .int (iZ x))] := hl
  refine lv_bipush (v := iZ 24) hx hb dX12_four_0 bip_24 ?_
  refine lv_istore_n (lv' := [(2, .int (iZ 24)), (0, .ref hm), (1, .int (iZ x))]) hx hb dX12_four_2 rfl hl (bl rfl) rfl (fun ls hl => ?_)
  have HL1 : ∀ (fu : Nat) (j : Int) (Mtd3 : Int) (Pf3 : Nat → Int32) (H : Heap) (locs : List Loc) (ls : Array Slot), (j + 9) < (fu : Int) → (-8 ≤ j ∧ j ≤ 24) → (Mtd3 * 8 = Mtd * 8 + 24 - j) → (xRw Pf3 (pF (gz Pf) Mtd Mtd3 x) 900) → va_P D vwCl [(hm, .inr (12, [.ref Ma, .ref Mn, .int (iZ Mst), .long Mtp, .long Mbt, .ref Ms, .ref My, .ref Mt, .ref Mp, .ref Mx, .int (iZ Mtd3), .int (iZ Msz), .int (iZ Mtk), .int (iZ Mfr), .int (iZ Men), .int (iZ Mva), .int (iZ Mfk), .int (iZ Mfp), .int (iZ Mfs), .int (iZ Mse), .int (iZ Mlt), .ref Mo, .int (iZ Mdp), .int (iZ Mct), .ref Mk, .ref Ml, .ref Mb, .ref Mh, .ref Mc, .int (iZ Mdr), .int (iZ Mrs), .ref Mz, .ref Mr, .ref Mq, .int (iZ Mit), .int (iZ Mmk)])), (Mp, .inl (k 0, 900, .inl Pf3))] H → va_D A [(hm, .inr (12, [.ref Ma, .ref Mn, .int (iZ Mst), .long Mtp, .long Mbt, .ref Ms, .ref My, .ref Mt, .ref Mp, .ref Mx, .int (iZ Mtd3), .int (iZ Msz), .int (iZ Mtk), .int (iZ Mfr), .int (iZ Men), .int (iZ Mva), .int (iZ Mfk), .int (iZ Mfp), .int (iZ Mfs), .int (iZ Mse), .int (iZ Mlt), .ref Mo, .int (iZ Mdp), .int (iZ Mct), .ref Mk, .ref Ml, .ref Mb, .ref Mh, .ref Mc, .int (iZ Mdr), .int (iZ Mrs), .ref Mz, .ref Mr, .ref Mq, .int (iZ Mit), .int (iZ Mmk)])), (Mp, .inl (k 0, 900, .inl Pf3))] → va_S A s.heap H locs → lv_has ls 3 [(2, .int (iZ j)), (0, .ref hm), (1, .int (iZ x))] → W p l e (rj 0 0 0) s m [.ref hm, .int (iZ x)].toArray below meth c H locs 0 0 (MQ below (QW (σ := ((Int × Int) × (Int64) × ((Nat → Int32)) × (Unit))) (fun _ => none) (fun u => (u.1.2 = Mtd + 4) ∧ (xRw u.2.2.1 (pF (gz Pf) Mtd (Mtd + 4) x) 900)) (fun u => [(hm, .inr (12, [.ref Ma, .ref Mn, .int (iZ Mst), .long Mtp, .long Mbt, .ref Ms, .ref My, .ref Mt, .ref Mp, .ref Mx, .int (iZ u.1.2), .int (iZ Msz), .int (iZ Mtk), .int (iZ Mfr), .int (iZ Men), .int (iZ Mva), .int (iZ Mfk), .int (iZ Mfp), .int (iZ Mfs), .int (iZ Mse), .int (iZ Mlt), .ref Mo, .int (iZ Mdp), .int (iZ Mct), .ref Mk, .ref Ml, .ref Mb, .ref Mh, .ref Mc, .int (iZ Mdr), .int (iZ Mrs), .ref Mz, .ref Mr, .ref Mq, .int (iZ Mit), .int (iZ Mmk)])), (Mp, .inl (k 0, 900, .inl u.2.2.1))]) D A) [.ref hm, .int (iZ x)].toArray s 0 0 A) (F0 m 3 ls []) := by
    intro fu
    induction fu with
    | zero => intro j Mtd3 Pf3 H locs ls hμ1 hj ht2 hpt hP hD hS hl; exact absurd hμ1 (by omega)
    | succ fu ih1 =>
      intro j Mtd3 Pf3 H locs ls hμ1 hj ht2 hpt hP hD hS hl
      refine lv_iload_n hx hb dX12_four_3 rfl (lv_at hl 0 rfl) ?_
      refine lv_if_lt (tgt := 36) hx hb dX12_four_4 rfl (fun c_1 => ?_) (fun c_1 => ?_)
      ·
        have c_1 := (zlt (x := iZ j) (y := iZ 0) rfl rfl ⟨by omega, by omega⟩ wn_0).mp c_1
        exact EWv hx hb hr hlocks hS ((0, Mtd3), 0, Pf3, ()) rfl ⟨(show Mtd3 = Mtd + 4 from (by omega)), (show xRw Pf3 (pF (gz Pf) Mtd (Mtd + 4) x) 900 from (by rw [show Mtd + 4 = Mtd3 from (by omega)]; exact hpt))⟩ (hP.sub [0, 1] rfl) (hD.sub [0, 1] rfl rfl) dX12_four_36
      ·
        have c_1 := mt (zlt (x := iZ j) (y := iZ 0) rfl rfl ⟨by omega, by omega⟩ wn_0).mpr c_1
        refine lv_aload_n hx hb dX12_four_7 rfl (lv_at hl 1 rfl) ?_
        refine va_get (D := D) (ci := 12) (v := .ref Mp) (C := RX12) (T := TX12) (N := 36) hx hb hts iX12 hown hK hP 0 rfl rfl 8 (bl rfl) (hts _ qf_X12_30) (fun _ h => h) rfl dX12_four_8 ?_
        refine lv_aload_n hx hb dX12_four_11 rfl (lv_at hl 1 rfl) ?_
        refine va_get (D := D) (ci := 12) (v := .int (iZ Mtd3)) (C := RX12) (T := TX12) (N := 36) hx hb hts iX12 hown hK hP 0 rfl rfl 10 (bl rfl) (hts _ qf_X12_106) (fun _ h => h) rfl dX12_four_12 ?_
        refine lv_iload_n hx hb dX12_four_15 rfl (lv_at hl 2 rfl) ?_
        refine lv_iload_n hx hb dX12_four_16 rfl (lv_at hl 0 rfl) ?_
        refine lv_ishr hx hb dX12_four_17 ?_
        refine lv_topi (fun x_3 ex_3 => ?_)
        obtain ⟨z_2, hz_2, hz_2a, hz_2b⟩ := i32_z x_3
        subst hz_2
        refine lv_i2b (v := _) hx hb dX12_four_18 rfl ?_
        refine lv_topi (fun x_5 ex_5 => ?_)
        obtain ⟨z_4, hz_4, hz_4a, hz_4b⟩ := i32_z x_5
        subst hz_4
        refine va_bast hx hb hK hP hD hS 1 0 rfl rfl (zin (e := Mtd3) (n := 900) ⟨by omega, by omega⟩ (bl rfl)) dX12_four_19 (fun H locs hP hD hS => ?_)
        obtain ⟨f_6, hf_6⟩ : ∃ gg9, gg9 = upd Pf3 (iZ Mtd3).toNatClampNeg (vp_nar .byte (iZ z_4)) := ⟨_, rfl⟩
        rw [← hf_6] at hP hD
        refine lv_aload_n hx hb dX12_four_20 rfl (lv_at hl 1 rfl) ?_
        refine lv_dup hx hb dX12_four_21 rfl ?_
        refine va_get (D := D) (ci := 12) (v := .int (iZ Mtd3)) (C := RX12) (T := TX12) (N := 36) hx hb hts iX12 hown hK hP 0 rfl rfl 10 (bl rfl) (hts _ qf_X12_106) (fun _ h => h) rfl dX12_four_22 ?_
        refine lv_iconst (v := iZ 1) hx hb dX12_four_25 rfl ?_
        refine lv_iadd hx hb dX12_four_26 ?_
        refine lv_topi (fun x_7 ex_7 => ?_)
        obtain rfl : x_7 = iZ (Mtd3 + 1) := ex_7.trans (iZ_add Mtd3 1)
        refine va_put (D := D) (ci := 12) (v := .int (iZ (Mtd3 + 1))) (ty := .int) (C := RX12) (T := TX12) (N := 36) hx hb hts iX12 tyX12 tyX12_ok nmX12 hown hK hP hD hS 0 rfl rfl 10 (bl rfl) (hts _ qf_X12_106) (fun _ h => h) rfl (by decide +kernel) rfl rfl (Nat.le_of_ble_eq_true rfl) dX12_four_27 (fun H locs hP hD hS => ?_)
        refine lv_iinc (v := iZ (j + (-8))) (lv' := [(2, .int (iZ (j + (-8)))), (0, .ref hm), (1, .int (iZ x))]) hx hb dX12_four_30 hl (k := 0) rfl (iZ_add j (-8)) (by decide) rfl (fun ls hl => ?_)
        refine lv_goto (tgt := 3) hx hb dX12_four_33 rfl ?_
        exact ih1  (j + (-8)) (Mtd3 + 1) f_6 _ _ _ (by omega) (show -8 ≤ (j + (-8)) ∧ (j + (-8)) ≤ 24 from ⟨by omega, by omega⟩) (show (Mtd3 + 1) * 8 = Mtd * 8 + 24 - (j + (-8)) from (by omega)) (show xRw f_6 (pF (gz Pf) Mtd (Mtd3 + 1) x) 900 from (pt_step hpt hf_6 ex_3 ex_5 (by omega) ⟨⟨by omega, by omega⟩, by omega⟩ ⟨hz_4a, hz_4b⟩)) (hP.sub [0, 1] rfl) (hD.sub [0, 1] rfl rfl) hS (lv_sub hl [0, 1, 2] rfl)
  exact HL1 34 24 Mtd Pf _ _ _ (by omega) (show -8 ≤ 24 ∧ 24 ≤ 24 from ⟨by omega, by omega⟩) (show Mtd * 8 = Mtd * 8 + 24 - 24 from (by omega)) (show xRw Pf (pF (gz Pf) Mtd Mtd x) 900 from (by rw [pF_0]; exact fun _ _ _ => rfl)) (hP.sub [0, 1] rfl) (hD.sub [0, 1] rfl rfl) hS (lv_sub hl [0, 1, 2] rfl)
set_option maxHeartbeats 4000000 in
set_option maxRecDepth 100000 in
theorem x_feed (l : Launch) (D : va_G) (k : Nat → ClassId) (hx1 : Nat) (ta : Nat) (hw1 : Nat) (hw12 : Nat) (ka : Nat) (hr1 : Nat) (hq : Nat) (hv : Nat) (h : Nat) (hn1 : Nat) (hL : Nat) (li : Nat) (ev : Int) (mk : Int) (ou : Int) (up : Int64) (lo : Int64) (tx : Nat) (kw : Nat) (tp : Int) (ln : Int) (pl : Int) (en : Int) (ki : Int) (va : Int) (ke : Int) (fk : Int) (fp : Int) (nm : Int64) (bf : Nat → Int32) (kwf : Nat → Int64) (x1 : Int) (x2 : Int) (x3 : Int) (x4 : Int) (x5 : Int) (htp : 0 ≤ tp ∧ tp ≤ 900) : WD (σ := ((Int × Int) × (Int64) × ((Nat → Int32)) × (Unit))) l yX11_feed cX11_feed 6 (some .int) 1 0 0 D k [.ref hx1, .int (iZ x1), .int (iZ x2), .int (iZ x3), .int (iZ x4), .int (iZ x5)] [(hx1, .inr (11, [.ref ta, .ref hw1, .ref hw12, .ref ka, .ref hr1, .ref hq, .ref hv, .ref h, .ref hn1, .ref hL, .ref li, .int (iZ ev), .int (iZ mk), .int (iZ ou), .long up, .long lo])), (hr1, .inr (4, [.ref tx, .ref kw, .int (iZ tp), .int (iZ ln), .int (iZ pl), .int (iZ en), .int (iZ ki), .int (iZ va), .int (iZ ke), .long nm, .int (iZ fk), .int (iZ fp)])), (tx, .inl (k 0, 900, .inl bf)), (kw, .inl (k 2, 25, .inr (.inl kwf)))] (fun u => some (.int (iZ u.1.1))) (fun u => (tp > 880 ∧ u.1.1 = -1 ∧ u.1.2 = tp ∧ u.2.2.1 = bf) ∨ (tp ≤ 880 ∧ u.1.1 = tp + 20 ∧ u.1.2 = tp + 20 ∧ xRw u.2.2.1 (fd5 (gz bf) tp x1 x2 x3 x4 x5) 900)) (fun u => [(hx1, .inr (11, [.ref ta, .ref hw1, .ref hw12, .ref ka, .ref hr1, .ref hq, .ref hv, .ref h, .ref hn1, .ref hL, .ref li, .int (iZ ev), .int (iZ mk), .int (iZ ou), .long up, .long lo])), (hr1, .inr (4, [.ref tx, .ref kw, .int (iZ u.1.2), .int (iZ ln), .int (iZ pl), .int (iZ en), .int (iZ ki), .int (iZ va), .int (iZ ke), .long nm, .int (iZ fk), .int (iZ fp)])), (tx, .inl (k 0, 900, .inl u.2.2.1)), (kw, .inl (k 2, 25, .inr (.inl kwf)))]) := by
  refine MW (by decide) (Nat.le_of_ble_eq_true rfl) (fun p e s m below meth c ls A hx hb hml hr hlocks hin hts hown hKK hP hD hS hA hl => ?_)
  have hK := hKK.1
  have hl : lv_has ls 6 [(0, .ref hx1), (1, .int (iZ x1)), (2, .int (iZ x2)), (3, .int (iZ x3)), (4, .int (iZ x4)), (5, .int (iZ x5))] := hl
  refine lv_aload_n hx hb dX11_feed_0 rfl (lv_at hl 0 rfl) ?_
  refine va_get (D := D) (ci := 11) (v := .ref hr1) (C := RX11) (T := TX11) (N := 16) hx hb hts iX11 hown hK hP 0 rfl rfl 4 (bl rfl) (hts _ qf_X11_32) (fun _ h => h) rfl dX11_feed_1 ?_
  refine va_get (D := D) (ci := 4) (v := .int (iZ tp)) (C := RX4) (T := TX4) (N := 12) hx hb hts iX4 hown hK hP 1 rfl rfl 2 (bl rfl) (hts _ qf_X11_149) (fun _ h => h) rfl dX11_feed_4 ?_
  refine lv_sipush (v := iZ 880) hx hb dX11_feed_7 sip_880 ?_
  refine lv_icmp_le (tgt := 15) hx hb dX11_feed_10 rfl (fun c_1 => ?_) (fun c_1 => ?_)
  ·
    have c_1 := (zle (x := iZ tp) (y := iZ 880) rfl rfl ⟨by omega, by omega⟩ wn_880).mp c_1
    refine lv_aload_n hx hb dX11_feed_15 rfl (lv_at hl 0 rfl) ?_
    refine va_get (D := D) (ci := 11) (v := .ref hr1) (C := RX11) (T := TX11) (N := 16) hx hb hts iX11 hown hK hP 0 rfl rfl 4 (bl rfl) (hts _ qf_X11_32) (fun _ h => h) rfl dX11_feed_16 ?_
    refine lv_iload_n hx hb dX11_feed_19 rfl (lv_at hl 1 rfl) ?_
    refine CWV (As := [.int (iZ x1)]) (rest := []) (wc := _) (wr := [(hx1, .inr (11, [.ref ta, .ref hw1, .ref hw12, .ref ka, .ref hr1, .ref hq, .ref hv, .ref h, .ref hn1, .ref hL, .ref li, .int (iZ ev), .int (iZ mk), .int (iZ ou), .long up, .long lo])), (kw, .inl (k 2, 25, .inr (.inl kwf)))]) hx hb hml hown hts hKK hP hD hS hA (x_putOnTape l D k hr1 tx kw tp ln pl en ki va ke fk fp nm bf x1 ⟨by omega, by omega⟩) ci_X4_putOnTape qm_X11_152 ⟨Nat.le_of_ble_eq_true rfl, Nat.le_of_ble_eq_true rfl⟩ ⟨Nat.le_of_ble_eq_true rfl, Nat.le_of_ble_eq_true rfl⟩ [1, 2] [0, 3] rfl rfl rfl rfl rfl (dj rfl) 0 rfl rfl rfl hl.1 rfl (Nat.le_of_ble_eq_true rfl) dX11_feed_20 (fun u_2 H locs hφ hP hD hS => ?_)
    obtain ⟨p_3, p_4⟩ : (u_2.1.2 = tp + 4) ∧ (xRw u_2.2.2.1 (pF (gz bf) tp (tp + 4) x1) 900) := hφ
    refine W.eq (g2 := F0 m 23 ls []) rfl ?_
    refine lv_aload_n hx hb dX11_feed_23 rfl (lv_at hl 0 rfl) ?_
    refine va_get (D := D) (ci := 11) (v := .ref hr1) (C := RX11) (T := TX11) (N := 16) hx hb hts iX11 hown hK hP 0 rfl rfl 4 (bl rfl) (hts _ qf_X11_32) (fun _ h => h) rfl dX11_feed_24 ?_
    refine lv_iload_n hx hb dX11_feed_27 rfl (lv_at hl 2 rfl) ?_
    refine CWV (As := [.int (iZ x2)]) (rest := []) (wc := _) (wr := [(hx1, .inr (11, [.ref ta, .ref hw1, .ref hw12, .ref ka, .ref hr1, .ref hq, .ref hv, .ref h, .ref hn1, .ref hL, .ref li, .int (iZ ev), .int (iZ mk), .int (iZ ou), .long up, .long lo])), (kw, .inl (k 2, 25, .inr (.inl kwf)))]) hx hb hml hown hts hKK hP hD hS hA (x_putOnTape l D k hr1 tx kw u_2.1.2 ln pl en ki va ke fk fp nm u_2.2.2.1 x2 ⟨by omega, by omega⟩) ci_X4_putOnTape qm_X11_152 ⟨Nat.le_of_ble_eq_true rfl, Nat.le_of_ble_eq_true rfl⟩ ⟨Nat.le_of_ble_eq_true rfl, Nat.le_of_ble_eq_true rfl⟩ [2, 3] [0, 1] rfl rfl rfl rfl rfl (dj rfl) 0 rfl rfl rfl hl.1 rfl (Nat.le_of_ble_eq_true rfl) dX11_feed_28 (fun u_5 H locs hφ hP hD hS => ?_)
    obtain ⟨p_6, p_7⟩ : (u_5.1.2 = u_2.1.2 + 4) ∧ (xRw u_5.2.2.1 (pF (gz u_2.2.2.1) u_2.1.2 (u_2.1.2 + 4) x2) 900) := hφ
    refine W.eq (g2 := F0 m 31 ls []) rfl ?_
    refine lv_aload_n hx hb dX11_feed_31 rfl (lv_at hl 0 rfl) ?_
    refine va_get (D := D) (ci := 11) (v := .ref hr1) (C := RX11) (T := TX11) (N := 16) hx hb hts iX11 hown hK hP 0 rfl rfl 4 (bl rfl) (hts _ qf_X11_32) (fun _ h => h) rfl dX11_feed_32 ?_
    refine lv_iload_n hx hb dX11_feed_35 rfl (lv_at hl 3 rfl) ?_
    refine CWV (As := [.int (iZ x3)]) (rest := []) (wc := _) (wr := [(hx1, .inr (11, [.ref ta, .ref hw1, .ref hw12, .ref ka, .ref hr1, .ref hq, .ref hv, .ref h, .ref hn1, .ref hL, .ref li, .int (iZ ev), .int (iZ mk), .int (iZ ou), .long up, .long lo])), (kw, .inl (k 2, 25, .inr (.inl kwf)))]) hx hb hml hown hts hKK hP hD hS hA (x_putOnTape l D k hr1 tx kw u_5.1.2 ln pl en ki va ke fk fp nm u_5.2.2.1 x3 ⟨by omega, by omega⟩) ci_X4_putOnTape qm_X11_152 ⟨Nat.le_of_ble_eq_true rfl, Nat.le_of_ble_eq_true rfl⟩ ⟨Nat.le_of_ble_eq_true rfl, Nat.le_of_ble_eq_true rfl⟩ [2, 3] [0, 1] rfl rfl rfl rfl rfl (dj rfl) 0 rfl rfl rfl hl.1 rfl (Nat.le_of_ble_eq_true rfl) dX11_feed_36 (fun u_8 H locs hφ hP hD hS => ?_)
    obtain ⟨p_9, p_10⟩ : (u_8.1.2 = u_5.1.2 + 4) ∧ (xRw u_8.2.2.1 (pF (gz u_5.2.2.1) u_5.1.2 (u_5.1.2 + 4) x3) 900) := hφ
    refine W.eq (g2 := F0 m 39 ls []) rfl ?_
    refine lv_aload_n hx hb dX11_feed_39 rfl (lv_at hl 0 rfl) ?_
    refine va_get (D := D) (ci := 11) (v := .ref hr1) (C := RX11) (T := TX11) (N := 16) hx hb hts iX11 hown hK hP 0 rfl rfl 4 (bl rfl) (hts _ qf_X11_32) (fun _ h => h) rfl dX11_feed_40 ?_
    refine lv_iload hx hb dX11_feed_43 (lv_at hl 4 rfl) ?_
    refine CWV (As := [.int (iZ x4)]) (rest := []) (wc := _) (wr := [(hx1, .inr (11, [.ref ta, .ref hw1, .ref hw12, .ref ka, .ref hr1, .ref hq, .ref hv, .ref h, .ref hn1, .ref hL, .ref li, .int (iZ ev), .int (iZ mk), .int (iZ ou), .long up, .long lo])), (kw, .inl (k 2, 25, .inr (.inl kwf)))]) hx hb hml hown hts hKK hP hD hS hA (x_putOnTape l D k hr1 tx kw u_8.1.2 ln pl en ki va ke fk fp nm u_8.2.2.1 x4 ⟨by omega, by omega⟩) ci_X4_putOnTape qm_X11_152 ⟨Nat.le_of_ble_eq_true rfl, Nat.le_of_ble_eq_true rfl⟩ ⟨Nat.le_of_ble_eq_true rfl, Nat.le_of_ble_eq_true rfl⟩ [2, 3] [0, 1] rfl rfl rfl rfl rfl (dj rfl) 0 rfl rfl rfl hl.1 rfl (Nat.le_of_ble_eq_true rfl) dX11_feed_45 (fun u_11 H locs hφ hP hD hS => ?_)
    obtain ⟨p_12, p_13⟩ : (u_11.1.2 = u_8.1.2 + 4) ∧ (xRw u_11.2.2.1 (pF (gz u_8.2.2.1) u_8.1.2 (u_8.1.2 + 4) x4) 900) := hφ
    refine W.eq (g2 := F0 m 48 ls []) rfl ?_
    refine lv_aload_n hx hb dX11_feed_48 rfl (lv_at hl 0 rfl) ?_
    refine va_get (D := D) (ci := 11) (v := .ref hr1) (C := RX11) (T := TX11) (N := 16) hx hb hts iX11 hown hK hP 0 rfl rfl 4 (bl rfl) (hts _ qf_X11_32) (fun _ h => h) rfl dX11_feed_49 ?_
    refine lv_iload hx hb dX11_feed_52 (lv_at hl 5 rfl) ?_
    refine CWV (As := [.int (iZ x5)]) (rest := []) (wc := _) (wr := [(hx1, .inr (11, [.ref ta, .ref hw1, .ref hw12, .ref ka, .ref hr1, .ref hq, .ref hv, .ref h, .ref hn1, .ref hL, .ref li, .int (iZ ev), .int (iZ mk), .int (iZ ou), .long up, .long lo])), (kw, .inl (k 2, 25, .inr (.inl kwf)))]) hx hb hml hown hts hKK hP hD hS hA (x_putOnTape l D k hr1 tx kw u_11.1.2 ln pl en ki va ke fk fp nm u_11.2.2.1 x5 ⟨by omega, by omega⟩) ci_X4_putOnTape qm_X11_152 ⟨Nat.le_of_ble_eq_true rfl, Nat.le_of_ble_eq_true rfl⟩ ⟨Nat.le_of_ble_eq_true rfl, Nat.le_of_ble_eq_true rfl⟩ [2, 3] [0, 1] rfl rfl rfl rfl rfl (dj rfl) 0 rfl rfl rfl hl.1 rfl (Nat.le_of_ble_eq_true rfl) dX11_feed_54 (fun u_14 H locs hφ hP hD hS => ?_)
    obtain ⟨p_15, p_16⟩ : (u_14.1.2 = u_11.1.2 + 4) ∧ (xRw u_14.2.2.1 (pF (gz u_11.2.2.1) u_11.1.2 (u_11.1.2 + 4) x5) 900) := hφ
    refine W.eq (g2 := F0 m 57 ls []) rfl ?_
    refine lv_aload_n hx hb dX11_feed_57 rfl (lv_at hl 0 rfl) ?_
    refine va_get (D := D) (ci := 11) (v := .ref hr1) (C := RX11) (T := TX11) (N := 16) hx hb hts iX11 hown hK hP 0 rfl rfl 4 (bl rfl) (hts _ qf_X11_32) (fun _ h => h) rfl dX11_feed_58 ?_
    refine va_get (D := D) (ci := 4) (v := .int (iZ u_14.1.2)) (C := RX4) (T := TX4) (N := 12) hx hb hts iX4 hown hK hP 2 rfl rfl 2 (bl rfl) (hts _ qf_X11_149) (fun _ h => h) rfl dX11_feed_61 ?_
    have f0 := p_4
    have f1 := xRw.pf p_7 f0
    have f2 := xRw.pf p_10 f1
    have f3 := xRw.pf p_13 f2
    have f4 := xRw.pf p_16 f3
    exact EWi hx hb hr hlocks hS ((u_14.1.2, u_14.1.2), 0, u_14.2.2.1, ()) rfl (show (tp > 880 ∧ u_14.1.2 = -1 ∧ u_14.1.2 = tp ∧ u_14.2.2.1 = bf) ∨ (tp ≤ 880 ∧ u_14.1.2 = tp + 20 ∧ u_14.1.2 = tp + 20 ∧ xRw u_14.2.2.1 (fd5 (gz bf) tp x1 x2 x3 x4 x5) 900) from (Or.inr ⟨by omega, by omega, by omega, by rw [p_12, p_9, p_6, p_3] at f4; exact f4⟩)) (hP.sub [0, 2, 3, 1] rfl) (hD.sub [0, 2, 3, 1] rfl rfl) dX11_feed_64
  ·
    have c_1 := mt (zle (x := iZ tp) (y := iZ 880) rfl rfl ⟨by omega, by omega⟩ wn_880).mpr c_1
    refine lv_iconst (v := iZ (-1)) hx hb dX11_feed_13 rfl ?_
    exact EWi hx hb hr hlocks hS (((-1), tp), 0, bf, ()) rfl (show (tp > 880 ∧ (-1) = -1 ∧ tp = tp ∧ bf = bf) ∨ (tp ≤ 880 ∧ (-1) = tp + 20 ∧ tp = tp + 20 ∧ xRw bf (fd5 (gz bf) tp x1 x2 x3 x4 x5) 900) from (Or.inl ⟨by omega, by omega, by omega, rfl⟩)) (hP.sub [0, 1, 2, 3] rfl) (hD.sub [0, 1, 2, 3] rfl rfl) dX11_feed_14
set_option maxHeartbeats 4000000 in
set_option maxRecDepth 100000 in
theorem y_feed (l : Launch) (D : va_G) (k : Nat → ClassId) (hm : Nat) (Ma : Nat) (Mn : Nat) (Ms : Nat) (My : Nat) (Mt : Nat) (Mp : Nat) (Mx : Nat) (Mo : Nat) (Mk : Nat) (Ml : Nat) (Mb : Nat) (Mh : Nat) (Mc : Nat) (Mz : Nat) (Mr : Nat) (Mq : Nat) (Mst : Int) (Mtd : Int) (Msz : Int) (Mtk : Int) (Mfr : Int) (Men : Int) (Mva : Int) (Mfk : Int) (Mfp : Int) (Mfs : Int) (Mse : Int) (Mlt : Int) (Mdp : Int) (Mct : Int) (Mdr : Int) (Mrs : Int) (Mit : Int) (Mmk : Int) (Mtp : Int64) (Mbt : Int64) (Pf : Nat → Int32) (x1 : Int) (x2 : Int) (x3 : Int) (x4 : Int) (x5 : Int) (htd : 0 ≤ Mtd ∧ Mtd ≤ 900) : WD (σ := ((Int × Int) × (Int64) × ((Nat → Int32)) × (Unit))) l yX12_feed cX12_feed 6 (some .int) 1 0 0 D k [.ref hm, .int (iZ x1), .int (iZ x2), .int (iZ x3), .int (iZ x4), .int (iZ x5)] [(hm, .inr (12, [.ref Ma, .ref Mn, .int (iZ Mst), .long Mtp, .long Mbt, .ref Ms, .ref My, .ref Mt, .ref Mp, .ref Mx, .int (iZ Mtd), .int (iZ Msz), .int (iZ Mtk), .int (iZ Mfr), .int (iZ Men), .int (iZ Mva), .int (iZ Mfk), .int (iZ Mfp), .int (iZ Mfs), .int (iZ Mse), .int (iZ Mlt), .ref Mo, .int (iZ Mdp), .int (iZ Mct), .ref Mk, .ref Ml, .ref Mb, .ref Mh, .ref Mc, .int (iZ Mdr), .int (iZ Mrs), .ref Mz, .ref Mr, .ref Mq, .int (iZ Mit), .int (iZ Mmk)])), (Mp, .inl (k 0, 900, .inl Pf))] (fun u => some (.int (iZ u.1.1))) (fun u => (Mtd > 880 ∧ u.1.1 = -1 ∧ u.1.2 = Mtd ∧ u.2.2.1 = Pf) ∨ (Mtd ≤ 880 ∧ u.1.1 = Mtd + 20 ∧ u.1.2 = Mtd + 20 ∧ xRw u.2.2.1 (fd5 (gz Pf) Mtd x1 x2 x3 x4 x5) 900)) (fun u => [(hm, .inr (12, [.ref Ma, .ref Mn, .int (iZ Mst), .long Mtp, .long Mbt, .ref Ms, .ref My, .ref Mt, .ref Mp, .ref Mx, .int (iZ u.1.2), .int (iZ Msz), .int (iZ Mtk), .int (iZ Mfr), .int (iZ Men), .int (iZ Mva), .int (iZ Mfk), .int (iZ Mfp), .int (iZ Mfs), .int (iZ Mse), .int (iZ Mlt), .ref Mo, .int (iZ Mdp), .int (iZ Mct), .ref Mk, .ref Ml, .ref Mb, .ref Mh, .ref Mc, .int (iZ Mdr), .int (iZ Mrs), .ref Mz, .ref Mr, .ref Mq, .int (iZ Mit), .int (iZ Mmk)])), (Mp, .inl (k 0, 900, .inl u.2.2.1))]) := by
  refine MW (by decide) (Nat.le_of_ble_eq_true rfl) (fun p e s m below meth c ls A hx hb hml hr hlocks hin hts hown hKK hP hD hS hA hl => ?_)
  have hK := hKK.1
  have hl : lv_has ls 6 [(0, .ref hm), (1, .int (iZ x1)), (2, .int (iZ x2)), (3, .int (iZ x3)), (4, .int (iZ x4)), (5, .int (iZ x5))] := hl
  refine lv_aload_n hx hb dX12_feed_0 rfl (lv_at hl 0 rfl) ?_
  refine va_get (D := D) (ci := 12) (v := .int (iZ Mtd)) (C := RX12) (T := TX12) (N := 36) hx hb hts iX12 hown hK hP 0 rfl rfl 10 (bl rfl) (hts _ qf_X12_106) (fun _ h => h) rfl dX12_feed_1 ?_
  refine lv_bipush (v := iZ 20) hx hb dX12_feed_4 bip_20 ?_
  refine lv_iadd hx hb dX12_feed_6 ?_
  refine lv_topi (fun x_1 ex_1 => ?_)
  obtain rfl : x_1 = iZ (Mtd + 20) := ex_1.trans (iZ_add Mtd 20)
  refine lv_sipush (v := iZ 900) hx hb dX12_feed_7 sip_900 ?_
  refine lv_icmp_le (tgt := 15) hx hb dX12_feed_10 rfl (fun c_2 => ?_) (fun c_2 => ?_)
  ·
    have c_2 := (zle (x := iZ (Mtd + 20)) (y := iZ 900) rfl rfl ⟨by omega, by omega⟩ wn_900).mp c_2
    refine lv_aload_n hx hb dX12_feed_15 rfl (lv_at hl 0 rfl) ?_
    refine lv_iload_n hx hb dX12_feed_16 rfl (lv_at hl 1 rfl) ?_
    refine CWV (As := [.int (iZ x1)]) (rest := []) (wc := _) (wr := []) hx hb hml hown hts hKK hP hD hS hA (y_four l D k hm Ma Mn Ms My Mt Mp Mx Mo Mk Ml Mb Mh Mc Mz Mr Mq Mst Mtd Msz Mtk Mfr Men Mva Mfk Mfp Mfs Mse Mlt Mdp Mct Mdr Mrs Mit Mmk Mtp Mbt Pf x1 ⟨by omega, by omega⟩) ci_X12_four qm_X12_109 ⟨Nat.le_of_ble_eq_true rfl, Nat.le_of_ble_eq_true rfl⟩ ⟨Nat.le_of_ble_eq_true rfl, Nat.le_of_ble_eq_true rfl⟩ [0, 1] [] rfl rfl rfl rfl rfl (dj rfl) 0 rfl rfl rfl hl.1 rfl (Nat.le_of_ble_eq_true rfl) dX12_feed_17 (fun u_3 H locs hφ hP hD hS => ?_)
    obtain ⟨p_4, p_5⟩ : (u_3.1.2 = Mtd + 4) ∧ (xRw u_3.2.2.1 (pF (gz Pf) Mtd (Mtd + 4) x1) 900) := hφ
    refine W.eq (g2 := F0 m 20 ls []) rfl ?_
    refine lv_aload_n hx hb dX12_feed_20 rfl (lv_at hl 0 rfl) ?_
    refine lv_iload_n hx hb dX12_feed_21 rfl (lv_at hl 2 rfl) ?_
    refine CWV (As := [.int (iZ x2)]) (rest := []) (wc := _) (wr := []) hx hb hml hown hts hKK hP hD hS hA (y_four l D k hm Ma Mn Ms My Mt Mp Mx Mo Mk Ml Mb Mh Mc Mz Mr Mq Mst u_3.1.2 Msz Mtk Mfr Men Mva Mfk Mfp Mfs Mse Mlt Mdp Mct Mdr Mrs Mit Mmk Mtp Mbt u_3.2.2.1 x2 ⟨by omega, by omega⟩) ci_X12_four qm_X12_109 ⟨Nat.le_of_ble_eq_true rfl, Nat.le_of_ble_eq_true rfl⟩ ⟨Nat.le_of_ble_eq_true rfl, Nat.le_of_ble_eq_true rfl⟩ [0, 1] [] rfl rfl rfl rfl rfl (dj rfl) 0 rfl rfl rfl hl.1 rfl (Nat.le_of_ble_eq_true rfl) dX12_feed_22 (fun u_6 H locs hφ hP hD hS => ?_)
    obtain ⟨p_7, p_8⟩ : (u_6.1.2 = u_3.1.2 + 4) ∧ (xRw u_6.2.2.1 (pF (gz u_3.2.2.1) u_3.1.2 (u_3.1.2 + 4) x2) 900) := hφ
    refine W.eq (g2 := F0 m 25 ls []) rfl ?_
    refine lv_aload_n hx hb dX12_feed_25 rfl (lv_at hl 0 rfl) ?_
    refine lv_iload_n hx hb dX12_feed_26 rfl (lv_at hl 3 rfl) ?_
    refine CWV (As := [.int (iZ x3)]) (rest := []) (wc := _) (wr := []) hx hb hml hown hts hKK hP hD hS hA (y_four l D k hm Ma Mn Ms My Mt Mp Mx Mo Mk Ml Mb Mh Mc Mz Mr Mq Mst u_6.1.2 Msz Mtk Mfr Men Mva Mfk Mfp Mfs Mse Mlt Mdp Mct Mdr Mrs Mit Mmk Mtp Mbt u_6.2.2.1 x3 ⟨by omega, by omega⟩) ci_X12_four qm_X12_109 ⟨Nat.le_of_ble_eq_true rfl, Nat.le_of_ble_eq_true rfl⟩ ⟨Nat.le_of_ble_eq_true rfl, Nat.le_of_ble_eq_true rfl⟩ [0, 1] [] rfl rfl rfl rfl rfl (dj rfl) 0 rfl rfl rfl hl.1 rfl (Nat.le_of_ble_eq_true rfl) dX12_feed_27 (fun u_9 H locs hφ hP hD hS => ?_)
    obtain ⟨p_10, p_11⟩ : (u_9.1.2 = u_6.1.2 + 4) ∧ (xRw u_9.2.2.1 (pF (gz u_6.2.2.1) u_6.1.2 (u_6.1.2 + 4) x3) 900) := hφ
    refine W.eq (g2 := F0 m 30 ls []) rfl ?_
    refine lv_aload_n hx hb dX12_feed_30 rfl (lv_at hl 0 rfl) ?_
    refine lv_iload hx hb dX12_feed_31 (lv_at hl 4 rfl) ?_
    refine CWV (As := [.int (iZ x4)]) (rest := []) (wc := _) (wr := []) hx hb hml hown hts hKK hP hD hS hA (y_four l D k hm Ma Mn Ms My Mt Mp Mx Mo Mk Ml Mb Mh Mc Mz Mr Mq Mst u_9.1.2 Msz Mtk Mfr Men Mva Mfk Mfp Mfs Mse Mlt Mdp Mct Mdr Mrs Mit Mmk Mtp Mbt u_9.2.2.1 x4 ⟨by omega, by omega⟩) ci_X12_four qm_X12_109 ⟨Nat.le_of_ble_eq_true rfl, Nat.le_of_ble_eq_true rfl⟩ ⟨Nat.le_of_ble_eq_true rfl, Nat.le_of_ble_eq_true rfl⟩ [0, 1] [] rfl rfl rfl rfl rfl (dj rfl) 0 rfl rfl rfl hl.1 rfl (Nat.le_of_ble_eq_true rfl) dX12_feed_33 (fun u_12 H locs hφ hP hD hS => ?_)
    obtain ⟨p_13, p_14⟩ : (u_12.1.2 = u_9.1.2 + 4) ∧ (xRw u_12.2.2.1 (pF (gz u_9.2.2.1) u_9.1.2 (u_9.1.2 + 4) x4) 900) := hφ
    refine W.eq (g2 := F0 m 36 ls []) rfl ?_
    refine lv_aload_n hx hb dX12_feed_36 rfl (lv_at hl 0 rfl) ?_
    refine lv_iload hx hb dX12_feed_37 (lv_at hl 5 rfl) ?_
    refine CWV (As := [.int (iZ x5)]) (rest := []) (wc := _) (wr := []) hx hb hml hown hts hKK hP hD hS hA (y_four l D k hm Ma Mn Ms My Mt Mp Mx Mo Mk Ml Mb Mh Mc Mz Mr Mq Mst u_12.1.2 Msz Mtk Mfr Men Mva Mfk Mfp Mfs Mse Mlt Mdp Mct Mdr Mrs Mit Mmk Mtp Mbt u_12.2.2.1 x5 ⟨by omega, by omega⟩) ci_X12_four qm_X12_109 ⟨Nat.le_of_ble_eq_true rfl, Nat.le_of_ble_eq_true rfl⟩ ⟨Nat.le_of_ble_eq_true rfl, Nat.le_of_ble_eq_true rfl⟩ [0, 1] [] rfl rfl rfl rfl rfl (dj rfl) 0 rfl rfl rfl hl.1 rfl (Nat.le_of_ble_eq_true rfl) dX12_feed_39 (fun u_15 H locs hφ hP hD hS => ?_)
    obtain ⟨p_16, p_17⟩ : (u_15.1.2 = u_12.1.2 + 4) ∧ (xRw u_15.2.2.1 (pF (gz u_12.2.2.1) u_12.1.2 (u_12.1.2 + 4) x5) 900) := hφ
    refine W.eq (g2 := F0 m 42 ls []) rfl ?_
    refine lv_aload_n hx hb dX12_feed_42 rfl (lv_at hl 0 rfl) ?_
    refine va_get (D := D) (ci := 12) (v := .int (iZ u_15.1.2)) (C := RX12) (T := TX12) (N := 36) hx hb hts iX12 hown hK hP 0 rfl rfl 10 (bl rfl) (hts _ qf_X12_106) (fun _ h => h) rfl dX12_feed_43 ?_
    have f0 := p_5
    have f1 := xRw.pf p_8 f0
    have f2 := xRw.pf p_11 f1
    have f3 := xRw.pf p_14 f2
    have f4 := xRw.pf p_17 f3
    exact EWi hx hb hr hlocks hS ((u_15.1.2, u_15.1.2), 0, u_15.2.2.1, ()) rfl (show (Mtd > 880 ∧ u_15.1.2 = -1 ∧ u_15.1.2 = Mtd ∧ u_15.2.2.1 = Pf) ∨ (Mtd ≤ 880 ∧ u_15.1.2 = Mtd + 20 ∧ u_15.1.2 = Mtd + 20 ∧ xRw u_15.2.2.1 (fd5 (gz Pf) Mtd x1 x2 x3 x4 x5) 900) from (Or.inr ⟨by omega, by omega, by omega, by rw [p_13, p_10, p_7, p_4] at f4; exact f4⟩)) (hP.sub [0, 1] rfl) (hD.sub [0, 1] rfl rfl) dX12_feed_46
  ·
    have c_2 := mt (zle (x := iZ (Mtd + 20)) (y := iZ 900) rfl rfl ⟨by omega, by omega⟩ wn_900).mpr c_2
    refine lv_iconst (v := iZ (-1)) hx hb dX12_feed_13 rfl ?_
    exact EWi hx hb hr hlocks hS (((-1), Mtd), 0, Pf, ()) rfl (show (Mtd > 880 ∧ (-1) = -1 ∧ Mtd = Mtd ∧ Pf = Pf) ∨ (Mtd ≤ 880 ∧ (-1) = Mtd + 20 ∧ Mtd = Mtd + 20 ∧ xRw Pf (fd5 (gz Pf) Mtd x1 x2 x3 x4 x5) 900) from (Or.inl ⟨by omega, by omega, by omega, rfl⟩)) (hP.sub [0, 1] rfl) (hD.sub [0, 1] rfl rfl) dX12_feed_14
end

section
/-- YEARS: rows; words, first, second, third, partners -/
abbrev PR_ : Type := Int × (Int → Int) × (Int → Int) × (Int → Int) × (Int → Int) × (Int → Int)
/-- how many ends stand from a row on (of 60) -/
def enN (w : Int → Int) (k : Int) : Nat → Int
  | 0 => 0
  | m + 1 => enN w k m + (if k ≤ (m : Int) ∧ w (m : Int) = 23 then 1 else 0)
theorem enN_0 (w : Int → Int) (k : Int) (m : Nat) : 0 ≤ enN w k m := by
  induction m with
  | zero => exact Int.le_refl _
  | succ m ih => show 0 ≤ enN w k m + (if k ≤ (m : Int) ∧ w (m : Int) = 23 then 1 else 0); split <;> omega
theorem enN_le (w : Int → Int) {k j : Int} (h : j ≤ k) (m : Nat) : enN w k m ≤ enN w j m := by
  induction m with
  | zero => exact Int.le_refl _
  | succ m ih =>
    show enN w k m + (if k ≤ (m : Int) ∧ w (m : Int) = 23 then 1 else 0) ≤ enN w j m + (if j ≤ (m : Int) ∧ w (m : Int) = 23 then 1 else 0)
    split <;> split <;> omega
theorem enN_s (w : Int → Int) {k : Int} (m : Nat) (hk : 0 ≤ k ∧ k < m) (h : w k = 23) : enN w k m = enN w (k + 1) m + 1 := by
  induction m with
  | zero => omega
  | succ m ih =>
    show enN w k m + (if k ≤ (m : Int) ∧ w (m : Int) = 23 then 1 else 0) = enN w (k + 1) m + (if k + 1 ≤ (m : Int) ∧ w (m : Int) = 23 then 1 else 0) + 1
    by_cases c : k = (m : Int)
    · have e1 : ∀ j : Nat, (j : Int) ≤ k → enN w k j = 0 ∧ enN w (k + 1) j = 0 := by
        intro j
        induction j with
        | zero => exact fun _ => ⟨rfl, rfl⟩
        | succ j jh =>
          intro hj
          have := jh (by omega)
          show enN w k j + (if k ≤ (j : Int) ∧ w (j : Int) = 23 then 1 else 0) = 0 ∧ enN w (k + 1) j + (if k + 1 ≤ (j : Int) ∧ w (j : Int) = 23 then 1 else 0) = 0
          rw [if_neg (by omega), if_neg (by omega)]
          omega
      have e2 := e1 m (by omega)
      rw [if_pos ⟨by omega, by rw [← c]; exact h⟩, if_neg (by omega)]
      omega
    · have e2 := ih (by omega)
      split <;> split <;> omega
/-- YEARS that can be: few ends, loops of 99 at most -/
def okP (P : PR_) : Prop := (0 ≤ P.1 ∧ P.1 ≤ 60) ∧ enN P.2.1 0 60 ≤ 30 ∧ (∀ k : Int, 0 ≤ k → k < P.1 → (P.2.1 k = 22 → 1 ≤ P.2.2.1 k ∧ P.2.2.1 k ≤ 99) ∧ (P.2.1 k = 19 ∨ P.2.1 k = 23 → 0 ≤ P.2.2.2.2.2 k ∧ P.2.2.2.2.2 k < P.1) ∧ (P.2.1 k = 15 → 1 ≤ P.2.2.1 k ∧ P.2.2.1 k ≤ 99))
/-- what compares -/
noncomputable def xTc (T : Int → Int) (p : Int) : (Int × Int) ⊕ (Int × Int) := if xKd T p = 3 ∧ ¬ xVl T p = 59 then .inr (xEn T p, xVl T p) else .inl (xEr T p 2)
/-- a test, from its word on: cursor, kind, second, third -/
noncomputable def xTe (T : Int → Int) (N : Int → Int) (n p : Int) : (Int × Int) ⊕ (Int × Int × Int × Int) :=
  if xKw T p = 15 then xBn (xTc T (xEn T p)) fun a => xBn (xTn T 0 400 a.1) fun b => .inr (b.1, 15, a.2, b.2)
  else if xKw T p = 7 then xBn (xTr T N n (-1) (xEn T p)) fun a => .inr (a.1, 7, a.2, -1)
  else if xKw T p = 20 then xBn (xTr T N n (-1) (xEn T p)) fun a => xBn (xTw T 21 a.1) fun q => xBn (xTr T N n (-1) q) fun b => .inr (b.1, 20, a.2, b.2)
  else .inl (xEr T p 2)
/-- what stands between a step's word w and its ; -/
noncomputable def xRe (T : Int → Int) (N : Int → Int) (n w p : Int) : (Int × Int) ⊕ (Int × Int × Int × Int) :=
  if w = 15 ∨ w = 22 then xBn (xTn T 1 99 p) fun a => .inr (a.1, a.2, -1, -1)
  else if w = 18 then xBn (xTn T 0 16 p) fun a => .inr (a.1, a.2, -1, -1)
  else if w = 17 then xBn (xTr T N n (-1) p) fun a => .inr (a.1, a.2, -1, -1)
  else if w = 16 then xBn (xTr T N n (-1) p) fun a => xBn (xTn T 0 1 a.1) fun b => .inr (b.1, a.2, b.2, -1)
  else if w = 19 then xTe T N n p
  else .inr (p, -1, -1, -1)
/-- YEARS under way: rows, steps, depth, words, first, second, third, partners, open rows -/
abbrev YS_ : Type := Int × Int × Int × (Int → Int) × (Int → Int) × (Int → Int) × (Int → Int) × (Int → Int) × (Int → Int)
abbrev yOp (w : Int) : Prop := w = 19 ∨ w = 22
abbrev yIs (w : Int) : Prop := w = 15 ∨ w = 16 ∨ w = 17 ∨ w = 18 ∨ w = 19 ∨ w = 22 ∨ w = 24
/-- an end -/
noncomputable def xEd (T : Int → Int) (p : Int) (s : YS_) : (Int × Int) ⊕ (Int × YS_) := match s with
  | (r, st, d, W, A, B, C, P, O) => if d = 0 then .inl (xEr T p 2) else xBn (xTs T 59 (xEn T p)) fun q => .inr (q, (r + 1, st, d - 1, xUp W r 23, A, B, C, xUp (xUp P r (O (d - 1))) (O (d - 1)) r, O))
/-- a step -/
noncomputable def xSt (T : Int → Int) (N : Int → Int) (n p : Int) (s : YS_) : (Int × Int) ⊕ (Int × YS_) := match s with
  | (r, st, d, W, A, B, C, P, O) =>
    if ¬ yIs (xKw T p) then .inl (xEr T p 2)
    else if 30 ≤ st then .inl (xEr T p 6)
    else if yOp (xKw T p) ∧ 3 ≤ d then .inl (xEr T p 7)
    else xBn (xRe T N n (xKw T p) (xEn T p)) fun a => xBn (xTs T 59 a.1) fun q =>
      .inr (q, (r + 1, st + 1, (if yOp (xKw T p) then d + 1 else d), xUp W r (xKw T p), xUp A r a.2.1, xUp B r a.2.2.1, xUp C r a.2.2.2, P, (if yOp (xKw T p) then xUp O d r else O)))
noncomputable def xYp (T : Int → Int) (N : Int → Int) (n p : Int) (s : YS_) : (Int × Int) ⊕ (Int × YS_) := if xKw T p = 23 then xEd T p s else xSt T N n p s
noncomputable def xYa (T : Int → Int) (N : Int → Int) (n : Int) : Nat → Int → YS_ → (Int × Int) ⊕ (Int × YS_)
  | 0, _, _ => .inl (0, 0)
  | k + 1, p, s => if xKd T p = 0 then .inr (p, s) else xBn (xYp T N n p s) fun a => xYa T N n k a.1 a.2
def yS0 : YS_ := (0, 0, 0, fun _ => -1, fun _ => -1, fun _ => -1, fun _ => -1, fun _ => -1, fun _ => -1)
/-- YEARS: a fault, or what was read -/
noncomputable def xYrs (T : Int → Int) (N : Int → Int) (n : Int) : (Int × Int) ⊕ YS_ := xBn (xYa T N n 1000 0 yS0) fun a => if 0 < a.2.2.2.1 then .inl (xEr T a.1 2) else .inr a.2
theorem xYa_part {T N : Int → Int} {n i p q : Int} {s t : YS_} {r : (Int × Int) ⊕ (Int × YS_)} (hi : 0 ≤ i ∧ i < 990) (h : r = xYa T N n (1000 - i).toNat p s) (hk : ¬ xKd T p = 0) (hp : xYp T N n p s = .inr (q, t)) : r = xYa T N n (1000 - (i + 1)).toNat q t := by
  rw [h, show (1000 - i).toNat = (1000 - (i + 1)).toNat + 1 by omega]
  show (if xKd T p = 0 then _ else _) = _
  rw [if_neg hk]
  exact xBn_r hp
theorem xYa_fault {T N : Int → Int} {n i p : Int} {s : YS_} {e : Int × Int} {r : (Int × Int) ⊕ (Int × YS_)} (hi : 0 ≤ i ∧ i < 990) (h : r = xYa T N n (1000 - i).toNat p s) (hk : ¬ xKd T p = 0) (hp : xYp T N n p s = .inl e) : r = .inl e := by
  rw [h, show (1000 - i).toNat = (1000 - (i + 1)).toNat + 1 by omega]
  show (if xKd T p = 0 then _ else _) = _
  rw [if_neg hk]
  exact xBn_l hp
theorem xYa_end {T N : Int → Int} {n i p : Int} {s : YS_} {r : (Int × Int) ⊕ (Int × YS_)} (hi : 0 ≤ i ∧ i < 990) (h : r = xYa T N n (1000 - i).toNat p s) (hk : xKd T p = 0) : r = .inr (p, s) := by
  rw [h, show (1000 - i).toNat = (1000 - (i + 1)).toNat + 1 by omega]
  show (if xKd T p = 0 then _ else _) = _
  rw [if_pos hk]
/-- a class's row holds what was read, where something was -/
def yRw (f : Nat → Int32) (F : Int → Int) (n : Int) : Prop := ∀ e : Int, 0 ≤ e → e < n → ¬ F e = -1 → gz f e = F e
theorem yRw_0 {f : Nat → Int32} {F : Int → Int} : yRw f F 0 := fun e a b => absurd a (by omega)
theorem yRw_m {f : Nat → Int32} {F : Int → Int} {n : Int} (h : yRw f F n) : yRw f (xUp F n (-1)) (n + 1) := fun e a b c => by
  unfold xUp at c ⊢
  by_cases q : e = n
  · rw [if_pos q] at c; exact absurd rfl c
  · rw [if_neg q] at c ⊢; exact h e a (by omega) c
theorem yRw_u {f g : Nat → Int32} {F : Int → Int} {n v : Int} (h : yRw f F n) (hg : g = upd f (iZ n).toNatClampNeg (iZ v)) (hn : 0 ≤ n ∧ n < 2147483648) (hv : -2147483648 ≤ v ∧ v < 2147483648) : yRw g (xUp F n v) (n + 1) := fun e a b c => by
  rw [gz_up hg hn hv a]
  unfold xUp at c ⊢
  by_cases q : e = n
  · rw [if_pos q, if_pos q]
  · rw [if_neg q] at c; rw [if_neg q, if_neg q]; exact h e a (by omega) c
/-- the same row, grown, where the place has not been read into -/
theorem yRw_g {f : Nat → Int32} {F : Int → Int} {n : Int} (h : yRw f F n) (hF : F n = -1) : yRw f F (n + 1) := fun e a b c => by
  by_cases q : e = n
  · rw [q] at c; exact absurd hF c
  · exact h e a (by omega) c
theorem yRw_c {f f' : Nat → Int32} {F : Int → Int} {n : Int} (h : yRw f F n) (hc : CPY f' f n) : yRw f' F n := fun e a b c => (hc e a b).trans (h e a b c)
theorem yRw_s {f g : Nat → Int32} {F : Int → Int} {n o v : Int} (h : yRw f F n) (hg : g = upd f (iZ o).toNatClampNeg (iZ v)) (ho : 0 ≤ o ∧ o < 2147483648) (hv : -2147483648 ≤ v ∧ v < 2147483648) : yRw g (xUp F o v) n := fun e a b c => by
  rw [gz_up hg ho hv a]
  unfold xUp at c ⊢
  by_cases q : e = o
  · rw [if_pos q, if_pos q]
  · rw [if_neg q] at c; rw [if_neg q, if_neg q]; exact h e a b c
theorem xBn_i {α β : Type} {r : (Int × Int) ⊕ α} {f : α → (Int × Int) ⊕ β} {b : β} (h : xBn r f = .inr b) : ∃ a : α, r = .inr a ∧ f a = .inr b := by
  cases r with
  | inl e => cases h
  | inr a => exact ⟨a, rfl, h⟩
/-- what the cells of a row came to hold -/
def YF (f' f : Nat → Int32) (r v : Int) : Prop := (v = -1 ∧ f' = f) ∨ ∃ w : Int, w = v ∧ f' = upd f (iZ r).toNatClampNeg (iZ w)
theorem yRw_f {f g : Nat → Int32} {F : Int → Int} {n v : Int} (h : yRw f F n) (hg : YF g f n v) (hn : 0 ≤ n ∧ n < 2147483648) (hv : -2147483648 ≤ v ∧ v < 2147483648) : yRw g (xUp F n v) (n + 1) := by
  rcases hg with ⟨rfl, rfl⟩ | ⟨w, rfl, hg⟩
  · exact yRw_m h
  · exact yRw_u h hg hn hv
section YCH
variable {T N : Int → Int} {n p q q1 q2 q3 a b c fk fp : Int} {e : Int × Int}
theorem xTe_15 (k : xKw T p = 15) (s1 : xTc T (xEn T p) = .inr (q1, b)) (s2 : xTn T 0 400 q1 = .inr (q2, c)) : xTe T N n p = .inr (q2, 15, b, c) := by
  unfold xTe
  rw [if_pos k, xBn_r s1]
  exact xBn_r s2
theorem xTe_15a (k : xKw T p = 15) (s1 : xTc T (xEn T p) = .inl e) : xTe T N n p = .inl e := by
  unfold xTe
  rw [if_pos k]
  exact xBn_l s1
theorem xTe_15b (k : xKw T p = 15) (s1 : xTc T (xEn T p) = .inr (q1, b)) (s2 : xTn T 0 400 q1 = .inl e) : xTe T N n p = .inl e := by
  unfold xTe
  rw [if_pos k, xBn_r s1]
  exact xBn_l s2
theorem xTe_7 (k : xKw T p = 7) (s1 : xTr T N n (-1) (xEn T p) = .inr (q1, b)) : xTe T N n p = .inr (q1, 7, b, -1) := by
  unfold xTe
  rw [if_neg (by omega), if_pos k]
  exact xBn_r s1
theorem xTe_7a (k : xKw T p = 7) (s1 : xTr T N n (-1) (xEn T p) = .inl e) : xTe T N n p = .inl e := by
  unfold xTe
  rw [if_neg (by omega), if_pos k]
  exact xBn_l s1
theorem xTe_20 (k : xKw T p = 20) (s1 : xTr T N n (-1) (xEn T p) = .inr (q1, b)) (s2 : xTw T 21 q1 = .inr q2) (s3 : xTr T N n (-1) q2 = .inr (q3, c)) : xTe T N n p = .inr (q3, 20, b, c) := by
  unfold xTe
  rw [if_neg (by omega), if_neg (by omega), if_pos k, xBn_r s1]
  exact (xBn_r s2).trans (xBn_r s3)
theorem xTe_20a (k : xKw T p = 20) (s1 : xTr T N n (-1) (xEn T p) = .inl e) : xTe T N n p = .inl e := by
  unfold xTe
  rw [if_neg (by omega), if_neg (by omega), if_pos k]
  exact xBn_l s1
theorem xTe_20b (k : xKw T p = 20) (s1 : xTr T N n (-1) (xEn T p) = .inr (q1, b)) (s2 : xTw T 21 q1 = .inl e) : xTe T N n p = .inl e := by
  unfold xTe
  rw [if_neg (by omega), if_neg (by omega), if_pos k, xBn_r s1]
  exact xBn_l s2
theorem xTe_20c (k : xKw T p = 20) (s1 : xTr T N n (-1) (xEn T p) = .inr (q1, b)) (s2 : xTw T 21 q1 = .inr q2) (s3 : xTr T N n (-1) q2 = .inl e) : xTe T N n p = .inl e := by
  unfold xTe
  rw [if_neg (by omega), if_neg (by omega), if_pos k, xBn_r s1]
  exact (xBn_r s2).trans (xBn_l s3)
theorem xTe_x (k : ¬ xKw T p = 15 ∧ ¬ xKw T p = 7 ∧ ¬ xKw T p = 20) (h : fk = xFl T p 2 ∧ fp = xPl T p) : xTe T N n p = .inl (fk, fp) := by
  unfold xTe xEr
  rw [if_neg k.1, if_neg k.2.1, if_neg k.2.2, h.1, h.2]
theorem xRe_n {w : Int} (k : w = 15 ∨ w = 22) (s : xTn T 1 99 p = .inr (q, a)) : xRe T N n w p = .inr (q, a, -1, -1) := by
  unfold xRe
  rw [if_pos k]
  exact xBn_r s
theorem xRe_nl {w : Int} (k : w = 15 ∨ w = 22) (s : xTn T 1 99 p = .inl e) : xRe T N n w p = .inl e := by
  unfold xRe
  rw [if_pos k]
  exact xBn_l s
theorem xRe_c {w : Int} (k : w = 18) (s : xTn T 0 16 p = .inr (q, a)) : xRe T N n w p = .inr (q, a, -1, -1) := by
  unfold xRe
  rw [if_neg (by omega), if_pos k]
  exact xBn_r s
theorem xRe_cl {w : Int} (k : w = 18) (s : xTn T 0 16 p = .inl e) : xRe T N n w p = .inl e := by
  unfold xRe
  rw [if_neg (by omega), if_pos k]
  exact xBn_l s
theorem xRe_o {w : Int} (k : w = 17) (s : xTr T N n (-1) p = .inr (q, a)) : xRe T N n w p = .inr (q, a, -1, -1) := by
  unfold xRe
  rw [if_neg (by omega), if_neg (by omega), if_pos k]
  exact xBn_r s
theorem xRe_ol {w : Int} (k : w = 17) (s : xTr T N n (-1) p = .inl e) : xRe T N n w p = .inl e := by
  unfold xRe
  rw [if_neg (by omega), if_neg (by omega), if_pos k]
  exact xBn_l s
theorem xRe_w {w : Int} (k : w = 16) (s1 : xTr T N n (-1) p = .inr (q1, a)) (s2 : xTn T 0 1 q1 = .inr (q, b)) : xRe T N n w p = .inr (q, a, b, -1) := by
  unfold xRe
  rw [if_neg (by omega), if_neg (by omega), if_neg (by omega), if_pos k, xBn_r s1]
  exact xBn_r s2
theorem xRe_wa {w : Int} (k : w = 16) (s1 : xTr T N n (-1) p = .inl e) : xRe T N n w p = .inl e := by
  unfold xRe
  rw [if_neg (by omega), if_neg (by omega), if_neg (by omega), if_pos k]
  exact xBn_l s1
theorem xRe_wb {w : Int} (k : w = 16) (s1 : xTr T N n (-1) p = .inr (q1, a)) (s2 : xTn T 0 1 q1 = .inl e) : xRe T N n w p = .inl e := by
  unfold xRe
  rw [if_neg (by omega), if_neg (by omega), if_neg (by omega), if_pos k, xBn_r s1]
  exact xBn_l s2
theorem xRe_t {w : Int} {r : (Int × Int) ⊕ (Int × Int × Int × Int)} (k : w = 19) (s : xTe T N n p = r) : xRe T N n w p = r := by
  unfold xRe
  rw [if_neg (by omega), if_neg (by omega), if_neg (by omega), if_neg (by omega), if_pos k]
  exact s
theorem xRe_s {w : Int} (k : ¬ w = 15 ∧ ¬ w = 22 ∧ ¬ w = 18 ∧ ¬ w = 17 ∧ ¬ w = 16 ∧ ¬ w = 19) : xRe T N n w p = .inr (p, -1, -1, -1) := by
  unfold xRe
  rw [if_neg (by omega), if_neg (by omega), if_neg (by omega), if_neg (by omega), if_neg (by omega)]
variable {r st d : Int} {W A B C P O : Int → Int}
theorem xEd_ok (hd : ¬ d = 0) (s : xTs T 59 (xEn T p) = .inr q) : xEd T p (r, st, d, W, A, B, C, P, O) = .inr (q, (r + 1, st, d - 1, xUp W r 23, A, B, C, xUp (xUp P r (O (d - 1))) (O (d - 1)) r, O)) := by
  show (if d = 0 then _ else _) = _
  rw [if_neg hd]
  exact xBn_r s
theorem xEd_l (hd : ¬ d = 0) (s : xTs T 59 (xEn T p) = .inl e) : xEd T p (r, st, d, W, A, B, C, P, O) = .inl e := by
  show (if d = 0 then _ else _) = _
  rw [if_neg hd]
  exact xBn_l s
theorem xEd_2 (hd : d = 0) (h : fk = xFl T p 2 ∧ fp = xPl T p) : xEd T p (r, st, d, W, A, B, C, P, O) = .inl (fk, fp) := by
  show (if d = 0 then Sum.inl (xEr T p 2) else _) = _
  rw [if_pos hd, h.1, h.2]
  rfl
theorem xSt_2 (k : ¬ yIs (xKw T p)) (h : fk = xFl T p 2 ∧ fp = xPl T p) : xSt T N n p (r, st, d, W, A, B, C, P, O) = .inl (fk, fp) := by
  show (if ¬ yIs (xKw T p) then Sum.inl (xEr T p 2) else _) = _
  rw [if_pos k, h.1, h.2]
  rfl
theorem xSt_6 (k : yIs (xKw T p)) (k6 : 30 ≤ st) (h : fk = xFl T p 6 ∧ fp = xPl T p) : xSt T N n p (r, st, d, W, A, B, C, P, O) = .inl (fk, fp) := by
  show (if ¬ yIs (xKw T p) then _ else if 30 ≤ st then Sum.inl (xEr T p 6) else _) = _
  rw [if_neg (fun g => g k), if_pos k6, h.1, h.2]
  rfl
theorem xSt_7 (k : yIs (xKw T p)) (k6 : ¬ 30 ≤ st) (k7 : yOp (xKw T p) ∧ 3 ≤ d) (h : fk = xFl T p 7 ∧ fp = xPl T p) : xSt T N n p (r, st, d, W, A, B, C, P, O) = .inl (fk, fp) := by
  show (if ¬ yIs (xKw T p) then _ else if 30 ≤ st then _ else if yOp (xKw T p) ∧ 3 ≤ d then Sum.inl (xEr T p 7) else _) = _
  rw [if_neg (fun g => g k), if_neg k6, if_pos k7, h.1, h.2]
  rfl
theorem xSt_ok (k : yIs (xKw T p)) (k6 : ¬ 30 ≤ st) (k7 : ¬ (yOp (xKw T p) ∧ 3 ≤ d)) (s1 : xRe T N n (xKw T p) (xEn T p) = .inr (q1, a, b, c)) (s2 : xTs T 59 q1 = .inr q) : xSt T N n p (r, st, d, W, A, B, C, P, O) = .inr (q, (r + 1, st + 1, (if yOp (xKw T p) then d + 1 else d), xUp W r (xKw T p), xUp A r a, xUp B r b, xUp C r c, P, (if yOp (xKw T p) then xUp O d r else O))) := by
  show (if ¬ yIs (xKw T p) then _ else if 30 ≤ st then _ else if yOp (xKw T p) ∧ 3 ≤ d then _ else _) = _
  rw [if_neg (fun g => g k), if_neg k6, if_neg k7, xBn_r s1]
  exact xBn_r s2
theorem xSt_k (o : ¬ yOp (xKw T p)) (k : yIs (xKw T p)) (k6 : ¬ 30 ≤ st) (s1 : xRe T N n (xKw T p) (xEn T p) = .inr (q1, a, b, c)) (s2 : xTs T 59 q1 = .inr q) : xSt T N n p (r, st, d, W, A, B, C, P, O) = .inr (q, (r + 1, st + 1, d, xUp W r (xKw T p), xUp A r a, xUp B r b, xUp C r c, P, O)) := by
  rw [xSt_ok k k6 (fun g => o g.1) s1 s2, if_neg o, if_neg o]
theorem xSt_o (o : yOp (xKw T p)) (k : yIs (xKw T p)) (k6 : ¬ 30 ≤ st) (k7 : ¬ 3 ≤ d) (s1 : xRe T N n (xKw T p) (xEn T p) = .inr (q1, a, b, c)) (s2 : xTs T 59 q1 = .inr q) : xSt T N n p (r, st, d, W, A, B, C, P, O) = .inr (q, (r + 1, st + 1, d + 1, xUp W r (xKw T p), xUp A r a, xUp B r b, xUp C r c, P, xUp O d r)) := by
  rw [xSt_ok k k6 (fun g => k7 g.2) s1 s2, if_pos o, if_pos o]
theorem xSt_a (k : yIs (xKw T p)) (k6 : ¬ 30 ≤ st) (k7 : ¬ (yOp (xKw T p) ∧ 3 ≤ d)) (s1 : xRe T N n (xKw T p) (xEn T p) = .inl e) : xSt T N n p (r, st, d, W, A, B, C, P, O) = .inl e := by
  show (if ¬ yIs (xKw T p) then _ else if 30 ≤ st then _ else if yOp (xKw T p) ∧ 3 ≤ d then _ else _) = _
  rw [if_neg (fun g => g k), if_neg k6, if_neg k7]
  exact xBn_l s1
theorem xSt_b (k : yIs (xKw T p)) (k6 : ¬ 30 ≤ st) (k7 : ¬ (yOp (xKw T p) ∧ 3 ≤ d)) (s1 : xRe T N n (xKw T p) (xEn T p) = .inr (q1, a, b, c)) (s2 : xTs T 59 q1 = .inl e) : xSt T N n p (r, st, d, W, A, B, C, P, O) = .inl e := by
  show (if ¬ yIs (xKw T p) then _ else if 30 ≤ st then _ else if yOp (xKw T p) ∧ 3 ≤ d then _ else _) = _
  rw [if_neg (fun g => g k), if_neg k6, if_neg k7, xBn_r s1]
  exact xBn_l s2
end YCH
/-- the class's rows hold YEARS under way -/
def YSY (yr de : Int) (w a b c p o : Nat → Int32) (W A B C P O : Int → Int) : Prop := yRw w W yr ∧ yRw a A yr ∧ yRw b B yr ∧ yRw c C yr ∧ yRw p P yr ∧ yRw o O de
def yTst (n a b c : Int) : Prop := (a = 15 ∧ (b = 60 ∨ b = 62 ∨ b = 61) ∧ 0 ≤ c ∧ c ≤ 400) ∨ (a = 7 ∧ (0 ≤ b ∧ b < n) ∧ c = -1) ∨ (a = 20 ∧ (0 ≤ b ∧ b < n) ∧ 0 ≤ c ∧ c < n)
/-- a row's numbers can be -/
def yNum (n w a b c : Int) : Prop := (w = 15 ∨ w = 22 → 1 ≤ a ∧ a ≤ 99) ∧ (w = 18 → 0 ≤ a ∧ a ≤ 16) ∧ (w = 17 → 0 ≤ a ∧ a < n) ∧ (w = 16 → (0 ≤ a ∧ a < n) ∧ 0 ≤ b ∧ b ≤ 1) ∧ (w = 19 → yTst n a b c)
def yRow (n r d : Int) (W A B C P O : Int → Int) (k : Int) : Prop := (yIs (W k) ∨ W k = 23) ∧ yNum n (W k) (A k) (B k) (C k) ∧ (W k = 23 → 0 ≤ P k ∧ P k < r) ∧ (W k = 19 → (0 ≤ P k ∧ P k < r) ∨ ∃ i : Int, (0 ≤ i ∧ i < d) ∧ O i = k)
/-- YEARS under way can be -/
def YV_ (n : Int) (s : YS_) : Prop := match s with
  | (r, st, d, W, A, B, C, P, O) => ((0 ≤ st ∧ st ≤ 30) ∧ (0 ≤ d ∧ d ≤ 3) ∧ 0 ≤ r ∧ r - st + d ≤ st ∧ 0 ≤ r - st) ∧ enN W 0 60 = r - st ∧ (∀ k : Int, r ≤ k → W k = -1 ∧ A k = -1 ∧ B k = -1 ∧ C k = -1 ∧ P k = -1) ∧ (∀ i : Int, 0 ≤ i → i < d → 0 ≤ O i ∧ O i < r) ∧ (0 < r → ¬ W 0 = 23) ∧ ∀ k : Int, 0 ≤ k → k < r → yRow n r d W A B C P O k
theorem enN_up {W : Int → Int} {r v : Int} (hr : 0 ≤ r) (hW : ¬ W r = 23) (m : Nat) : enN (xUp W r v) 0 m = enN W 0 m + (if r < (m : Int) ∧ v = 23 then 1 else 0) := by
  induction m with
  | zero => rw [if_neg (by omega)]; rfl
  | succ m ih =>
    show enN (xUp W r v) 0 m + (if 0 ≤ (m : Int) ∧ xUp W r v (m : Int) = 23 then 1 else 0) = enN W 0 m + (if 0 ≤ (m : Int) ∧ W (m : Int) = 23 then 1 else 0) + _
    rw [ih]
    unfold xUp
    by_cases c : (m : Int) = r
    · rw [if_pos c]
      have hW : ¬ W (m : Int) = 23 := by rw [c]; exact hW
      by_cases e : v = 23
      · rw [if_neg (by omega), if_pos (by omega), if_neg (by omega), if_pos (by omega)]
      · rw [if_neg (by omega), if_neg (by omega), if_neg (by omega), if_neg (by omega)]
    · rw [if_neg c]
      by_cases e : r < (m : Int) ∧ v = 23
      · have e2 : r < ((m + 1 : Nat) : Int) ∧ v = 23 := by omega
        rw [if_pos e, if_pos e2]; omega
      · have e2 : ¬ (r < ((m + 1 : Nat) : Int) ∧ v = 23) := by omega
        rw [if_neg e, if_neg e2]; omega
theorem enN_m1 (m : Nat) : enN (fun _ => -1) 0 m = 0 := by
  induction m with
  | zero => rfl
  | succ m ih => show enN (fun _ => -1) 0 m + (if 0 ≤ (m : Int) ∧ (-1 : Int) = 23 then 1 else 0) = 0; rw [ih, if_neg (by omega)]; rfl
theorem YV_0 {n : Int} : YV_ n yS0 := ⟨⟨by omega, by omega, by omega, by omega, by omega⟩, enN_m1 60, fun k _ => ⟨rfl, rfl, rfl, rfl, rfl⟩, fun i a b => absurd a (by omega), fun h => absurd h (by omega), fun k a b => absurd a (by omega)⟩
theorem isFn_ex {N : Int → Int} {n c : Int} : ∃ z : Int, isFn N n c z := by
  have key : ∀ k : Nat, (∃ z : Int, 0 ≤ z ∧ z < (k : Int) ∧ N z = c ∧ ∀ j : Int, 0 ≤ j → j < z → ¬ N j = c) ∨ ∀ j : Int, 0 ≤ j → j < (k : Int) → ¬ N j = c := by
    intro k
    induction k with
    | zero => exact Or.inr (fun j a b => absurd a (by omega))
    | succ k ih =>
      rcases ih with ⟨z, a, b, d⟩ | h
      · exact Or.inl ⟨z, a, by omega, d⟩
      · by_cases q : N (k : Int) = c
        · exact Or.inl ⟨k, by omega, by omega, q, h⟩
        · refine Or.inr (fun j a b => ?_)
          rcases Int.lt_or_eq_of_le (show j ≤ (k : Int) by omega) with e | e
          · exact h j a e
          · rw [e]; exact q
  rcases key n.toNat with ⟨z, a, b, d, e⟩ | h
  · exact ⟨z, Or.inr ⟨a, by omega, d, e⟩⟩
  · exact ⟨-1, Or.inl ⟨rfl, fun j a b => h j a (by omega)⟩⟩
theorem xFn_in {N : Int → Int} {n c : Int} : xFn N n c = -1 ∨ (0 ≤ xFn N n c ∧ xFn N n c < n) := xFn_rg (Classical.epsilon_spec (p := isFn N n c) isFn_ex)
theorem xTn_i {T : Int → Int} {lo hi p q v : Int} (h : xTn T lo hi p = .inr (q, v)) : lo ≤ v ∧ v ≤ hi := by
  unfold xTn at h
  by_cases c : xKd T p = 2 ∧ lo ≤ xVl T p ∧ xVl T p ≤ hi
  · rw [if_pos c] at h
    cases h
    exact c.2
  · rw [if_neg c] at h
    cases h
theorem xTc_i {T : Int → Int} {p q v : Int} (h : xTc T p = .inr (q, v)) : v = 60 ∨ v = 62 ∨ v = 61 := by
  unfold xTc at h
  by_cases c : xKd T p = 3 ∧ ¬ xVl T p = 59
  · rw [if_pos c] at h
    cases h
    have k := c.1
    have c2 := c.2
    unfold xKd at k
    by_cases k1 : xCh T p = -1
    · rw [if_pos k1] at k; omega
    · rw [if_neg k1] at k
      by_cases k2 : smB (xCh T p)
      · rw [if_pos k2] at k; omega
      · rw [if_neg k2] at k
        by_cases k3 : dgB (xCh T p)
        · rw [if_pos k3] at k; split at k <;> omega
        · rw [if_neg k3] at k
          have e : xVl T p = xCh T p := by unfold xVl; rw [if_neg k3]
          by_cases k4 : sgB (xCh T p)
          · have k4 : xCh T p = 59 ∨ xCh T p = 60 ∨ xCh T p = 62 ∨ xCh T p = 61 := k4
            omega
          · rw [if_neg k4] at k; omega
  · rw [if_neg c] at h
    cases h
theorem xTr_i {T N : Int → Int} {n p q v : Int} (h : xTr T N n (-1) p = .inr (q, v)) : 0 ≤ v ∧ v < n := by
  unfold xTr at h
  by_cases c : xRk T N n p = -1
  · rw [if_pos c] at h; cases h
  · rw [if_neg c, if_neg c] at h
    cases h
    unfold xRk at c ⊢
    by_cases k : xIn T p
    · rw [if_pos k] at c ⊢
      rcases xFn_in (N := N) (n := n) (c := xNm T p) with a | a
      · exact absurd a c
      · exact a
    · rw [if_neg k] at c; exact absurd rfl c
theorem xTe_i {T N : Int → Int} {n p q a b c : Int} (h : xTe T N n p = .inr (q, a, b, c)) : yTst n a b c := by
  unfold xTe at h
  by_cases k1 : xKw T p = 15
  · rw [if_pos k1] at h
    obtain ⟨⟨x1, x2⟩, s1, h⟩ := xBn_i h
    obtain ⟨⟨y1, y2⟩, s2, h⟩ := xBn_i h
    cases h
    exact Or.inl ⟨rfl, xTc_i s1, xTn_i s2⟩
  · rw [if_neg k1] at h
    by_cases k2 : xKw T p = 7
    · rw [if_pos k2] at h
      obtain ⟨⟨x1, x2⟩, s1, h⟩ := xBn_i h
      cases h
      exact Or.inr (Or.inl ⟨rfl, xTr_i s1, rfl⟩)
    · rw [if_neg k2] at h
      by_cases k3 : xKw T p = 20
      · rw [if_pos k3] at h
        obtain ⟨⟨x1, x2⟩, s1, h⟩ := xBn_i h
        obtain ⟨y1, s2, h⟩ := xBn_i h
        obtain ⟨⟨z1, z2⟩, s3, h⟩ := xBn_i h
        cases h
        exact Or.inr (Or.inr ⟨rfl, xTr_i s1, xTr_i s3⟩)
      · rw [if_neg k3] at h; cases h
theorem xRe_i {T N : Int → Int} {n w p q a b c : Int} (h : xRe T N n w p = .inr (q, a, b, c)) : yNum n w a b c := by
  unfold xRe at h
  unfold yNum
  by_cases k1 : w = 15 ∨ w = 22
  · rw [if_pos k1] at h
    obtain ⟨⟨x1, x2⟩, s1, h⟩ := xBn_i h
    cases h
    have := xTn_i s1
    exact ⟨fun _ => this, fun e => absurd e (by omega), fun e => absurd e (by omega), fun e => absurd e (by omega), fun e => absurd e (by omega)⟩
  · rw [if_neg k1] at h
    by_cases k2 : w = 18
    · rw [if_pos k2] at h
      obtain ⟨⟨x1, x2⟩, s1, h⟩ := xBn_i h
      cases h
      have := xTn_i s1
      exact ⟨fun e => absurd e k1, fun _ => this, fun e => absurd e (by omega), fun e => absurd e (by omega), fun e => absurd e (by omega)⟩
    · rw [if_neg k2] at h
      by_cases k3 : w = 17
      · rw [if_pos k3] at h
        obtain ⟨⟨x1, x2⟩, s1, h⟩ := xBn_i h
        cases h
        have := xTr_i s1
        exact ⟨fun e => absurd e k1, fun e => absurd e k2, fun _ => this, fun e => absurd e (by omega), fun e => absurd e (by omega)⟩
      · rw [if_neg k3] at h
        by_cases k4 : w = 16
        · rw [if_pos k4] at h
          obtain ⟨⟨x1, x2⟩, s1, h⟩ := xBn_i h
          obtain ⟨⟨y1, y2⟩, s2, h⟩ := xBn_i h
          cases h
          have a1 := xTr_i s1
          have a2 := xTn_i s2
          exact ⟨fun e => absurd e k1, fun e => absurd e k2, fun e => absurd e k3, fun _ => ⟨a1, a2⟩, fun e => absurd e (by omega)⟩
        · rw [if_neg k4] at h
          by_cases k5 : w = 19
          · rw [if_pos k5] at h
            exact ⟨fun e => absurd e k1, fun e => absurd e k2, fun e => absurd e k3, fun e => absurd e k4, fun _ => xTe_i h⟩
          · exact ⟨fun e => absurd e k1, fun e => absurd e k2, fun e => absurd e k3, fun e => absurd e k4, fun e => absurd e k5⟩
theorem xRe_r {T N : Int → Int} {n w p q a b c : Int} (hn : n ≤ 6) (h : xRe T N n w p = .inr (q, a, b, c)) : (-1 ≤ a ∧ a ≤ 1000) ∧ (-1 ≤ b ∧ b ≤ 1000) ∧ (-1 ≤ c ∧ c ≤ 1000) := by
  have y := xRe_i h
  obtain ⟨y1, y2, y3, y4, y5⟩ := y
  unfold xRe at h
  by_cases k1 : w = 15 ∨ w = 22
  · rw [if_pos k1] at h
    obtain ⟨⟨x1, x2⟩, s1, h⟩ := xBn_i h
    cases h
    have := y1 k1
    omega
  · rw [if_neg k1] at h
    by_cases k2 : w = 18
    · rw [if_pos k2] at h
      obtain ⟨⟨x1, x2⟩, s1, h⟩ := xBn_i h
      cases h
      have := y2 k2
      omega
    · rw [if_neg k2] at h
      by_cases k3 : w = 17
      · rw [if_pos k3] at h
        obtain ⟨⟨x1, x2⟩, s1, h⟩ := xBn_i h
        cases h
        have := y3 k3
        omega
      · rw [if_neg k3] at h
        by_cases k4 : w = 16
        · rw [if_pos k4] at h
          obtain ⟨⟨x1, x2⟩, s1, h⟩ := xBn_i h
          obtain ⟨⟨z1, z2⟩, s2, h⟩ := xBn_i h
          cases h
          have := y4 k4
          omega
        · rw [if_neg k4] at h
          by_cases k5 : w = 19
          · rcases y5 k5 with u | u | u <;> omega
          · rw [if_neg k5] at h
            cases h
            omega
theorem YV_ed {T : Int → Int} {n p q : Int} {s t : YS_} (h : xEd T p s = .inr (q, t)) (v : YV_ n s) : YV_ n t := by
  obtain ⟨r, st, d, W, A, B, C, P, O⟩ := s
  have h : (if d = 0 then .inl (xEr T p 2) else xBn (xTs T 59 (xEn T p)) fun q => .inr (q, (r + 1, st, d - 1, xUp W r 23, A, B, C, xUp (xUp P r (O (d - 1))) (O (d - 1)) r, O)) : (Int × Int) ⊕ (Int × YS_)) = .inr (q, t) := h
  by_cases k : d = 0
  · rw [if_pos k] at h; cases h
  · rw [if_neg k] at h
    obtain ⟨x, -, h⟩ := xBn_i h
    cases h
    obtain ⟨⟨v1, v2, v3, v4, v0⟩, v5, v6, v7, v8, v9⟩ := v
    have vr := v6 r (Int.le_refl _)
    have o := v7 (d - 1) (by omega) (by omega)
    refine ⟨⟨v1, by omega, by omega, by omega, by omega⟩, ?_, fun j hj => ?_, fun i a b => ?_, fun _ => ?_, fun j a b => ?_⟩
    · rw [enN_up v3 (by rw [vr.1]; omega), v5, if_pos (by omega)]; omega
    · have e := v6 j (by omega)
      unfold xUp
      rw [if_neg (by omega), if_neg (by omega), if_neg (by omega)]
      exact e
    · have := v7 i a (by omega); omega
    · unfold xUp
      by_cases z : (0 : Int) = r
      · omega
      · rw [if_neg z]; exact v8 (by omega)
    · unfold yRow
      by_cases z : j = r
      · have e1 : xUp W r 23 j = 23 := by unfold xUp; rw [if_pos z]
        have e2 : xUp (xUp P r (O (d - 1))) (O (d - 1)) r j = O (d - 1) := by unfold xUp; rw [if_neg (by omega), if_pos z]
        rw [e1, e2]
        exact ⟨Or.inr rfl, ⟨fun e => absurd e (by omega), fun e => absurd e (by omega), fun e => absurd e (by omega), fun e => absurd e (by omega), fun e => absurd e (by omega)⟩, fun _ => by omega, fun e => absurd e (by omega)⟩
      · have w := v9 j a (by omega)
        have e1 : xUp W r 23 j = W j := by unfold xUp; rw [if_neg z]
        rw [e1]
        obtain ⟨w1, w2, w3, w4⟩ := w
        by_cases y : j = O (d - 1)
        · have e2 : xUp (xUp P r (O (d - 1))) (O (d - 1)) r j = r := by unfold xUp; rw [if_pos y]
          rw [e2]
          exact ⟨w1, w2, fun _ => by omega, fun _ => Or.inl (by omega)⟩
        · have e2 : xUp (xUp P r (O (d - 1))) (O (d - 1)) r j = P j := by unfold xUp; rw [if_neg y, if_neg z]
          rw [e2]
          refine ⟨w1, w2, fun e => by have := w3 e; omega, fun e => ?_⟩
          rcases w4 e with g | ⟨i, g1, g2⟩
          · exact Or.inl (by omega)
          · by_cases u : i = d - 1
            · rw [u] at g2; exact absurd g2.symm y
            · exact Or.inr ⟨i, by omega, g2⟩
theorem YV_st {T N : Int → Int} {n p q : Int} {s t : YS_} (h : xSt T N n p s = .inr (q, t)) (v : YV_ n s) : YV_ n t := by
  obtain ⟨r, st, d, W, A, B, C, P, O⟩ := s
  have h : (if ¬ yIs (xKw T p) then .inl (xEr T p 2) else if 30 ≤ st then .inl (xEr T p 6) else if yOp (xKw T p) ∧ 3 ≤ d then .inl (xEr T p 7) else xBn (xRe T N n (xKw T p) (xEn T p)) fun a => xBn (xTs T 59 a.1) fun q => .inr (q, (r + 1, st + 1, (if yOp (xKw T p) then d + 1 else d), xUp W r (xKw T p), xUp A r a.2.1, xUp B r a.2.2.1, xUp C r a.2.2.2, P, (if yOp (xKw T p) then xUp O d r else O))) : (Int × Int) ⊕ (Int × YS_)) = .inr (q, t) := h
  by_cases k : yIs (xKw T p)
  · rw [if_neg (fun g => g k)] at h
    by_cases k6 : 30 ≤ st
    · rw [if_pos k6] at h; cases h
    · rw [if_neg k6] at h
      by_cases k7 : yOp (xKw T p) ∧ 3 ≤ d
      · rw [if_pos k7] at h; cases h
      · rw [if_neg k7] at h
        obtain ⟨⟨x1, a, b, c⟩, s1, h⟩ := xBn_i h
        obtain ⟨y1, -, h⟩ := xBn_i h
        cases h
        have hn := xRe_i s1
        obtain ⟨⟨v1, v2, v3, v4, v0⟩, v5, v6, v7, v8, v9⟩ := v
        have vr := v6 r (Int.le_refl _)
        have kk : xKw T p = 15 ∨ xKw T p = 16 ∨ xKw T p = 17 ∨ xKw T p = 18 ∨ xKw T p = 19 ∨ xKw T p = 22 ∨ xKw T p = 24 := k
        have hd : (yOp (xKw T p) ∧ (if yOp (xKw T p) then d + 1 else d) = d + 1 ∧ d < 3) ∨ (¬ yOp (xKw T p) ∧ (if yOp (xKw T p) then d + 1 else d) = d) := by
          by_cases o : yOp (xKw T p)
          · exact Or.inl ⟨o, if_pos o, by have : ¬ 3 ≤ d := fun z => k7 ⟨o, z⟩; omega⟩
          · exact Or.inr ⟨o, if_neg o⟩
        refine ⟨⟨by omega, by omega, by omega, by omega, by omega⟩, ?_, fun j hj => ?_, fun i g1 g2 => ?_, fun _ => ?_, fun j g1 g2 => ?_⟩
        · rw [enN_up v3 (by rw [vr.1]; omega), v5, if_neg (by omega)]; omega
        · have e := v6 j (by omega)
          unfold xUp
          rw [if_neg (by omega), if_neg (by omega), if_neg (by omega), if_neg (by omega)]
          exact e
        · rcases hd with ⟨o, e, _⟩ | ⟨o, e⟩
          · rw [if_pos o]
            rw [e] at g2
            unfold xUp
            by_cases z : i = d
            · rw [if_pos z]; omega
            · rw [if_neg z]; have := v7 i g1 (by omega); omega
          · rw [if_neg o]
            rw [e] at g2
            have := v7 i g1 g2; omega
        · unfold xUp
          by_cases z : (0 : Int) = r
          · rw [if_pos z]; omega
          · rw [if_neg z]; exact v8 (by omega)
        · unfold yRow
          by_cases z : j = r
          · have e1 : xUp W r (xKw T p) j = xKw T p := by unfold xUp; rw [if_pos z]
            have e2 : xUp A r a j = a := by unfold xUp; rw [if_pos z]
            have e3 : xUp B r b j = b := by unfold xUp; rw [if_pos z]
            have e4 : xUp C r c j = c := by unfold xUp; rw [if_pos z]
            rw [e1, e2, e3, e4]
            refine ⟨Or.inl k, hn, fun e => absurd e (by omega), fun e => Or.inr ?_⟩
            have o : yOp (xKw T p) := Or.inl e
            rw [if_pos o, if_pos o]
            exact ⟨d, by omega, by unfold xUp; rw [if_pos rfl]; exact z.symm⟩
          · have e1 : xUp W r (xKw T p) j = W j := by unfold xUp; rw [if_neg z]
            have e2 : xUp A r a j = A j := by unfold xUp; rw [if_neg z]
            have e3 : xUp B r b j = B j := by unfold xUp; rw [if_neg z]
            have e4 : xUp C r c j = C j := by unfold xUp; rw [if_neg z]
            rw [e1, e2, e3, e4]
            obtain ⟨w1, w2, w3, w4⟩ := v9 j g1 (by omega)
            refine ⟨w1, w2, fun e => by have := w3 e; omega, fun e => ?_⟩
            rcases w4 e with g | ⟨i, i1, i2⟩
            · exact Or.inl (by omega)
            · right
              rcases hd with ⟨o, e5, _⟩ | ⟨o, e5⟩
              · rw [e5, if_pos o]
                exact ⟨i, by omega, by unfold xUp; rw [if_neg (by omega)]; exact i2⟩
              · rw [e5, if_neg o]
                exact ⟨i, i1, i2⟩
  · rw [if_pos k] at h; cases h
theorem YV_yp {T N : Int → Int} {n p q : Int} {s t : YS_} (h : xYp T N n p s = .inr (q, t)) (v : YV_ n s) : YV_ n t := by
  unfold xYp at h
  by_cases c : xKw T p = 23
  · rw [if_pos c] at h; exact YV_ed h v
  · rw [if_neg c] at h; exact YV_st h v
/-- YEARS that were read -/
def pOf (s : YS_) : PR_ := (s.1, s.2.2.2.1, s.2.2.2.2.1, s.2.2.2.2.2.1, s.2.2.2.2.2.2.1, s.2.2.2.2.2.2.2.1)
def okR (n : Int) (P : PR_) : Prop := okP P ∧ (0 < P.1 → ¬ P.2.1 0 = 23) ∧ ∀ k : Int, 0 ≤ k → k < P.1 → yRow n P.1 0 P.2.1 P.2.2.1 P.2.2.2.1 P.2.2.2.2.1 P.2.2.2.2.2 (fun _ => -1) k
theorem okR_of {n : Int} {s : YS_} (v : YV_ n s) (hd : s.2.2.1 = 0) : okR n (pOf s) := by
  obtain ⟨r, st, d, W, A, B, C, P, O⟩ := s
  obtain ⟨⟨v1, v2, v3, v4, v0⟩, v5, v6, v7, v8, v9⟩ := v
  have hd : d = 0 := hd
  have row : ∀ k : Int, 0 ≤ k → k < r → yRow n r 0 W A B C P (fun _ => -1) k := fun k a b => by
    obtain ⟨w1, w2, w3, w4⟩ := v9 k a b
    refine ⟨w1, w2, w3, fun e => ?_⟩
    rcases w4 e with g | ⟨i, i1, -⟩
    · exact Or.inl g
    · omega
  refine ⟨⟨⟨v3, ?_⟩, ?_, fun k a b => ?_⟩, v8, row⟩
  · show r ≤ 60; omega
  · show enN W 0 60 ≤ 30; omega
  · obtain ⟨w1, w2, w3, w4⟩ := row k a b
    refine ⟨fun e => w2.1 (Or.inr e), fun e => ?_, fun e => w2.1 (Or.inl e)⟩
    rcases e with e | e
    · rcases w4 e with g | ⟨i, i1, -⟩
      · exact g
      · omega
    · exact w3 e
end
