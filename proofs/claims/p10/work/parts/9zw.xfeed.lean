/-- the byte that is fed at a place of four -/
def byF (w i : Int) : Int := ((iZ w >>> (iZ (24 - 8 * i) &&& 31)).toInt8.toInt32).toInt
theorem byF_rg (w i : Int) : -128 ≤ byF w i ∧ byF w i ≤ 127 := by
  unfold byF
  rw [Int8.toInt_toInt32]
  have a := Int8.le_toInt ((iZ w >>> (iZ (24 - 8 * i) &&& 31)).toInt8)
  have b := Int8.toInt_lt ((iZ w >>> (iZ (24 - 8 * i) &&& 31)).toInt8)
  omega
def pF (B : Int → Int) (t0 t w : Int) : Int → Int := fun e => if t0 ≤ e ∧ e < t then byF w (e - t0) else B e
theorem pF_0 {B : Int → Int} {t w : Int} : pF B t t w = B := by
  funext e
  unfold pF
  rw [if_neg (by omega)]
theorem pt_step {b g : Nat → Int32} {B : Int → Int} {t0 t w j z zs : Int} (h : xRw b (pF B t0 t w) 900) (hg : g = upd b (iZ t).toNatClampNeg (vp_nar .byte (iZ z))) (hs : iZ zs = iZ w >>> (iZ j &&& 31)) (hz : iZ z = (iZ zs).toInt8.toInt32) (hj : j = 24 - 8 * (t - t0)) (ht : (0 ≤ t0 ∧ t0 ≤ t) ∧ t < 900) (rz : -2147483648 ≤ z ∧ z < 2147483648) : xRw g (pF B t0 (t + 1) w) 900 := by
  have e : z = byF w (t - t0) := by
    unfold byF
    rw [← hj, ← hs, ← hz, iZ_ti rz]
  have r := byF_rg w (t - t0)
  rw [nar_b (by omega)] at hg
  intro i h1 h2
  rw [gz_up hg ⟨by omega, by omega⟩ rz h1]
  have k := h i h1 h2
  unfold pF at k ⊢
  by_cases q : i = t
  · rw [if_pos q, if_pos (by omega), q, e]
  · rw [if_neg q, k]
    by_cases q2 : t0 ≤ i ∧ i < t
    · rw [if_pos q2, if_pos (by omega)]
    · rw [if_neg q2, if_neg (by omega)]
def fd5 (B : Int → Int) (t a b c d e : Int) : Int → Int := pF (pF (pF (pF (pF B t (t + 4) a) (t + 4) (t + 4 + 4) b) (t + 4 + 4) (t + 4 + 4 + 4) c) (t + 4 + 4 + 4) (t + 4 + 4 + 4 + 4) d) (t + 4 + 4 + 4 + 4) (t + 4 + 4 + 4 + 4 + 4) e
theorem pF_like {B C : Int → Int} {t0 t w n : Int} (h : ∀ e : Int, 0 ≤ e → e < n → B e = C e) : ∀ e : Int, 0 ≤ e → e < n → pF B t0 t w e = pF C t0 t w e := fun e h1 h2 => by
  unfold pF
  rw [h e h1 h2]
theorem fd5_like {B C : Int → Int} {t a b c d e n : Int} (h : ∀ e : Int, 0 ≤ e → e < n → B e = C e) : ∀ i : Int, 0 ≤ i → i < n → fd5 B t a b c d e i = fd5 C t a b c d e i := pF_like (pF_like (pF_like (pF_like (pF_like h))))
theorem fd5_rg {B : Int → Int} {t a b c d e n : Int} (h : ∀ i : Int, 0 ≤ i → i < n → -128 ≤ B i ∧ B i ≤ 127) : ∀ i : Int, 0 ≤ i → i < n → -128 ≤ fd5 B t a b c d e i ∧ fd5 B t a b c d e i ≤ 127 := by
  have q : ∀ (D : Int → Int) (t0 t1 w : Int), (∀ i : Int, 0 ≤ i → i < n → -128 ≤ D i ∧ D i ≤ 127) → ∀ i : Int, 0 ≤ i → i < n → -128 ≤ pF D t0 t1 w i ∧ pF D t0 t1 w i ≤ 127 := fun D t0 t1 w g i h1 h2 => by
    unfold pF
    split
    · exact byF_rg _ _
    · exact g i h1 h2
  exact q _ _ _ _ (q _ _ _ _ (q _ _ _ _ (q _ _ _ _ (q _ _ _ _ h))))
theorem xRw.pf {b2 b1 : Nat → Int32} {B : Int → Int} {t0 t w : Int} (h2 : xRw b2 (pF (gz b1) t0 t w) 900) (h1 : xRw b1 B 900) : xRw b2 (pF B t0 t w) 900 := fun e a b => (h2 e a b).trans (pF_like (n := 900) (fun i c d => h1 i c d) e a b)
set_option maxHeartbeats 4000000 in
set_option maxRecDepth 100000 in
theorem x_putOnTape (l : Launch) (D : va_G) (k : Nat → ClassId) (hr1 : Nat) (tx : Nat) (kw : Nat) (tp : Int) (ln : Int) (pl : Int) (en : Int) (ki : Int) (va : Int) (ke : Int) (fk : Int) (fp : Int) (nm : Int64) (bf : Nat → Int32) (x : Int) (ht : 0 ≤ tp ∧ tp ≤ 896) : WD (σ := ((Nat → Int) × (Nat → Int64) × (Nat → Nat → Int32) × (Nat → Nat → Int64))) l yX4_putOnTape cX4_putOnTape 3 none 0 0 0 D k [.ref hr1, .int (iZ x)] [(hr1, .inr (4, [.ref tx, .ref kw, .int (iZ tp), .int (iZ ln), .int (iZ pl), .int (iZ en), .int (iZ ki), .int (iZ va), .int (iZ ke), .long nm, .int (iZ fk), .int (iZ fp)])), (tx, .inl (k 0, 900, .inl bf))] (fun _ => none) (fun u => ((u.1 1) = tp + 4) ∧ (xRw (u.2.2.1 0) (pF (gz bf) tp (tp + 4) x) 900)) (fun u => [(hr1, .inr (4, [.ref tx, .ref kw, .int (iZ (u.1 1)), .int (iZ ln), .int (iZ pl), .int (iZ en), .int (iZ ki), .int (iZ va), .int (iZ ke), .long nm, .int (iZ fk), .int (iZ fp)])), (tx, .inl (k 0, 900, .inl (u.2.2.1 0)))]) := by
  refine MW (by decide) (Nat.le_of_ble_eq_true rfl) (fun p e s m below meth c ls A hx hb hml hr hlocks hin hts hown hKK hP hD hS hA hl => ?_)
  have hK := hKK.1
  have hl : lv_has ls 3 [(0, .ref hr1), (1, .int (iZ x))] := hl
  refine lv_bipush (v := iZ 24) hx hb dX4_putOnTape_0 (by decide) ?_
  refine lv_istore_n (lv' := [(2, .int (iZ 24)), (0, .ref hr1), (1, .int (iZ x))]) hx hb dX4_putOnTape_2 rfl hl (by decide) rfl (fun ls hl => ?_)
  have HL1 : ∀ (fu : Nat) (j : Int) (tp3 : Int) (bf3 : Nat → Int32) (H : Heap) (locs : List Loc) (ls : Array Slot), (j + 9) < (fu : Int) → (-8 ≤ j ∧ j ≤ 24) → (tp3 * 8 = tp * 8 + 24 - j) → (xRw bf3 (pF (gz bf) tp tp3 x) 900) → va_P D vwCl [(hr1, .inr (4, [.ref tx, .ref kw, .int (iZ tp3), .int (iZ ln), .int (iZ pl), .int (iZ en), .int (iZ ki), .int (iZ va), .int (iZ ke), .long nm, .int (iZ fk), .int (iZ fp)])), (tx, .inl (k 0, 900, .inl bf3))] H → va_D A [(hr1, .inr (4, [.ref tx, .ref kw, .int (iZ tp3), .int (iZ ln), .int (iZ pl), .int (iZ en), .int (iZ ki), .int (iZ va), .int (iZ ke), .long nm, .int (iZ fk), .int (iZ fp)])), (tx, .inl (k 0, 900, .inl bf3))] → va_S A s.heap H locs → lv_has ls 3 [(2, .int (iZ j)), (0, .ref hr1), (1, .int (iZ x))] → W p l e (rj 0 0 0) s m [.ref hr1, .int (iZ x)].toArray below meth c H locs 0 0 (MQ below (QW (σ := ((Nat → Int) × (Nat → Int64) × (Nat → Nat → Int32) × (Nat → Nat → Int64))) (fun _ => none) (fun u => ((u.1 1) = tp + 4) ∧ (xRw (u.2.2.1 0) (pF (gz bf) tp (tp + 4) x) 900)) (fun u => [(hr1, .inr (4, [.ref tx, .ref kw, .int (iZ (u.1 1)), .int (iZ ln), .int (iZ pl), .int (iZ en), .int (iZ ki), .int (iZ va), .int (iZ ke), .long nm, .int (iZ fk), .int (iZ fp)])), (tx, .inl (k 0, 900, .inl (u.2.2.1 0)))]) D A) [.ref hr1, .int (iZ x)].toArray s 0 0 A) (F0 m 3 ls []) := by
    intro fu
    induction fu with
    | zero => intro j tp3 bf3 H locs ls hμ1 hj ht2 hpt hP hD hS hl; exact absurd hμ1 (by omega)
    | succ fu ih1 =>
      intro j tp3 bf3 H locs ls hμ1 hj ht2 hpt hP hD hS hl
      refine lv_iload_n hx hb dX4_putOnTape_3 rfl (lv_at hl 0 rfl) ?_
      refine lv_if_lt (tgt := 36) hx hb dX4_putOnTape_4 (by decide) (fun c_1 => ?_) (fun c_1 => ?_)
      ·
        have c_1 := (zlt (x := iZ j) (y := iZ 0) rfl rfl ⟨by omega, by omega⟩ ⟨by omega, by omega⟩).mp c_1
        exact EWv hx hb hr hlocks hS (fun i => [0, tp3].getD i 0, fun i => [0].getD i 0, fun i => [bf3].getD i (fun _ => 0), fun i => [].getD i (fun _ => 0)) rfl ⟨(show tp3 = tp + 4 from (by omega)), (show xRw bf3 (pF (gz bf) tp (tp + 4) x) 900 from (by rw [show tp + 4 = tp3 from (by omega)]; exact hpt))⟩ (hP.sub [0, 1] rfl) (hD.sub [0, 1] rfl rfl) dX4_putOnTape_36
      ·
        have c_1 := mt (zlt (x := iZ j) (y := iZ 0) rfl rfl ⟨by omega, by omega⟩ ⟨by omega, by omega⟩).mpr c_1
        refine lv_aload_n hx hb dX4_putOnTape_7 rfl (lv_at hl 1 rfl) ?_
        refine va_get (D := D) (ci := 4) (v := .ref tx) (C := RX4) (T := TX4) (N := 12) hx hb hts iX4 hown hK hP 0 rfl rfl 0 (by decide) (hts _ qf_X4_9) (fun _ h => h) rfl dX4_putOnTape_8 ?_
        refine lv_aload_n hx hb dX4_putOnTape_11 rfl (lv_at hl 1 rfl) ?_
        refine va_get (D := D) (ci := 4) (v := .int (iZ tp3)) (C := RX4) (T := TX4) (N := 12) hx hb hts iX4 hown hK hP 0 rfl rfl 2 (by decide) (hts _ qf_X4_42) (fun _ h => h) rfl dX4_putOnTape_12 ?_
        refine lv_iload_n hx hb dX4_putOnTape_15 rfl (lv_at hl 2 rfl) ?_
        refine lv_iload_n hx hb dX4_putOnTape_16 rfl (lv_at hl 0 rfl) ?_
        refine lv_ishr hx hb dX4_putOnTape_17 ?_
        refine lv_topi (fun x_3 ex_3 => ?_)
        obtain ⟨z_2, hz_2, hz_2a, hz_2b⟩ := i32_z x_3
        subst hz_2
        refine lv_i2b (v := _) hx hb dX4_putOnTape_18 rfl ?_
        refine lv_topi (fun x_5 ex_5 => ?_)
        obtain ⟨z_4, hz_4, hz_4a, hz_4b⟩ := i32_z x_5
        subst hz_4
        refine va_bast hx hb hK hP hD hS 1 0 rfl rfl (zin (e := tp3) (n := 900) ⟨by omega, by omega⟩ (by decide)) dX4_putOnTape_19 (fun H locs hP hD hS => ?_)
        obtain ⟨f_6, hf_6⟩ : ∃ gg9, gg9 = upd bf3 (iZ tp3).toNatClampNeg (vp_nar .byte (iZ z_4)) := ⟨_, rfl⟩
        rw [← hf_6] at hP hD
        refine lv_aload_n hx hb dX4_putOnTape_20 rfl (lv_at hl 1 rfl) ?_
        refine lv_dup hx hb dX4_putOnTape_21 rfl ?_
        refine va_get (D := D) (ci := 4) (v := .int (iZ tp3)) (C := RX4) (T := TX4) (N := 12) hx hb hts iX4 hown hK hP 0 rfl rfl 2 (by decide) (hts _ qf_X4_42) (fun _ h => h) rfl dX4_putOnTape_22 ?_
        refine lv_iconst (v := iZ 1) hx hb dX4_putOnTape_25 (by decide) ?_
        refine lv_iadd hx hb dX4_putOnTape_26 ?_
        refine lv_topi (fun x_7 ex_7 => ?_)
        obtain rfl : x_7 = iZ (tp3 + 1) := ex_7.trans (iZ_add tp3 1)
        refine va_put (D := D) (ci := 4) (v := .int (iZ (tp3 + 1))) (ty := .int) (C := RX4) (T := TX4) (N := 12) hx hb hts iX4 tyX4 tyX4_ok nmX4 hown hK hP hD hS 0 rfl rfl 2 (by decide) (hts _ qf_X4_42) (fun _ h => h) rfl (by decide +kernel) rfl rfl (Nat.le_of_ble_eq_true rfl) dX4_putOnTape_27 (fun H locs hP hD hS => ?_)
        refine lv_iinc (v := iZ (j + (-8))) (lv' := [(2, .int (iZ (j + (-8)))), (0, .ref hr1), (1, .int (iZ x))]) hx hb dX4_putOnTape_30 hl (k := 0) rfl (iZ_add j (-8)) (by decide) rfl (fun ls hl => ?_)
        refine lv_goto (tgt := 3) hx hb dX4_putOnTape_33 (by decide) ?_
        exact ih1  (j + (-8)) (tp3 + 1) f_6 _ _ _ (by omega) (show -8 ≤ (j + (-8)) ∧ (j + (-8)) ≤ 24 from ⟨by omega, by omega⟩) (show (tp3 + 1) * 8 = tp * 8 + 24 - (j + (-8)) from (by omega)) (show xRw f_6 (pF (gz bf) tp (tp3 + 1) x) 900 from (pt_step hpt hf_6 ex_3 ex_5 (by omega) ⟨⟨by omega, by omega⟩, by omega⟩ ⟨hz_4a, hz_4b⟩)) (hP.sub [0, 1] rfl) (hD.sub [0, 1] rfl rfl) hS (lv_sub hl [0, 1, 2] rfl)
  exact HL1 34 24 tp bf _ _ _ (by omega) (show -8 ≤ 24 ∧ 24 ≤ 24 from ⟨by omega, by omega⟩) (show tp * 8 = tp * 8 + 24 - 24 from (by omega)) (show xRw bf (pF (gz bf) tp tp x) 900 from (by rw [pF_0]; exact fun _ _ _ => rfl)) (hP.sub [0, 1] rfl) (hD.sub [0, 1] rfl rfl) hS (lv_sub hl [0, 1, 2] rfl)
set_option maxHeartbeats 4000000 in
set_option maxRecDepth 100000 in
theorem y_four (l : Launch) (D : va_G) (k : Nat → ClassId) (hm : Nat) (Ma : Nat) (Mn : Nat) (Ms : Nat) (My : Nat) (Mt : Nat) (Mp : Nat) (Mx : Nat) (Mo : Nat) (Mk : Nat) (Ml : Nat) (Mb : Nat) (Mh : Nat) (Mc : Nat) (Mz : Nat) (Mr : Nat) (Mq : Nat) (Mst : Int) (Mtd : Int) (Msz : Int) (Mtk : Int) (Mfr : Int) (Men : Int) (Mva : Int) (Mfk : Int) (Mfp : Int) (Mfs : Int) (Mse : Int) (Mlt : Int) (Mdp : Int) (Mct : Int) (Mdr : Int) (Mrs : Int) (Mit : Int) (Mmk : Int) (Mtp : Int64) (Mbt : Int64) (Pf : Nat → Int32) (x : Int) (ht : 0 ≤ Mtd ∧ Mtd ≤ 896) : WD (σ := ((Nat → Int) × (Nat → Int64) × (Nat → Nat → Int32) × (Nat → Nat → Int64))) l yX12_four cX12_four 3 none 0 0 0 D k [.ref hm, .int (iZ x)] [(hm, .inr (12, [.ref Ma, .ref Mn, .int (iZ Mst), .long Mtp, .long Mbt, .ref Ms, .ref My, .ref Mt, .ref Mp, .ref Mx, .int (iZ Mtd), .int (iZ Msz), .int (iZ Mtk), .int (iZ Mfr), .int (iZ Men), .int (iZ Mva), .int (iZ Mfk), .int (iZ Mfp), .int (iZ Mfs), .int (iZ Mse), .int (iZ Mlt), .ref Mo, .int (iZ Mdp), .int (iZ Mct), .ref Mk, .ref Ml, .ref Mb, .ref Mh, .ref Mc, .int (iZ Mdr), .int (iZ Mrs), .ref Mz, .ref Mr, .ref Mq, .int (iZ Mit), .int (iZ Mmk)])), (Mp, .inl (k 0, 900, .inl Pf))] (fun _ => none) (fun u => ((u.1 1) = Mtd + 4) ∧ (xRw (u.2.2.1 0) (pF (gz Pf) Mtd (Mtd + 4) x) 900)) (fun u => [(hm, .inr (12, [.ref Ma, .ref Mn, .int (iZ Mst), .long Mtp, .long Mbt, .ref Ms, .ref My, .ref Mt, .ref Mp, .ref Mx, .int (iZ (u.1 1)), .int (iZ Msz), .int (iZ Mtk), .int (iZ Mfr), .int (iZ Men), .int (iZ Mva), .int (iZ Mfk), .int (iZ Mfp), .int (iZ Mfs), .int (iZ Mse), .int (iZ Mlt), .ref Mo, .int (iZ Mdp), .int (iZ Mct), .ref Mk, .ref Ml, .ref Mb, .ref Mh, .ref Mc, .int (iZ Mdr), .int (iZ Mrs), .ref Mz, .ref Mr, .ref Mq, .int (iZ Mit), .int (iZ Mmk)])), (Mp, .inl (k 0, 900, .inl (u.2.2.1 0)))]) := by
  refine MW (by decide) (Nat.le_of_ble_eq_true rfl) (fun p e s m below meth c ls A hx hb hml hr hlocks hin hts hown hKK hP hD hS hA hl => ?_)
  have hK := hKK.1
  have hl : lv_has ls 3 [(0, .ref hm), (1, .int (iZ x))] := hl
  refine lv_bipush (v := iZ 24) hx hb dX12_four_0 (by decide) ?_
  refine lv_istore_n (lv' := [(2, .int (iZ 24)), (0, .ref hm), (1, .int (iZ x))]) hx hb dX12_four_2 rfl hl (by decide) rfl (fun ls hl => ?_)
  have HL1 : ∀ (fu : Nat) (j : Int) (Mtd3 : Int) (Pf3 : Nat → Int32) (H : Heap) (locs : List Loc) (ls : Array Slot), (j + 9) < (fu : Int) → (-8 ≤ j ∧ j ≤ 24) → (Mtd3 * 8 = Mtd * 8 + 24 - j) → (xRw Pf3 (pF (gz Pf) Mtd Mtd3 x) 900) → va_P D vwCl [(hm, .inr (12, [.ref Ma, .ref Mn, .int (iZ Mst), .long Mtp, .long Mbt, .ref Ms, .ref My, .ref Mt, .ref Mp, .ref Mx, .int (iZ Mtd3), .int (iZ Msz), .int (iZ Mtk), .int (iZ Mfr), .int (iZ Men), .int (iZ Mva), .int (iZ Mfk), .int (iZ Mfp), .int (iZ Mfs), .int (iZ Mse), .int (iZ Mlt), .ref Mo, .int (iZ Mdp), .int (iZ Mct), .ref Mk, .ref Ml, .ref Mb, .ref Mh, .ref Mc, .int (iZ Mdr), .int (iZ Mrs), .ref Mz, .ref Mr, .ref Mq, .int (iZ Mit), .int (iZ Mmk)])), (Mp, .inl (k 0, 900, .inl Pf3))] H → va_D A [(hm, .inr (12, [.ref Ma, .ref Mn, .int (iZ Mst), .long Mtp, .long Mbt, .ref Ms, .ref My, .ref Mt, .ref Mp, .ref Mx, .int (iZ Mtd3), .int (iZ Msz), .int (iZ Mtk), .int (iZ Mfr), .int (iZ Men), .int (iZ Mva), .int (iZ Mfk), .int (iZ Mfp), .int (iZ Mfs), .int (iZ Mse), .int (iZ Mlt), .ref Mo, .int (iZ Mdp), .int (iZ Mct), .ref Mk, .ref Ml, .ref Mb, .ref Mh, .ref Mc, .int (iZ Mdr), .int (iZ Mrs), .ref Mz, .ref Mr, .ref Mq, .int (iZ Mit), .int (iZ Mmk)])), (Mp, .inl (k 0, 900, .inl Pf3))] → va_S A s.heap H locs → lv_has ls 3 [(2, .int (iZ j)), (0, .ref hm), (1, .int (iZ x))] → W p l e (rj 0 0 0) s m [.ref hm, .int (iZ x)].toArray below meth c H locs 0 0 (MQ below (QW (σ := ((Nat → Int) × (Nat → Int64) × (Nat → Nat → Int32) × (Nat → Nat → Int64))) (fun _ => none) (fun u => ((u.1 1) = Mtd + 4) ∧ (xRw (u.2.2.1 0) (pF (gz Pf) Mtd (Mtd + 4) x) 900)) (fun u => [(hm, .inr (12, [.ref Ma, .ref Mn, .int (iZ Mst), .long Mtp, .long Mbt, .ref Ms, .ref My, .ref Mt, .ref Mp, .ref Mx, .int (iZ (u.1 1)), .int (iZ Msz), .int (iZ Mtk), .int (iZ Mfr), .int (iZ Men), .int (iZ Mva), .int (iZ Mfk), .int (iZ Mfp), .int (iZ Mfs), .int (iZ Mse), .int (iZ Mlt), .ref Mo, .int (iZ Mdp), .int (iZ Mct), .ref Mk, .ref Ml, .ref Mb, .ref Mh, .ref Mc, .int (iZ Mdr), .int (iZ Mrs), .ref Mz, .ref Mr, .ref Mq, .int (iZ Mit), .int (iZ Mmk)])), (Mp, .inl (k 0, 900, .inl (u.2.2.1 0)))]) D A) [.ref hm, .int (iZ x)].toArray s 0 0 A) (F0 m 3 ls []) := by
    intro fu
    induction fu with
    | zero => intro j Mtd3 Pf3 H locs ls hμ1 hj ht2 hpt hP hD hS hl; exact absurd hμ1 (by omega)
    | succ fu ih1 =>
      intro j Mtd3 Pf3 H locs ls hμ1 hj ht2 hpt hP hD hS hl
      refine lv_iload_n hx hb dX12_four_3 rfl (lv_at hl 0 rfl) ?_
      refine lv_if_lt (tgt := 36) hx hb dX12_four_4 (by decide) (fun c_1 => ?_) (fun c_1 => ?_)
      ·
        have c_1 := (zlt (x := iZ j) (y := iZ 0) rfl rfl ⟨by omega, by omega⟩ ⟨by omega, by omega⟩).mp c_1
        exact EWv hx hb hr hlocks hS (fun i => [0, Mtd3].getD i 0, fun i => [0].getD i 0, fun i => [Pf3].getD i (fun _ => 0), fun i => [].getD i (fun _ => 0)) rfl ⟨(show Mtd3 = Mtd + 4 from (by omega)), (show xRw Pf3 (pF (gz Pf) Mtd (Mtd + 4) x) 900 from (by rw [show Mtd + 4 = Mtd3 from (by omega)]; exact hpt))⟩ (hP.sub [0, 1] rfl) (hD.sub [0, 1] rfl rfl) dX12_four_36
      ·
        have c_1 := mt (zlt (x := iZ j) (y := iZ 0) rfl rfl ⟨by omega, by omega⟩ ⟨by omega, by omega⟩).mpr c_1
        refine lv_aload_n hx hb dX12_four_7 rfl (lv_at hl 1 rfl) ?_
        refine va_get (D := D) (ci := 12) (v := .ref Mp) (C := RX12) (T := TX12) (N := 36) hx hb hts iX12 hown hK hP 0 rfl rfl 8 (by decide) (hts _ qf_X12_30) (fun _ h => h) rfl dX12_four_8 ?_
        refine lv_aload_n hx hb dX12_four_11 rfl (lv_at hl 1 rfl) ?_
        refine va_get (D := D) (ci := 12) (v := .int (iZ Mtd3)) (C := RX12) (T := TX12) (N := 36) hx hb hts iX12 hown hK hP 0 rfl rfl 10 (by decide) (hts _ qf_X12_106) (fun _ h => h) rfl dX12_four_12 ?_
        refine lv_iload_n hx hb dX12_four_15 rfl (lv_at hl 2 rfl) ?_
        refine lv_iload_n hx hb dX12_four_16 rfl (lv_at hl 0 rfl) ?_
        refine lv_ishr hx hb dX12_four_17 ?_
        refine lv_topi (fun x_3 ex_3 => ?_)
        obtain ⟨z_2, hz_2, hz_2a, hz_2b⟩ := i32_z x_3
        subst hz_2
        refine lv_i2b (v := _) hx hb dX12_four_18 rfl ?_
        refine lv_topi (fun x_5 ex_5 => ?_)
        obtain ⟨z_4, hz_4, hz_4a, hz_4b⟩ := i32_z x_5
        subst hz_4
        refine va_bast hx hb hK hP hD hS 1 0 rfl rfl (zin (e := Mtd3) (n := 900) ⟨by omega, by omega⟩ (by decide)) dX12_four_19 (fun H locs hP hD hS => ?_)
        obtain ⟨f_6, hf_6⟩ : ∃ gg9, gg9 = upd Pf3 (iZ Mtd3).toNatClampNeg (vp_nar .byte (iZ z_4)) := ⟨_, rfl⟩
        rw [← hf_6] at hP hD
        refine lv_aload_n hx hb dX12_four_20 rfl (lv_at hl 1 rfl) ?_
        refine lv_dup hx hb dX12_four_21 rfl ?_
        refine va_get (D := D) (ci := 12) (v := .int (iZ Mtd3)) (C := RX12) (T := TX12) (N := 36) hx hb hts iX12 hown hK hP 0 rfl rfl 10 (by decide) (hts _ qf_X12_106) (fun _ h => h) rfl dX12_four_22 ?_
        refine lv_iconst (v := iZ 1) hx hb dX12_four_25 (by decide) ?_
        refine lv_iadd hx hb dX12_four_26 ?_
        refine lv_topi (fun x_7 ex_7 => ?_)
        obtain rfl : x_7 = iZ (Mtd3 + 1) := ex_7.trans (iZ_add Mtd3 1)
        refine va_put (D := D) (ci := 12) (v := .int (iZ (Mtd3 + 1))) (ty := .int) (C := RX12) (T := TX12) (N := 36) hx hb hts iX12 tyX12 tyX12_ok nmX12 hown hK hP hD hS 0 rfl rfl 10 (by decide) (hts _ qf_X12_106) (fun _ h => h) rfl (by decide +kernel) rfl rfl (Nat.le_of_ble_eq_true rfl) dX12_four_27 (fun H locs hP hD hS => ?_)
        refine lv_iinc (v := iZ (j + (-8))) (lv' := [(2, .int (iZ (j + (-8)))), (0, .ref hm), (1, .int (iZ x))]) hx hb dX12_four_30 hl (k := 0) rfl (iZ_add j (-8)) (by decide) rfl (fun ls hl => ?_)
        refine lv_goto (tgt := 3) hx hb dX12_four_33 (by decide) ?_
        exact ih1  (j + (-8)) (Mtd3 + 1) f_6 _ _ _ (by omega) (show -8 ≤ (j + (-8)) ∧ (j + (-8)) ≤ 24 from ⟨by omega, by omega⟩) (show (Mtd3 + 1) * 8 = Mtd * 8 + 24 - (j + (-8)) from (by omega)) (show xRw f_6 (pF (gz Pf) Mtd (Mtd3 + 1) x) 900 from (pt_step hpt hf_6 ex_3 ex_5 (by omega) ⟨⟨by omega, by omega⟩, by omega⟩ ⟨hz_4a, hz_4b⟩)) (hP.sub [0, 1] rfl) (hD.sub [0, 1] rfl rfl) hS (lv_sub hl [0, 1, 2] rfl)
  exact HL1 34 24 Mtd Pf _ _ _ (by omega) (show -8 ≤ 24 ∧ 24 ≤ 24 from ⟨by omega, by omega⟩) (show Mtd * 8 = Mtd * 8 + 24 - 24 from (by omega)) (show xRw Pf (pF (gz Pf) Mtd Mtd x) 900 from (by rw [pF_0]; exact fun _ _ _ => rfl)) (hP.sub [0, 1] rfl) (hD.sub [0, 1] rfl rfl) hS (lv_sub hl [0, 1, 2] rfl)
set_option maxHeartbeats 4000000 in
set_option maxRecDepth 100000 in
theorem x_feed (l : Launch) (D : va_G) (k : Nat → ClassId) (hx1 : Nat) (ta : Nat) (hw1 : Nat) (hw12 : Nat) (ka : Nat) (hr1 : Nat) (hq : Nat) (hv : Nat) (h : Nat) (hn1 : Nat) (hL : Nat) (li : Nat) (ev : Int) (mk : Int) (ou : Int) (up : Int64) (lo : Int64) (tx : Nat) (kw : Nat) (tp : Int) (ln : Int) (pl : Int) (en : Int) (ki : Int) (va : Int) (ke : Int) (fk : Int) (fp : Int) (nm : Int64) (bf : Nat → Int32) (kwf : Nat → Int64) (x1 : Int) (x2 : Int) (x3 : Int) (x4 : Int) (x5 : Int) (htp : 0 ≤ tp ∧ tp ≤ 900) : WD (σ := ((Nat → Int) × (Nat → Int64) × (Nat → Nat → Int32) × (Nat → Nat → Int64))) l yX11_feed cX11_feed 6 (some .int) 1 0 0 D k [.ref hx1, .int (iZ x1), .int (iZ x2), .int (iZ x3), .int (iZ x4), .int (iZ x5)] [(hx1, .inr (11, [.ref ta, .ref hw1, .ref hw12, .ref ka, .ref hr1, .ref hq, .ref hv, .ref h, .ref hn1, .ref hL, .ref li, .int (iZ ev), .int (iZ mk), .int (iZ ou), .long up, .long lo])), (hr1, .inr (4, [.ref tx, .ref kw, .int (iZ tp), .int (iZ ln), .int (iZ pl), .int (iZ en), .int (iZ ki), .int (iZ va), .int (iZ ke), .long nm, .int (iZ fk), .int (iZ fp)])), (tx, .inl (k 0, 900, .inl bf)), (kw, .inl (k 2, 25, .inr (.inl kwf)))] (fun u => some (.int (iZ (u.1 0)))) (fun u => (tp > 880 ∧ (u.1 0) = -1 ∧ (u.1 1) = tp ∧ (u.2.2.1 0) = bf) ∨ (tp ≤ 880 ∧ (u.1 0) = tp + 20 ∧ (u.1 1) = tp + 20 ∧ xRw (u.2.2.1 0) (fd5 (gz bf) tp x1 x2 x3 x4 x5) 900)) (fun u => [(hx1, .inr (11, [.ref ta, .ref hw1, .ref hw12, .ref ka, .ref hr1, .ref hq, .ref hv, .ref h, .ref hn1, .ref hL, .ref li, .int (iZ ev), .int (iZ mk), .int (iZ ou), .long up, .long lo])), (hr1, .inr (4, [.ref tx, .ref kw, .int (iZ (u.1 1)), .int (iZ ln), .int (iZ pl), .int (iZ en), .int (iZ ki), .int (iZ va), .int (iZ ke), .long nm, .int (iZ fk), .int (iZ fp)])), (tx, .inl (k 0, 900, .inl (u.2.2.1 0))), (kw, .inl (k 2, 25, .inr (.inl kwf)))]) := by
  refine MW (by decide) (Nat.le_of_ble_eq_true rfl) (fun p e s m below meth c ls A hx hb hml hr hlocks hin hts hown hKK hP hD hS hA hl => ?_)
  have hK := hKK.1
  have hl : lv_has ls 6 [(0, .ref hx1), (1, .int (iZ x1)), (2, .int (iZ x2)), (3, .int (iZ x3)), (4, .int (iZ x4)), (5, .int (iZ x5))] := hl
  refine lv_aload_n hx hb dX11_feed_0 rfl (lv_at hl 0 rfl) ?_
  refine va_get (D := D) (ci := 11) (v := .ref hr1) (C := RX11) (T := TX11) (N := 16) hx hb hts iX11 hown hK hP 0 rfl rfl 4 (by decide) (hts _ qf_X11_32) (fun _ h => h) rfl dX11_feed_1 ?_
  refine va_get (D := D) (ci := 4) (v := .int (iZ tp)) (C := RX4) (T := TX4) (N := 12) hx hb hts iX4 hown hK hP 1 rfl rfl 2 (by decide) (hts _ qf_X11_149) (fun _ h => h) rfl dX11_feed_4 ?_
  refine lv_sipush (v := iZ 880) hx hb dX11_feed_7 (by decide) ?_
  refine lv_icmp_le (tgt := 15) hx hb dX11_feed_10 (by decide) (fun c_1 => ?_) (fun c_1 => ?_)
  ·
    have c_1 := (zle (x := iZ tp) (y := iZ 880) rfl rfl ⟨by omega, by omega⟩ ⟨by omega, by omega⟩).mp c_1
    refine lv_aload_n hx hb dX11_feed_15 rfl (lv_at hl 0 rfl) ?_
    refine va_get (D := D) (ci := 11) (v := .ref hr1) (C := RX11) (T := TX11) (N := 16) hx hb hts iX11 hown hK hP 0 rfl rfl 4 (by decide) (hts _ qf_X11_32) (fun _ h => h) rfl dX11_feed_16 ?_
    refine lv_iload_n hx hb dX11_feed_19 rfl (lv_at hl 1 rfl) ?_
    refine CWV (As := [.int (iZ x1)]) (rest := []) (wc := [(hr1, .inr (4, [.ref tx, .ref kw, .int (iZ tp), .int (iZ ln), .int (iZ pl), .int (iZ en), .int (iZ ki), .int (iZ va), .int (iZ ke), .long nm, .int (iZ fk), .int (iZ fp)])), (tx, .inl (k 0, 900, .inl bf))]) (wr := [(hx1, .inr (11, [.ref ta, .ref hw1, .ref hw12, .ref ka, .ref hr1, .ref hq, .ref hv, .ref h, .ref hn1, .ref hL, .ref li, .int (iZ ev), .int (iZ mk), .int (iZ ou), .long up, .long lo])), (kw, .inl (k 2, 25, .inr (.inl kwf)))]) hx hb hml hown hts hKK hP hD hS hA (x_putOnTape l D k hr1 tx kw tp ln pl en ki va ke fk fp nm bf x1 ⟨by omega, by omega⟩) ci_X4_putOnTape qm_X11_152 ⟨Nat.le_of_ble_eq_true rfl, Nat.le_of_ble_eq_true rfl⟩ ⟨Nat.le_of_ble_eq_true rfl, Nat.le_of_ble_eq_true rfl⟩ [1, 2] [0, 3] rfl rfl rfl rfl rfl (by decide) 0 rfl rfl rfl hl.1 rfl (Nat.le_of_ble_eq_true rfl) dX11_feed_20 (fun u_2 H locs hφ hP hD hS => ?_)
    obtain ⟨I_3, L_4, F_5, G_6⟩ := u_2
    obtain ⟨p_8, p_9⟩ : ((I_3 1) = tp + 4) ∧ (xRw (F_5 0) (pF (gz bf) tp (tp + 4) x1) 900) := hφ
    refine W.eq (g2 := F0 m 23 ls []) rfl ?_
    refine lv_aload_n hx hb dX11_feed_23 rfl (lv_at hl 0 rfl) ?_
    refine va_get (D := D) (ci := 11) (v := .ref hr1) (C := RX11) (T := TX11) (N := 16) hx hb hts iX11 hown hK hP 0 rfl rfl 4 (by decide) (hts _ qf_X11_32) (fun _ h => h) rfl dX11_feed_24 ?_
    refine lv_iload_n hx hb dX11_feed_27 rfl (lv_at hl 2 rfl) ?_
    refine CWV (As := [.int (iZ x2)]) (rest := []) (wc := [(hr1, .inr (4, [.ref tx, .ref kw, .int (iZ (I_3 1)), .int (iZ ln), .int (iZ pl), .int (iZ en), .int (iZ ki), .int (iZ va), .int (iZ ke), .long nm, .int (iZ fk), .int (iZ fp)])), (tx, .inl (k 0, 900, .inl (F_5 0)))]) (wr := [(hx1, .inr (11, [.ref ta, .ref hw1, .ref hw12, .ref ka, .ref hr1, .ref hq, .ref hv, .ref h, .ref hn1, .ref hL, .ref li, .int (iZ ev), .int (iZ mk), .int (iZ ou), .long up, .long lo])), (kw, .inl (k 2, 25, .inr (.inl kwf)))]) hx hb hml hown hts hKK hP hD hS hA (x_putOnTape l D k hr1 tx kw (I_3 1) ln pl en ki va ke fk fp nm (F_5 0) x2 ⟨by omega, by omega⟩) ci_X4_putOnTape qm_X11_152 ⟨Nat.le_of_ble_eq_true rfl, Nat.le_of_ble_eq_true rfl⟩ ⟨Nat.le_of_ble_eq_true rfl, Nat.le_of_ble_eq_true rfl⟩ [2, 3] [0, 1] rfl rfl rfl rfl rfl (by decide) 0 rfl rfl rfl hl.1 rfl (Nat.le_of_ble_eq_true rfl) dX11_feed_28 (fun u_10 H locs hφ hP hD hS => ?_)
    obtain ⟨I_11, L_12, F_13, G_14⟩ := u_10
    obtain ⟨p_16, p_17⟩ : ((I_11 1) = (I_3 1) + 4) ∧ (xRw (F_13 0) (pF (gz (F_5 0)) (I_3 1) ((I_3 1) + 4) x2) 900) := hφ
    refine W.eq (g2 := F0 m 31 ls []) rfl ?_
    refine lv_aload_n hx hb dX11_feed_31 rfl (lv_at hl 0 rfl) ?_
    refine va_get (D := D) (ci := 11) (v := .ref hr1) (C := RX11) (T := TX11) (N := 16) hx hb hts iX11 hown hK hP 0 rfl rfl 4 (by decide) (hts _ qf_X11_32) (fun _ h => h) rfl dX11_feed_32 ?_
    refine lv_iload_n hx hb dX11_feed_35 rfl (lv_at hl 3 rfl) ?_
    refine CWV (As := [.int (iZ x3)]) (rest := []) (wc := [(hr1, .inr (4, [.ref tx, .ref kw, .int (iZ (I_11 1)), .int (iZ ln), .int (iZ pl), .int (iZ en), .int (iZ ki), .int (iZ va), .int (iZ ke), .long nm, .int (iZ fk), .int (iZ fp)])), (tx, .inl (k 0, 900, .inl (F_13 0)))]) (wr := [(hx1, .inr (11, [.ref ta, .ref hw1, .ref hw12, .ref ka, .ref hr1, .ref hq, .ref hv, .ref h, .ref hn1, .ref hL, .ref li, .int (iZ ev), .int (iZ mk), .int (iZ ou), .long up, .long lo])), (kw, .inl (k 2, 25, .inr (.inl kwf)))]) hx hb hml hown hts hKK hP hD hS hA (x_putOnTape l D k hr1 tx kw (I_11 1) ln pl en ki va ke fk fp nm (F_13 0) x3 ⟨by omega, by omega⟩) ci_X4_putOnTape qm_X11_152 ⟨Nat.le_of_ble_eq_true rfl, Nat.le_of_ble_eq_true rfl⟩ ⟨Nat.le_of_ble_eq_true rfl, Nat.le_of_ble_eq_true rfl⟩ [2, 3] [0, 1] rfl rfl rfl rfl rfl (by decide) 0 rfl rfl rfl hl.1 rfl (Nat.le_of_ble_eq_true rfl) dX11_feed_36 (fun u_18 H locs hφ hP hD hS => ?_)
    obtain ⟨I_19, L_20, F_21, G_22⟩ := u_18
    obtain ⟨p_24, p_25⟩ : ((I_19 1) = (I_11 1) + 4) ∧ (xRw (F_21 0) (pF (gz (F_13 0)) (I_11 1) ((I_11 1) + 4) x3) 900) := hφ
    refine W.eq (g2 := F0 m 39 ls []) rfl ?_
    refine lv_aload_n hx hb dX11_feed_39 rfl (lv_at hl 0 rfl) ?_
    refine va_get (D := D) (ci := 11) (v := .ref hr1) (C := RX11) (T := TX11) (N := 16) hx hb hts iX11 hown hK hP 0 rfl rfl 4 (by decide) (hts _ qf_X11_32) (fun _ h => h) rfl dX11_feed_40 ?_
    refine lv_iload hx hb dX11_feed_43 (lv_at hl 4 rfl) ?_
    refine CWV (As := [.int (iZ x4)]) (rest := []) (wc := [(hr1, .inr (4, [.ref tx, .ref kw, .int (iZ (I_19 1)), .int (iZ ln), .int (iZ pl), .int (iZ en), .int (iZ ki), .int (iZ va), .int (iZ ke), .long nm, .int (iZ fk), .int (iZ fp)])), (tx, .inl (k 0, 900, .inl (F_21 0)))]) (wr := [(hx1, .inr (11, [.ref ta, .ref hw1, .ref hw12, .ref ka, .ref hr1, .ref hq, .ref hv, .ref h, .ref hn1, .ref hL, .ref li, .int (iZ ev), .int (iZ mk), .int (iZ ou), .long up, .long lo])), (kw, .inl (k 2, 25, .inr (.inl kwf)))]) hx hb hml hown hts hKK hP hD hS hA (x_putOnTape l D k hr1 tx kw (I_19 1) ln pl en ki va ke fk fp nm (F_21 0) x4 ⟨by omega, by omega⟩) ci_X4_putOnTape qm_X11_152 ⟨Nat.le_of_ble_eq_true rfl, Nat.le_of_ble_eq_true rfl⟩ ⟨Nat.le_of_ble_eq_true rfl, Nat.le_of_ble_eq_true rfl⟩ [2, 3] [0, 1] rfl rfl rfl rfl rfl (by decide) 0 rfl rfl rfl hl.1 rfl (Nat.le_of_ble_eq_true rfl) dX11_feed_45 (fun u_26 H locs hφ hP hD hS => ?_)
    obtain ⟨I_27, L_28, F_29, G_30⟩ := u_26
    obtain ⟨p_32, p_33⟩ : ((I_27 1) = (I_19 1) + 4) ∧ (xRw (F_29 0) (pF (gz (F_21 0)) (I_19 1) ((I_19 1) + 4) x4) 900) := hφ
    refine W.eq (g2 := F0 m 48 ls []) rfl ?_
    refine lv_aload_n hx hb dX11_feed_48 rfl (lv_at hl 0 rfl) ?_
    refine va_get (D := D) (ci := 11) (v := .ref hr1) (C := RX11) (T := TX11) (N := 16) hx hb hts iX11 hown hK hP 0 rfl rfl 4 (by decide) (hts _ qf_X11_32) (fun _ h => h) rfl dX11_feed_49 ?_
    refine lv_iload hx hb dX11_feed_52 (lv_at hl 5 rfl) ?_
    refine CWV (As := [.int (iZ x5)]) (rest := []) (wc := [(hr1, .inr (4, [.ref tx, .ref kw, .int (iZ (I_27 1)), .int (iZ ln), .int (iZ pl), .int (iZ en), .int (iZ ki), .int (iZ va), .int (iZ ke), .long nm, .int (iZ fk), .int (iZ fp)])), (tx, .inl (k 0, 900, .inl (F_29 0)))]) (wr := [(hx1, .inr (11, [.ref ta, .ref hw1, .ref hw12, .ref ka, .ref hr1, .ref hq, .ref hv, .ref h, .ref hn1, .ref hL, .ref li, .int (iZ ev), .int (iZ mk), .int (iZ ou), .long up, .long lo])), (kw, .inl (k 2, 25, .inr (.inl kwf)))]) hx hb hml hown hts hKK hP hD hS hA (x_putOnTape l D k hr1 tx kw (I_27 1) ln pl en ki va ke fk fp nm (F_29 0) x5 ⟨by omega, by omega⟩) ci_X4_putOnTape qm_X11_152 ⟨Nat.le_of_ble_eq_true rfl, Nat.le_of_ble_eq_true rfl⟩ ⟨Nat.le_of_ble_eq_true rfl, Nat.le_of_ble_eq_true rfl⟩ [2, 3] [0, 1] rfl rfl rfl rfl rfl (by decide) 0 rfl rfl rfl hl.1 rfl (Nat.le_of_ble_eq_true rfl) dX11_feed_54 (fun u_34 H locs hφ hP hD hS => ?_)
    obtain ⟨I_35, L_36, F_37, G_38⟩ := u_34
    obtain ⟨p_40, p_41⟩ : ((I_35 1) = (I_27 1) + 4) ∧ (xRw (F_37 0) (pF (gz (F_29 0)) (I_27 1) ((I_27 1) + 4) x5) 900) := hφ
    refine W.eq (g2 := F0 m 57 ls []) rfl ?_
    refine lv_aload_n hx hb dX11_feed_57 rfl (lv_at hl 0 rfl) ?_
    refine va_get (D := D) (ci := 11) (v := .ref hr1) (C := RX11) (T := TX11) (N := 16) hx hb hts iX11 hown hK hP 0 rfl rfl 4 (by decide) (hts _ qf_X11_32) (fun _ h => h) rfl dX11_feed_58 ?_
    refine va_get (D := D) (ci := 4) (v := .int (iZ (I_35 1))) (C := RX4) (T := TX4) (N := 12) hx hb hts iX4 hown hK hP 2 rfl rfl 2 (by decide) (hts _ qf_X11_149) (fun _ h => h) rfl dX11_feed_61 ?_
    have f0 := p_9
    have f1 := xRw.pf p_17 f0
    have f2 := xRw.pf p_25 f1
    have f3 := xRw.pf p_33 f2
    have f4 := xRw.pf p_41 f3
    exact EWi hx hb hr hlocks hS (fun i => [(I_35 1), (I_35 1)].getD i 0, fun i => [0].getD i 0, fun i => [(F_37 0)].getD i (fun _ => 0), fun i => [].getD i (fun _ => 0)) rfl (show (tp > 880 ∧ (I_35 1) = -1 ∧ (I_35 1) = tp ∧ (F_37 0) = bf) ∨ (tp ≤ 880 ∧ (I_35 1) = tp + 20 ∧ (I_35 1) = tp + 20 ∧ xRw (F_37 0) (fd5 (gz bf) tp x1 x2 x3 x4 x5) 900) from (Or.inr ⟨by omega, by omega, by omega, by rw [p_32, p_24, p_16, p_8] at f4; exact f4⟩)) (hP.sub [0, 2, 3, 1] rfl) (hD.sub [0, 2, 3, 1] rfl rfl) dX11_feed_64
  ·
    have c_1 := mt (zle (x := iZ tp) (y := iZ 880) rfl rfl ⟨by omega, by omega⟩ ⟨by omega, by omega⟩).mpr c_1
    refine lv_iconst (v := iZ (-1)) hx hb dX11_feed_13 (by decide) ?_
    exact EWi hx hb hr hlocks hS (fun i => [(-1), tp].getD i 0, fun i => [0].getD i 0, fun i => [bf].getD i (fun _ => 0), fun i => [].getD i (fun _ => 0)) rfl (show (tp > 880 ∧ (-1) = -1 ∧ tp = tp ∧ bf = bf) ∨ (tp ≤ 880 ∧ (-1) = tp + 20 ∧ tp = tp + 20 ∧ xRw bf (fd5 (gz bf) tp x1 x2 x3 x4 x5) 900) from (Or.inl ⟨by omega, by omega, by omega, rfl⟩)) (hP.sub [0, 1, 2, 3] rfl) (hD.sub [0, 1, 2, 3] rfl rfl) dX11_feed_14
set_option maxHeartbeats 4000000 in
set_option maxRecDepth 100000 in
theorem y_feed (l : Launch) (D : va_G) (k : Nat → ClassId) (hm : Nat) (Ma : Nat) (Mn : Nat) (Ms : Nat) (My : Nat) (Mt : Nat) (Mp : Nat) (Mx : Nat) (Mo : Nat) (Mk : Nat) (Ml : Nat) (Mb : Nat) (Mh : Nat) (Mc : Nat) (Mz : Nat) (Mr : Nat) (Mq : Nat) (Mst : Int) (Mtd : Int) (Msz : Int) (Mtk : Int) (Mfr : Int) (Men : Int) (Mva : Int) (Mfk : Int) (Mfp : Int) (Mfs : Int) (Mse : Int) (Mlt : Int) (Mdp : Int) (Mct : Int) (Mdr : Int) (Mrs : Int) (Mit : Int) (Mmk : Int) (Mtp : Int64) (Mbt : Int64) (Pf : Nat → Int32) (x1 : Int) (x2 : Int) (x3 : Int) (x4 : Int) (x5 : Int) (htd : 0 ≤ Mtd ∧ Mtd ≤ 900) : WD (σ := ((Nat → Int) × (Nat → Int64) × (Nat → Nat → Int32) × (Nat → Nat → Int64))) l yX12_feed cX12_feed 6 (some .int) 1 0 0 D k [.ref hm, .int (iZ x1), .int (iZ x2), .int (iZ x3), .int (iZ x4), .int (iZ x5)] [(hm, .inr (12, [.ref Ma, .ref Mn, .int (iZ Mst), .long Mtp, .long Mbt, .ref Ms, .ref My, .ref Mt, .ref Mp, .ref Mx, .int (iZ Mtd), .int (iZ Msz), .int (iZ Mtk), .int (iZ Mfr), .int (iZ Men), .int (iZ Mva), .int (iZ Mfk), .int (iZ Mfp), .int (iZ Mfs), .int (iZ Mse), .int (iZ Mlt), .ref Mo, .int (iZ Mdp), .int (iZ Mct), .ref Mk, .ref Ml, .ref Mb, .ref Mh, .ref Mc, .int (iZ Mdr), .int (iZ Mrs), .ref Mz, .ref Mr, .ref Mq, .int (iZ Mit), .int (iZ Mmk)])), (Mp, .inl (k 0, 900, .inl Pf))] (fun u => some (.int (iZ (u.1 0)))) (fun u => (Mtd > 880 ∧ (u.1 0) = -1 ∧ (u.1 1) = Mtd ∧ (u.2.2.1 0) = Pf) ∨ (Mtd ≤ 880 ∧ (u.1 0) = Mtd + 20 ∧ (u.1 1) = Mtd + 20 ∧ xRw (u.2.2.1 0) (fd5 (gz Pf) Mtd x1 x2 x3 x4 x5) 900)) (fun u => [(hm, .inr (12, [.ref Ma, .ref Mn, .int (iZ Mst), .long Mtp, .long Mbt, .ref Ms, .ref My, .ref Mt, .ref Mp, .ref Mx, .int (iZ (u.1 1)), .int (iZ Msz), .int (iZ Mtk), .int (iZ Mfr), .int (iZ Men), .int (iZ Mva), .int (iZ Mfk), .int (iZ Mfp), .int (iZ Mfs), .int (iZ Mse), .int (iZ Mlt), .ref Mo, .int (iZ Mdp), .int (iZ Mct), .ref Mk, .ref Ml, .ref Mb, .ref Mh, .ref Mc, .int (iZ Mdr), .int (iZ Mrs), .ref Mz, .ref Mr, .ref Mq, .int (iZ Mit), .int (iZ Mmk)])), (Mp, .inl (k 0, 900, .inl (u.2.2.1 0)))]) := by
  refine MW (by decide) (Nat.le_of_ble_eq_true rfl) (fun p e s m below meth c ls A hx hb hml hr hlocks hin hts hown hKK hP hD hS hA hl => ?_)
  have hK := hKK.1
  have hl : lv_has ls 6 [(0, .ref hm), (1, .int (iZ x1)), (2, .int (iZ x2)), (3, .int (iZ x3)), (4, .int (iZ x4)), (5, .int (iZ x5))] := hl
  refine lv_aload_n hx hb dX12_feed_0 rfl (lv_at hl 0 rfl) ?_
  refine va_get (D := D) (ci := 12) (v := .int (iZ Mtd)) (C := RX12) (T := TX12) (N := 36) hx hb hts iX12 hown hK hP 0 rfl rfl 10 (by decide) (hts _ qf_X12_106) (fun _ h => h) rfl dX12_feed_1 ?_
  refine lv_bipush (v := iZ 20) hx hb dX12_feed_4 (by decide) ?_
  refine lv_iadd hx hb dX12_feed_6 ?_
  refine lv_topi (fun x_1 ex_1 => ?_)
  obtain rfl : x_1 = iZ (Mtd + 20) := ex_1.trans (iZ_add Mtd 20)
  refine lv_sipush (v := iZ 900) hx hb dX12_feed_7 (by decide) ?_
  refine lv_icmp_le (tgt := 15) hx hb dX12_feed_10 (by decide) (fun c_2 => ?_) (fun c_2 => ?_)
  ·
    have c_2 := (zle (x := iZ (Mtd + 20)) (y := iZ 900) rfl rfl ⟨by omega, by omega⟩ ⟨by omega, by omega⟩).mp c_2
    refine lv_aload_n hx hb dX12_feed_15 rfl (lv_at hl 0 rfl) ?_
    refine lv_iload_n hx hb dX12_feed_16 rfl (lv_at hl 1 rfl) ?_
    refine CWV (As := [.int (iZ x1)]) (rest := []) (wc := [(hm, .inr (12, [.ref Ma, .ref Mn, .int (iZ Mst), .long Mtp, .long Mbt, .ref Ms, .ref My, .ref Mt, .ref Mp, .ref Mx, .int (iZ Mtd), .int (iZ Msz), .int (iZ Mtk), .int (iZ Mfr), .int (iZ Men), .int (iZ Mva), .int (iZ Mfk), .int (iZ Mfp), .int (iZ Mfs), .int (iZ Mse), .int (iZ Mlt), .ref Mo, .int (iZ Mdp), .int (iZ Mct), .ref Mk, .ref Ml, .ref Mb, .ref Mh, .ref Mc, .int (iZ Mdr), .int (iZ Mrs), .ref Mz, .ref Mr, .ref Mq, .int (iZ Mit), .int (iZ Mmk)])), (Mp, .inl (k 0, 900, .inl Pf))]) (wr := []) hx hb hml hown hts hKK hP hD hS hA (y_four l D k hm Ma Mn Ms My Mt Mp Mx Mo Mk Ml Mb Mh Mc Mz Mr Mq Mst Mtd Msz Mtk Mfr Men Mva Mfk Mfp Mfs Mse Mlt Mdp Mct Mdr Mrs Mit Mmk Mtp Mbt Pf x1 ⟨by omega, by omega⟩) ci_X12_four qm_X12_109 ⟨Nat.le_of_ble_eq_true rfl, Nat.le_of_ble_eq_true rfl⟩ ⟨Nat.le_of_ble_eq_true rfl, Nat.le_of_ble_eq_true rfl⟩ [0, 1] [] rfl rfl rfl rfl rfl (by decide) 0 rfl rfl rfl hl.1 rfl (Nat.le_of_ble_eq_true rfl) dX12_feed_17 (fun u_3 H locs hφ hP hD hS => ?_)
    obtain ⟨I_4, L_5, F_6, G_7⟩ := u_3
    obtain ⟨p_9, p_10⟩ : ((I_4 1) = Mtd + 4) ∧ (xRw (F_6 0) (pF (gz Pf) Mtd (Mtd + 4) x1) 900) := hφ
    refine W.eq (g2 := F0 m 20 ls []) rfl ?_
    refine lv_aload_n hx hb dX12_feed_20 rfl (lv_at hl 0 rfl) ?_
    refine lv_iload_n hx hb dX12_feed_21 rfl (lv_at hl 2 rfl) ?_
    refine CWV (As := [.int (iZ x2)]) (rest := []) (wc := [(hm, .inr (12, [.ref Ma, .ref Mn, .int (iZ Mst), .long Mtp, .long Mbt, .ref Ms, .ref My, .ref Mt, .ref Mp, .ref Mx, .int (iZ (I_4 1)), .int (iZ Msz), .int (iZ Mtk), .int (iZ Mfr), .int (iZ Men), .int (iZ Mva), .int (iZ Mfk), .int (iZ Mfp), .int (iZ Mfs), .int (iZ Mse), .int (iZ Mlt), .ref Mo, .int (iZ Mdp), .int (iZ Mct), .ref Mk, .ref Ml, .ref Mb, .ref Mh, .ref Mc, .int (iZ Mdr), .int (iZ Mrs), .ref Mz, .ref Mr, .ref Mq, .int (iZ Mit), .int (iZ Mmk)])), (Mp, .inl (k 0, 900, .inl (F_6 0)))]) (wr := []) hx hb hml hown hts hKK hP hD hS hA (y_four l D k hm Ma Mn Ms My Mt Mp Mx Mo Mk Ml Mb Mh Mc Mz Mr Mq Mst (I_4 1) Msz Mtk Mfr Men Mva Mfk Mfp Mfs Mse Mlt Mdp Mct Mdr Mrs Mit Mmk Mtp Mbt (F_6 0) x2 ⟨by omega, by omega⟩) ci_X12_four qm_X12_109 ⟨Nat.le_of_ble_eq_true rfl, Nat.le_of_ble_eq_true rfl⟩ ⟨Nat.le_of_ble_eq_true rfl, Nat.le_of_ble_eq_true rfl⟩ [0, 1] [] rfl rfl rfl rfl rfl (by decide) 0 rfl rfl rfl hl.1 rfl (Nat.le_of_ble_eq_true rfl) dX12_feed_22 (fun u_11 H locs hφ hP hD hS => ?_)
    obtain ⟨I_12, L_13, F_14, G_15⟩ := u_11
    obtain ⟨p_17, p_18⟩ : ((I_12 1) = (I_4 1) + 4) ∧ (xRw (F_14 0) (pF (gz (F_6 0)) (I_4 1) ((I_4 1) + 4) x2) 900) := hφ
    refine W.eq (g2 := F0 m 25 ls []) rfl ?_
    refine lv_aload_n hx hb dX12_feed_25 rfl (lv_at hl 0 rfl) ?_
    refine lv_iload_n hx hb dX12_feed_26 rfl (lv_at hl 3 rfl) ?_
    refine CWV (As := [.int (iZ x3)]) (rest := []) (wc := [(hm, .inr (12, [.ref Ma, .ref Mn, .int (iZ Mst), .long Mtp, .long Mbt, .ref Ms, .ref My, .ref Mt, .ref Mp, .ref Mx, .int (iZ (I_12 1)), .int (iZ Msz), .int (iZ Mtk), .int (iZ Mfr), .int (iZ Men), .int (iZ Mva), .int (iZ Mfk), .int (iZ Mfp), .int (iZ Mfs), .int (iZ Mse), .int (iZ Mlt), .ref Mo, .int (iZ Mdp), .int (iZ Mct), .ref Mk, .ref Ml, .ref Mb, .ref Mh, .ref Mc, .int (iZ Mdr), .int (iZ Mrs), .ref Mz, .ref Mr, .ref Mq, .int (iZ Mit), .int (iZ Mmk)])), (Mp, .inl (k 0, 900, .inl (F_14 0)))]) (wr := []) hx hb hml hown hts hKK hP hD hS hA (y_four l D k hm Ma Mn Ms My Mt Mp Mx Mo Mk Ml Mb Mh Mc Mz Mr Mq Mst (I_12 1) Msz Mtk Mfr Men Mva Mfk Mfp Mfs Mse Mlt Mdp Mct Mdr Mrs Mit Mmk Mtp Mbt (F_14 0) x3 ⟨by omega, by omega⟩) ci_X12_four qm_X12_109 ⟨Nat.le_of_ble_eq_true rfl, Nat.le_of_ble_eq_true rfl⟩ ⟨Nat.le_of_ble_eq_true rfl, Nat.le_of_ble_eq_true rfl⟩ [0, 1] [] rfl rfl rfl rfl rfl (by decide) 0 rfl rfl rfl hl.1 rfl (Nat.le_of_ble_eq_true rfl) dX12_feed_27 (fun u_19 H locs hφ hP hD hS => ?_)
    obtain ⟨I_20, L_21, F_22, G_23⟩ := u_19
    obtain ⟨p_25, p_26⟩ : ((I_20 1) = (I_12 1) + 4) ∧ (xRw (F_22 0) (pF (gz (F_14 0)) (I_12 1) ((I_12 1) + 4) x3) 900) := hφ
    refine W.eq (g2 := F0 m 30 ls []) rfl ?_
    refine lv_aload_n hx hb dX12_feed_30 rfl (lv_at hl 0 rfl) ?_
    refine lv_iload hx hb dX12_feed_31 (lv_at hl 4 rfl) ?_
    refine CWV (As := [.int (iZ x4)]) (rest := []) (wc := [(hm, .inr (12, [.ref Ma, .ref Mn, .int (iZ Mst), .long Mtp, .long Mbt, .ref Ms, .ref My, .ref Mt, .ref Mp, .ref Mx, .int (iZ (I_20 1)), .int (iZ Msz), .int (iZ Mtk), .int (iZ Mfr), .int (iZ Men), .int (iZ Mva), .int (iZ Mfk), .int (iZ Mfp), .int (iZ Mfs), .int (iZ Mse), .int (iZ Mlt), .ref Mo, .int (iZ Mdp), .int (iZ Mct), .ref Mk, .ref Ml, .ref Mb, .ref Mh, .ref Mc, .int (iZ Mdr), .int (iZ Mrs), .ref Mz, .ref Mr, .ref Mq, .int (iZ Mit), .int (iZ Mmk)])), (Mp, .inl (k 0, 900, .inl (F_22 0)))]) (wr := []) hx hb hml hown hts hKK hP hD hS hA (y_four l D k hm Ma Mn Ms My Mt Mp Mx Mo Mk Ml Mb Mh Mc Mz Mr Mq Mst (I_20 1) Msz Mtk Mfr Men Mva Mfk Mfp Mfs Mse Mlt Mdp Mct Mdr Mrs Mit Mmk Mtp Mbt (F_22 0) x4 ⟨by omega, by omega⟩) ci_X12_four qm_X12_109 ⟨Nat.le_of_ble_eq_true rfl, Nat.le_of_ble_eq_true rfl⟩ ⟨Nat.le_of_ble_eq_true rfl, Nat.le_of_ble_eq_true rfl⟩ [0, 1] [] rfl rfl rfl rfl rfl (by decide) 0 rfl rfl rfl hl.1 rfl (Nat.le_of_ble_eq_true rfl) dX12_feed_33 (fun u_27 H locs hφ hP hD hS => ?_)
    obtain ⟨I_28, L_29, F_30, G_31⟩ := u_27
    obtain ⟨p_33, p_34⟩ : ((I_28 1) = (I_20 1) + 4) ∧ (xRw (F_30 0) (pF (gz (F_22 0)) (I_20 1) ((I_20 1) + 4) x4) 900) := hφ
    refine W.eq (g2 := F0 m 36 ls []) rfl ?_
    refine lv_aload_n hx hb dX12_feed_36 rfl (lv_at hl 0 rfl) ?_
    refine lv_iload hx hb dX12_feed_37 (lv_at hl 5 rfl) ?_
    refine CWV (As := [.int (iZ x5)]) (rest := []) (wc := [(hm, .inr (12, [.ref Ma, .ref Mn, .int (iZ Mst), .long Mtp, .long Mbt, .ref Ms, .ref My, .ref Mt, .ref Mp, .ref Mx, .int (iZ (I_28 1)), .int (iZ Msz), .int (iZ Mtk), .int (iZ Mfr), .int (iZ Men), .int (iZ Mva), .int (iZ Mfk), .int (iZ Mfp), .int (iZ Mfs), .int (iZ Mse), .int (iZ Mlt), .ref Mo, .int (iZ Mdp), .int (iZ Mct), .ref Mk, .ref Ml, .ref Mb, .ref Mh, .ref Mc, .int (iZ Mdr), .int (iZ Mrs), .ref Mz, .ref Mr, .ref Mq, .int (iZ Mit), .int (iZ Mmk)])), (Mp, .inl (k 0, 900, .inl (F_30 0)))]) (wr := []) hx hb hml hown hts hKK hP hD hS hA (y_four l D k hm Ma Mn Ms My Mt Mp Mx Mo Mk Ml Mb Mh Mc Mz Mr Mq Mst (I_28 1) Msz Mtk Mfr Men Mva Mfk Mfp Mfs Mse Mlt Mdp Mct Mdr Mrs Mit Mmk Mtp Mbt (F_30 0) x5 ⟨by omega, by omega⟩) ci_X12_four qm_X12_109 ⟨Nat.le_of_ble_eq_true rfl, Nat.le_of_ble_eq_true rfl⟩ ⟨Nat.le_of_ble_eq_true rfl, Nat.le_of_ble_eq_true rfl⟩ [0, 1] [] rfl rfl rfl rfl rfl (by decide) 0 rfl rfl rfl hl.1 rfl (Nat.le_of_ble_eq_true rfl) dX12_feed_39 (fun u_35 H locs hφ hP hD hS => ?_)
    obtain ⟨I_36, L_37, F_38, G_39⟩ := u_35
    obtain ⟨p_41, p_42⟩ : ((I_36 1) = (I_28 1) + 4) ∧ (xRw (F_38 0) (pF (gz (F_30 0)) (I_28 1) ((I_28 1) + 4) x5) 900) := hφ
    refine W.eq (g2 := F0 m 42 ls []) rfl ?_
    refine lv_aload_n hx hb dX12_feed_42 rfl (lv_at hl 0 rfl) ?_
    refine va_get (D := D) (ci := 12) (v := .int (iZ (I_36 1))) (C := RX12) (T := TX12) (N := 36) hx hb hts iX12 hown hK hP 0 rfl rfl 10 (by decide) (hts _ qf_X12_106) (fun _ h => h) rfl dX12_feed_43 ?_
    have f0 := p_10
    have f1 := xRw.pf p_18 f0
    have f2 := xRw.pf p_26 f1
    have f3 := xRw.pf p_34 f2
    have f4 := xRw.pf p_42 f3
    exact EWi hx hb hr hlocks hS (fun i => [(I_36 1), (I_36 1)].getD i 0, fun i => [0].getD i 0, fun i => [(F_38 0)].getD i (fun _ => 0), fun i => [].getD i (fun _ => 0)) rfl (show (Mtd > 880 ∧ (I_36 1) = -1 ∧ (I_36 1) = Mtd ∧ (F_38 0) = Pf) ∨ (Mtd ≤ 880 ∧ (I_36 1) = Mtd + 20 ∧ (I_36 1) = Mtd + 20 ∧ xRw (F_38 0) (fd5 (gz Pf) Mtd x1 x2 x3 x4 x5) 900) from (Or.inr ⟨by omega, by omega, by omega, by rw [p_33, p_25, p_17, p_9] at f4; exact f4⟩)) (hP.sub [0, 1] rfl) (hD.sub [0, 1] rfl rfl) dX12_feed_46
  ·
    have c_2 := mt (zle (x := iZ (Mtd + 20)) (y := iZ 900) rfl rfl ⟨by omega, by omega⟩ ⟨by omega, by omega⟩).mpr c_2
    refine lv_iconst (v := iZ (-1)) hx hb dX12_feed_13 (by decide) ?_
    exact EWi hx hb hr hlocks hS (fun i => [(-1), Mtd].getD i 0, fun i => [0].getD i 0, fun i => [Pf].getD i (fun _ => 0), fun i => [].getD i (fun _ => 0)) rfl (show (Mtd > 880 ∧ (-1) = -1 ∧ Mtd = Mtd ∧ Pf = Pf) ∨ (Mtd ≤ 880 ∧ (-1) = Mtd + 20 ∧ Mtd = Mtd + 20 ∧ xRw Pf (fd5 (gz Pf) Mtd x1 x2 x3 x4 x5) 900) from (Or.inl ⟨by omega, by omega, by omega, rfl⟩)) (hP.sub [0, 1] rfl) (hD.sub [0, 1] rfl rfl) dX12_feed_14
