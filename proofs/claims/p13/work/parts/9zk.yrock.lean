section
set_option maxHeartbeats 4000000 in
set_option maxRecDepth 100000 in
theorem y_nameHere (l : Launch) (D : va_G) (k : Nat → ClassId) (fs : List Value) (hm : Nat) (Mx : Nat) (Msz : Int) (Mfr : Int) (Men : Int) (Xf : Nat → Int32) (f9 : fs[9]? = some (.ref Mx)) (f11 : fs[11]? = some (.int (iZ Msz))) (f13 : fs[13]? = some (.int (iZ Mfr))) (f14 : fs[14]? = some (.int (iZ Men))) (hnh : (0 ≤ Mfr ∧ Mfr ≤ Men) ∧ (Men ≤ Msz ∧ Msz ≤ 900)) (hn8 : Men - Mfr ≤ 8 ∧ xLet (tX Xf Msz) Mfr (Men - Mfr).toNat) : WD (σ := ((Int) × (Int64) × (Unit) × (Unit))) l yX12_nameHere cX12_nameHere 4 (some .long) 1 0 0 D k [.ref hm] [(hm, .inr (12, fs)), (Mx, .inl (k 0, 900, .inl Xf))] (fun u => some (.long u.2.1)) (fun u => u.2.1 = lZ (xN8 (tX Xf Msz) Mfr (Men - Mfr).toNat)) (fun u => [(hm, .inr (12, fs)), (Mx, .inl (k 0, 900, .inl Xf))]) := by
  refine MW (by decide) (Nat.le_of_ble_eq_true rfl) (fun p e s m below meth c ls A hx hb hml hr hlocks hin hts hown hKK hP hD hS hA hl => ?_)
  have hK := hKK.1
  have hl : lv_has ls 4 [(0, .ref hm)] := hl
  refine lv_lconst (v := 0) hx hb dX12_nameHere_0 rfl ?_
  refine lv_lstore_n (lv' := [(1, .long 0), (0, .ref hm)]) hx hb dX12_nameHere_1 rfl hl (bl rfl) rfl (fun ls hl => ?_)
  refine lv_aload_n hx hb dX12_nameHere_2 rfl (lv_at hl 1 rfl) ?_
  refine va_get (D := D) (ci := 12) (v := .int (iZ Mfr)) (C := RX12) (T := TX12) (N := 36) hx hb hts iX12 hown hK hP 0 rfl rfl 13 (bl rfl) (hts _ qf_X12_121) (fun _ h => h) f13 dX12_nameHere_3 ?_
  refine lv_istore_n (lv' := [(3, .int (iZ Mfr)), (1, .long 0), (0, .ref hm)]) hx hb dX12_nameHere_6 rfl hl (bl rfl) rfl (fun ls hl => ?_)
  have HL7 : ∀ (fu : Nat) (v1_7 : Int64) (v3_7 : Int) (H : Heap) (locs : List Loc) (ls : Array Slot), ((Men - 1) + 2 - v3_7) < (fu : Int) → ((Mfr ≤ v3_7 ∧ v3_7 ≤ (Men - 1) + 1)) → (v1_7 = lZ (xN8 (tX Xf Msz) Mfr (v3_7 - Mfr).toNat)) → va_P D vwCl [(hm, .inr (12, fs)), (Mx, .inl (k 0, 900, .inl Xf))] H → va_D A [(hm, .inr (12, fs)), (Mx, .inl (k 0, 900, .inl Xf))] → va_S A s.heap H locs → lv_has ls 4 [(3, .int (iZ v3_7)), (1, .long v1_7), (0, .ref hm)] → W p l e (rj 1 0 0) s m [.ref hm].toArray below meth c H locs 0 0 (MQ below (QW (σ := ((Int) × (Int64) × (Unit) × (Unit))) (fun u => some (.long u.2.1)) (fun u => u.2.1 = lZ (xN8 (tX Xf Msz) Mfr (Men - Mfr).toNat)) (fun u => [(hm, .inr (12, fs)), (Mx, .inl (k 0, 900, .inl Xf))]) D A) [.ref hm].toArray s 0 0 A) (F0 m 7 ls []) := by
    intro fu
    induction fu with
    | zero => intro v1_7 v3_7 H locs ls hμ7 hi7 hv7 hP hD hS hl; exact absurd hμ7 (by omega)
    | succ fu ih7 =>
      intro v1_7 v3_7 H locs ls hμ7 hi7 hv7 hP hD hS hl
      refine lv_iload_n hx hb dX12_nameHere_7 rfl (lv_at hl 0 rfl) ?_
      refine lv_aload_n hx hb dX12_nameHere_8 rfl (lv_at hl 2 rfl) ?_
      refine va_get (D := D) (ci := 12) (v := .int (iZ Men)) (C := RX12) (T := TX12) (N := 36) hx hb hts iX12 hown hK hP 0 rfl rfl 14 (bl rfl) (hts _ qf_X12_115) (fun _ h => h) f14 dX12_nameHere_9 ?_
      refine lv_icmp_ge (tgt := 33) hx hb dX12_nameHere_12 rfl (fun c_1 => ?_) (fun c_1 => ?_)
      ·
        have c_1 := (zle (x := iZ Men) (y := iZ v3_7) rfl rfl ⟨by omega, by omega⟩ ⟨by omega, by omega⟩).mp c_1
        refine lv_lload_n hx hb dX12_nameHere_33 rfl (lv_at hl 1 rfl) ?_
        exact EWl hx hb hr hlocks hS (0, v1_7, (), ()) rfl (show v1_7 = lZ (xN8 (tX Xf Msz) Mfr (Men - Mfr).toNat) from (by rw [show Men = v3_7 from (by omega)]; exact hv7)) (hP.sub [0, 1] rfl) (hD.sub [0, 1] rfl rfl) dX12_nameHere_34
      ·
        have c_1 := mt (zle (x := iZ Men) (y := iZ v3_7) rfl rfl ⟨by omega, by omega⟩ ⟨by omega, by omega⟩).mpr c_1
        have hsm := hn8.2 v3_7 (by omega) (by omega)
        have hsm : 97 ≤ tX Xf Msz v3_7 ∧ tX Xf Msz v3_7 ≤ 122 := hsm
        refine lv_lload_n hx hb dX12_nameHere_15 rfl (lv_at hl 1 rfl) ?_
        refine lv_bipush (v := iZ 8) hx hb dX12_nameHere_16 bip_8 ?_
        refine lv_lshl (v := _) hx hb dX12_nameHere_18 rfl ?_
        refine lv_topl (fun y_2 ey_2 => ?_)
        refine lv_aload_n hx hb dX12_nameHere_19 rfl (lv_at hl 2 rfl) ?_
        refine lv_iload_n hx hb dX12_nameHere_20 rfl (lv_at hl 0 rfl) ?_
        refine CRV (As := [.int (iZ v3_7)]) (rest := [.long y_2]) hx hb hml hown hts hKK hP (y_byteAt l D k fs hm Mx Msz Xf v3_7 f9 f11 ⟨by omega, by omega⟩ ⟨by omega, by omega⟩) ci_X12_byteAt qm_X12_118 ⟨Nat.le_of_ble_eq_true rfl, Nat.le_of_ble_eq_true rfl⟩ ⟨Nat.le_of_ble_eq_true rfl, Nat.le_of_ble_eq_true rfl⟩ 0 rfl rfl rfl hl.1 rfl (Nat.le_of_ble_eq_true rfl) dX12_nameHere_21 ?_
        have hb_h_3 := tX_rg Xf Msz v3_7 (by omega)
        refine lv_i2l (v := (iZ (tX Xf Msz v3_7)).toInt64) hx hb dX12_nameHere_24 rfl ?_
        refine lv_lor hx hb dX12_nameHere_25 ?_
        refine lv_topl (fun y_4 ey_4 => ?_)
        refine lv_lstore_n (lv' := [(1, .long y_4), (3, .int (iZ v3_7)), (0, .ref hm)]) hx hb dX12_nameHere_26 rfl hl (bl rfl) rfl (fun ls hl => ?_)
        refine lv_iinc (v := iZ (v3_7 + 1)) (lv' := [(3, .int (iZ (v3_7 + 1))), (1, .long y_4), (0, .ref hm)]) hx hb dX12_nameHere_27 hl (k := 1) rfl (iZ_add v3_7 1) (by decide) rfl (fun ls hl => ?_)
        refine lv_goto (tgt := 7) hx hb dX12_nameHere_30 rfl ?_
        exact ih7  y_4 (v3_7 + 1) _ _ _ (by omega) (show (Mfr ≤ (v3_7 + 1) ∧ (v3_7 + 1) ≤ (Men - 1) + 1) from ⟨by omega, by omega⟩) (show y_4 = lZ (xN8 (tX Xf Msz) Mfr ((v3_7 + 1) - Mfr).toNat) from (by rw [ey_4, ey_2, hv7, sh8_z (xN8_7 (by omega) (fun j h1 h2 => hn8.2 j h1 (by omega))) ⟨by omega, by omega⟩, xN8_step (T := tX Xf Msz) (by omega) rfl])) (hP.sub [0, 1] rfl) (hD.sub [0, 1] rfl rfl) hS (lv_sub hl [0, 1, 2] rfl)
  exact HL7 904 0 Mfr _ _ _ (by omega) (show (Mfr ≤ Mfr ∧ Mfr ≤ (Men - 1) + 1) from ⟨by omega, by omega⟩) (show 0 = lZ (xN8 (tX Xf Msz) Mfr (Mfr - Mfr).toNat) from (by rw [xN8_0]; rfl)) (hP.sub [0, 1] rfl) (hD.sub [0, 1] rfl rfl) hS (lv_sub hl [0, 1, 2] rfl)
set_option maxHeartbeats 4000000 in
set_option maxRecDepth 100000 in
theorem y_findHere (l : Launch) (D : va_G) (k : Nat → ClassId) (fs : List Value) (hm : Nat) (Mx : Nat) (Mn : Nat) (Msz : Int) (Mfr : Int) (Men : Int) (x : Int) (y : Int) (cu : Int) (Xf : Nat → Int32) (Nf : Nat → Int64) (N : Int → Int) (f9 : fs[9]? = some (.ref Mx)) (f11 : fs[11]? = some (.int (iZ Msz))) (f13 : fs[13]? = some (.int (iZ Mfr))) (f14 : fs[14]? = some (.int (iZ Men))) (f1 : fs[1]? = some (.ref Mn)) (hnh : (0 ≤ Mfr ∧ Mfr ≤ Men) ∧ (Men ≤ Msz ∧ Msz ≤ 900)) (hn8 : Men - Mfr ≤ 8 ∧ xLet (tX Xf Msz) Mfr (Men - Mfr).toNat) (h9x : 0 ≤ x ∧ x ≤ 30) (h9y : 0 ≤ y ∧ y ≤ 6) (hnr : xNr Nf x N y ∧ xNm (tX Xf Msz) cu = xCd (tX Xf Msz) Mfr (Men - Mfr).toNat) : WD (σ := ((Int) × (Int64) × (Unit) × (Unit))) l yX12_findHere cX12_findHere 4 (some .int) 2 0 0 D k [.ref hm, .int (iZ x), .int (iZ y)] [(hm, .inr (12, fs)), (Mx, .inl (k 0, 900, .inl Xf)), (Mn, .inl (k 2, 36, .inr (.inl Nf)))] (fun u => some (.int (iZ u.1))) (fun u => (u.1 = xFn N y (xNm (tX Xf Msz) cu)) ∧ (-1 ≤ u.1 ∧ (u.1 < y ∨ u.1 = -1))) (fun u => [(hm, .inr (12, fs)), (Mx, .inl (k 0, 900, .inl Xf)), (Mn, .inl (k 2, 36, .inr (.inl Nf)))]) := by
  refine MW (by decide) (Nat.le_of_ble_eq_true rfl) (fun p e s m below meth c ls A hx hb hml hr hlocks hin hts hown hKK hP hD hS hA hl => ?_)
  have hK := hKK.1
  have hl : lv_has ls 4 [(0, .ref hm), (1, .int (iZ x)), (2, .int (iZ y))] := hl
  refine lv_iconst (v := iZ 0) hx hb dX12_findHere_0 rfl ?_
  refine lv_istore_n (lv' := [(3, .int (iZ 0)), (0, .ref hm), (1, .int (iZ x)), (2, .int (iZ y))]) hx hb dX12_findHere_1 rfl hl (bl rfl) rfl (fun ls hl => ?_)
  have HL2 : ∀ (fu : Nat) (v3_2 : Int) (H : Heap) (locs : List Loc) (ls : Array Slot), ((y - 1) + 2 - v3_2) < (fu : Int) → ((0 ≤ v3_2 ∧ v3_2 ≤ (y - 1) + 1)) → (∀ j : Int, 0 ≤ j → j < v3_2 → ¬ N j = xNm (tX Xf Msz) cu) → va_P D vwCl [(hm, .inr (12, fs)), (Mx, .inl (k 0, 900, .inl Xf)), (Mn, .inl (k 2, 36, .inr (.inl Nf)))] H → va_D A [(hm, .inr (12, fs)), (Mx, .inl (k 0, 900, .inl Xf)), (Mn, .inl (k 2, 36, .inr (.inl Nf)))] → va_S A s.heap H locs → lv_has ls 4 [(3, .int (iZ v3_2)), (0, .ref hm), (1, .int (iZ x)), (2, .int (iZ y))] → W p l e (rj 2 0 0) s m [.ref hm, .int (iZ x), .int (iZ y)].toArray below meth c H locs 0 0 (MQ below (QW (σ := ((Int) × (Int64) × (Unit) × (Unit))) (fun u => some (.int (iZ u.1))) (fun u => (u.1 = xFn N y (xNm (tX Xf Msz) cu)) ∧ (-1 ≤ u.1 ∧ (u.1 < y ∨ u.1 = -1))) (fun u => [(hm, .inr (12, fs)), (Mx, .inl (k 0, 900, .inl Xf)), (Mn, .inl (k 2, 36, .inr (.inl Nf)))]) D A) [.ref hm, .int (iZ x), .int (iZ y)].toArray s 0 0 A) (F0 m 2 ls []) := by
    intro fu
    induction fu with
    | zero => intro v3_2 H locs ls hμ2 hi2 hj2 hP hD hS hl; exact absurd hμ2 (by omega)
    | succ fu ih2 =>
      intro v3_2 H locs ls hμ2 hi2 hj2 hP hD hS hl
      refine lv_iload_n hx hb dX12_findHere_2 rfl (lv_at hl 0 rfl) ?_
      refine lv_iload_n hx hb dX12_findHere_3 rfl (lv_at hl 3 rfl) ?_
      refine lv_icmp_ge (tgt := 31) hx hb dX12_findHere_4 rfl (fun c_1 => ?_) (fun c_1 => ?_)
      ·
        have c_1 := (zle (x := iZ y) (y := iZ v3_2) rfl rfl ⟨by omega, by omega⟩ ⟨by omega, by omega⟩).mp c_1
        refine lv_iconst (v := iZ (-1)) hx hb dX12_findHere_31 rfl ?_
        exact EWi hx hb hr hlocks hS ((-1), 0, (), ()) rfl ⟨(show (-1) = xFn N y (xNm (tX Xf Msz) cu) from (xFn_eq (Or.inl ⟨rfl, fun j h1 h2 => hj2 j h1 (by omega)⟩))), (show -1 ≤ (-1) ∧ ((-1) < y ∨ (-1) = -1) from (by omega))⟩ (hP.sub [0, 1, 2] rfl) (hD.sub [0, 1, 2] rfl rfl) dX12_findHere_32
      ·
        have c_1 := mt (zle (x := iZ y) (y := iZ v3_2) rfl rfl ⟨by omega, by omega⟩ ⟨by omega, by omega⟩).mpr c_1
        refine lv_aload_n hx hb dX12_findHere_7 rfl (lv_at hl 1 rfl) ?_
        refine va_get (D := D) (ci := 12) (v := .ref Mn) (C := RX12) (T := TX12) (N := 36) hx hb hts iX12 hown hK hP 0 rfl rfl 1 (bl rfl) (hts _ qf_X12_13) (fun _ h => h) f1 dX12_findHere_8 ?_
        refine lv_iload_n hx hb dX12_findHere_11 rfl (lv_at hl 2 rfl) ?_
        refine lv_iload_n hx hb dX12_findHere_12 rfl (lv_at hl 0 rfl) ?_
        refine lv_iadd hx hb dX12_findHere_13 ?_
        refine lv_topi (fun x_2 ex_2 => ?_)
        obtain rfl : x_2 = iZ (x + v3_2) := ex_2.trans (iZ_add x v3_2)
        refine va_lald hx hb hK hP 2 2 rfl rfl (zin (e := (x + v3_2)) (n := 36) ⟨by omega, by omega⟩ (bl rfl)) dX12_findHere_14 ?_
        refine lv_topl (fun y_3 ey_3 => ?_)
        refine lv_aload_n hx hb dX12_findHere_15 rfl (lv_at hl 1 rfl) ?_
        refine CWV (As := []) (rest := [.long y_3]) (wc := _) (wr := [(Mn, .inl (k 2, 36, .inr (.inl Nf)))]) hx hb hml hown hts hKK hP hD hS hA (y_nameHere l D k fs hm Mx Msz Mfr Men Xf f9 f11 f13 f14 ⟨⟨by omega, by omega⟩, by omega, by omega⟩ hn8) ci_X12_nameHere qm_X12_171 ⟨Nat.le_of_ble_eq_true rfl, Nat.le_of_ble_eq_true rfl⟩ ⟨Nat.le_of_ble_eq_true rfl, Nat.le_of_ble_eq_true rfl⟩ [0, 1] [2] rfl rfl rfl rfl rfl (dj rfl) 0 rfl rfl rfl hl.1 rfl (Nat.le_of_ble_eq_true rfl) dX12_findHere_16 (fun u_4 H locs hφ hP hD hS => ?_)
        have p_5 : u_4.2.1 = lZ (xN8 (tX Xf Msz) Mfr (Men - Mfr).toNat) := hφ
        refine W.eq (g2 := F0 m 19 ls [.long u_4.2.1, .long y_3]) rfl ?_
        have hq : N v3_2 = xNm (tX Xf Msz) cu ↔ y_3 = u_4.2.1 := (hnr.1 v3_2 (by omega) (by omega)).eq ⟨tX Xf Msz, Mfr, (Men - Mfr).toNat, by omega, hn8.2, hnr.2, rfl⟩ |>.trans (by rw [ey_3, zcl ⟨by omega, by omega⟩, p_5])
        refine W.lcmp hx hb dX12_findHere_19 ?_
        refine lv_if_ne (tgt := 25) hx hb dX12_findHere_20 rfl (fun c_6 => ?_) (fun c_6 => ?_)
        ·
          refine lv_iinc (v := iZ (v3_2 + 1)) (lv' := [(3, .int (iZ (v3_2 + 1))), (0, .ref hm), (1, .int (iZ x)), (2, .int (iZ y))]) hx hb dX12_findHere_25 hl (k := 0) rfl (iZ_add v3_2 1) (by decide) rfl (fun ls hl => ?_)
          refine lv_goto (tgt := 2) hx hb dX12_findHere_28 rfl ?_
          exact ih2  (v3_2 + 1) _ _ _ (by omega) (show (0 ≤ (v3_2 + 1) ∧ (v3_2 + 1) ≤ (y - 1) + 1) from ⟨by omega, by omega⟩) (show ∀ j : Int, 0 ≤ j → j < (v3_2 + 1) → ¬ N j = xNm (tX Xf Msz) cu from (fun j h1 h2 => by rcases Int.lt_or_eq_of_le (show j ≤ v3_2 by omega) with h3 | h3; exact hj2 j h1 h3; rw [h3]; exact fun h4 => c_6 (lgc_eq.mpr (hq.mp h4)))) (hP.sub [1, 2, 0] rfl) (hD.sub [1, 2, 0] rfl rfl) hS (lv_sub hl [0, 1, 2, 3] rfl)
        ·
          refine lv_iload_n hx hb dX12_findHere_23 rfl (lv_at hl 0 rfl) ?_
          exact EWi hx hb hr hlocks hS (v3_2, 0, (), ()) rfl ⟨(show v3_2 = xFn N y (xNm (tX Xf Msz) cu) from (xFn_eq (Or.inr ⟨by omega, by omega, hq.mpr (lgc_eq.mp c_6), hj2⟩))), (show -1 ≤ v3_2 ∧ (v3_2 < y ∨ v3_2 = -1) from (by omega))⟩ (hP.sub [1, 2, 0] rfl) (hD.sub [1, 2, 0] rfl rfl) dX12_findHere_24
  exact HL2 9 0 _ _ _ (by omega) (show (0 ≤ 0 ∧ 0 ≤ (y - 1) + 1) from ⟨by omega, by omega⟩) (show ∀ j : Int, 0 ≤ j → j < 0 → ¬ N j = xNm (tX Xf Msz) cu from (fun j h1 h2 => absurd h1 (by omega))) (hP.sub [0, 1, 2] rfl) (hD.sub [0, 1, 2] rfl rfl) hS (lv_sub hl [0, 1, 2, 3] rfl)
set_option maxHeartbeats 4000000 in
set_option maxRecDepth 100000 in
theorem y_oldOne (l : Launch) (D : va_G) (k : Nat → ClassId) (sa sv : Nat) (hm : Nat) (Ma : Nat) (Mn : Nat) (Ms : Nat) (My : Nat) (Mt : Nat) (Mp : Nat) (Mx : Nat) (Mo : Nat) (Mk : Nat) (Ml : Nat) (Mb : Nat) (Mh : Nat) (Mc : Nat) (Mz : Nat) (Mr : Nat) (Mq : Nat) (Mst : Int) (Mtd : Int) (Msz : Int) (Mtk : Int) (Mfr : Int) (Men : Int) (Mva : Int) (Mfk : Int) (Mfp : Int) (Mfs : Int) (Mse : Int) (Mlt : Int) (Mdp : Int) (Mct : Int) (Mdr : Int) (Mrs : Int) (Mit : Int) (Mmk : Int) (Mtp : Int64) (Mbt : Int64) (Xf : Nat → Int32) (Af : Nat → Int32) (Nf : Nat → Int64) (x : Int) (y : Int) (w : Int) (cu : Int) (N : Int → Int) (hTI : (0 ≤ (Mfr : Int) ∧ (Mfr : Int) ≤ Men) ∧ ((Men : Int) ≤ Msz ∧ (Msz : Int) ≤ 900) ∧ (0 ≤ (Mtk : Int) ∧ (Mtk : Int) ≤ 4) ∧ ((Mtk : Int) ≤ 4 * (Men - Mfr)) ∧ (-1 ≤ (Mva : Int) ∧ (Mva : Int) ≤ 100000)) (hf0 : Mfs = 0) (hrf : RFX (tX Xf Msz) cu Mfr Men Mtk Mva) (h9x : 0 ≤ x ∧ x ≤ 30) (h9y : 0 ≤ y ∧ y ≤ 6) (h9w : 3560 ≤ w ∧ w < 5340) (hnr : xNr Nf x N y) : SD (σ := ((Int × Int × Int × Int × Int × Int × Int) × (Int64) × ((Nat → Int32)) × (Unit))) sa sv l yX12_oldOne cX12_oldOne 4 (some .boolean) 6 D k [.ref hm, .int (iZ x), .int (iZ y), .int (iZ w)] [(hm, .inr (12, [.ref Ma, .ref Mn, .int (iZ Mst), .long Mtp, .long Mbt, .ref Ms, .ref My, .ref Mt, .ref Mp, .ref Mx, .int (iZ Mtd), .int (iZ Msz), .int (iZ Mtk), .int (iZ Mfr), .int (iZ Men), .int (iZ Mva), .int (iZ Mfk), .int (iZ Mfp), .int (iZ Mfs), .int (iZ Mse), .int (iZ Mlt), .ref Mo, .int (iZ Mdp), .int (iZ Mct), .ref Mk, .ref Ml, .ref Mb, .ref Mh, .ref Mc, .int (iZ Mdr), .int (iZ Mrs), .ref Mz, .ref Mr, .ref Mq, .int (iZ Mit), .int (iZ Mmk)])), (Mx, .inl (k 0, 900, .inl Xf)), (Ma, .inl (k 1, 5340, .inl Af)), (Mn, .inl (k 2, 36, .inr (.inl Nf)))] (fun u => some (.int (iZ u.1.1))) (fun u => ((0 ≤ (u.1.2.2.1 : Int) ∧ (u.1.2.2.1 : Int) ≤ u.1.2.2.2.1) ∧ ((u.1.2.2.2.1 : Int) ≤ Msz ∧ (Msz : Int) ≤ 900) ∧ (0 ≤ (u.1.2.1 : Int) ∧ (u.1.2.1 : Int) ≤ 4) ∧ ((u.1.2.1 : Int) ≤ 4 * (u.1.2.2.2.1 - u.1.2.2.1)) ∧ (-1 ≤ (u.1.2.2.2.2.1 : Int) ∧ (u.1.2.2.2.2.1 : Int) ≤ 100000)) ∧ (0 ≤ (u.1.2.2.2.2.2.1 : Int) ∧ (u.1.2.2.2.2.2.1 : Int) ≤ 9) ∧ (((u.1.1 : Int) = 1 ∧ ∃ (q9 v9 : Int), xTr (tX Xf Msz) N y (-1) cu = .inr (q9, v9) ∧ cu < q9 ∧ RFX (tX Xf Msz) q9 u.1.2.2.1 u.1.2.2.2.1 u.1.2.1 u.1.2.2.2.2.1 ∧ (0 ≤ v9 ∧ v9 < y) ∧ u.2.2.1 = upd Af (iZ w).toNatClampNeg (iZ v9) ∧ (u.1.2.2.2.2.2.1 : Int) = 0 ∧ u.1.2.2.2.2.2.2 = Mfp) ∨ ((u.1.1 : Int) = 0 ∧ xTr (tX Xf Msz) N y (-1) cu = .inl (u.1.2.2.2.2.2.1, u.1.2.2.2.2.2.2) ∧ 1 ≤ (u.1.2.2.2.2.2.1 : Int))) ∧ ((u.1.1 : Int) = 0 → KP u.2.2.1 Af)) (fun u => [(hm, .inr (12, [.ref Ma, .ref Mn, .int (iZ Mst), .long Mtp, .long Mbt, .ref Ms, .ref My, .ref Mt, .ref Mp, .ref Mx, .int (iZ Mtd), .int (iZ Msz), .int (iZ u.1.2.1), .int (iZ u.1.2.2.1), .int (iZ u.1.2.2.2.1), .int (iZ u.1.2.2.2.2.1), .int (iZ Mfk), .int (iZ u.1.2.2.2.2.2.2), .int (iZ u.1.2.2.2.2.2.1), .int (iZ Mse), .int (iZ Mlt), .ref Mo, .int (iZ Mdp), .int (iZ Mct), .ref Mk, .ref Ml, .ref Mb, .ref Mh, .ref Mc, .int (iZ Mdr), .int (iZ Mrs), .ref Mz, .ref Mr, .ref Mq, .int (iZ Mit), .int (iZ Mmk)])), (Mx, .inl (k 0, 900, .inl Xf)), (Ma, .inl (k 1, 5340, .inl u.2.2.1)), (Mn, .inl (k 2, 36, .inr (.inl Nf)))]) := by
  refine MSS (by decide) (Nat.le_of_ble_eq_true rfl) (fun p e s m below meth c ls A hx hb hml hr hlocks hin hts hown hKK hP hD hS hA hSY hRR hl => ?_)
  have hK := hKK.1
  have hl : lv_has ls 4 [(0, .ref hm), (1, .int (iZ x)), (2, .int (iZ y)), (3, .int (iZ w))] := hl
  obtain ⟨⟨ar_1, br_1⟩, cr_1, dr_1, er_1, gr_1, hr_1⟩ := id hrf
  have kr_1 := tk_1 dr_1 (xKd_rg _ _)
  have wr_1 := xKw_rg (tX Xf Msz) cu
  refine lv_aload_n hx hb dX12_oldOne_0 rfl (lv_at hl 0 rfl) ?_
  refine va_ldcS hx hb hown hRR dX12_oldOne_1 ?_
  refine CSV (As := [.ref sa]) (rest := []) (wc := _) (wr := [(Ma, .inl (k 1, 5340, .inl Af)), (Mn, .inl (k 2, 36, .inr (.inl Nf)))]) hx hb hml hown hts hKK hP hD hS hA hSY hRR (y_isName l D k sa sv ([.ref Ma, .ref Mn, .int (iZ Mst), .long Mtp, .long Mbt, .ref Ms, .ref My, .ref Mt, .ref Mp, .ref Mx, .int (iZ Mtd), .int (iZ Msz), .int (iZ Mtk), .int (iZ Mfr), .int (iZ Men), .int (iZ Mva), .int (iZ Mfk), .int (iZ Mfp), .int (iZ Mfs), .int (iZ Mse), .int (iZ Mlt), .ref Mo, .int (iZ Mdp), .int (iZ Mct), .ref Mk, .ref Ml, .ref Mb, .ref Mh, .ref Mc, .int (iZ Mdr), .int (iZ Mrs), .ref Mz, .ref Mr, .ref Mq, .int (iZ Mit), .int (iZ Mmk)]) hm Mx Msz Mtk Mfr Men Xf cu rfl rfl rfl rfl rfl ⟨⟨⟨by omega, by omega⟩, by omega, by omega⟩, by omega, by omega⟩ ⟨⟨br_1, cr_1⟩, dr_1, gr_1⟩) ci_X12_isName qm_X12_177 ⟨Nat.le_of_ble_eq_true rfl, Nat.le_of_ble_eq_true rfl⟩ ⟨Nat.le_of_ble_eq_true rfl, Nat.le_of_ble_eq_true rfl⟩ [0, 1] [2, 3] rfl rfl rfl rfl rfl (dj rfl) 0 rfl rfl rfl hl.1 rfl (Nat.le_of_ble_eq_true rfl) dX12_oldOne_3 (fun u_2 H locs hφ hP hD hS => ?_)
  have p_3 : ((u_2.1 : Int) = 1 ∧ xIn (tX Xf Msz) cu) ∨ ((u_2.1 : Int) = 0 ∧ ¬ xIn (tX Xf Msz) cu) := hφ
  refine W.eq (g2 := F0 m 6 ls [.int (iZ u_2.1)]) rfl ?_
  rcases p_3 with ⟨qt_4, it_4⟩ | ⟨qt_4, it_4⟩
  ·
    rw [qt_4]
    have lnn_5 := mt (xNm_m1 (T := (tX Xf Msz)) (p := cu) (gr_1 (by have := it_4.1; omega)) (by omega)).mpr it_4.2.2
    have tnn_5 : xLet (tX Xf Msz) Mfr (Men - Mfr).toNat := by have h9 := gr_1 (by have := it_4.1; omega); unfold xLn at h9; rw [← br_1, ← cr_1] at h9; exact h9
    have nnn_5 : xNm (tX Xf Msz) cu = xCd (tX Xf Msz) Mfr (Men - Mfr).toNat := by unfold xNm xCw; rw [if_pos (by omega), ← br_1, ← cr_1]
    refine lv_if_ne (tgt := 15) hx hb dX12_oldOne_6 rfl (fun _ => ?_) (fun c => absurd c (by decide))
    refine lv_aload_n hx hb dX12_oldOne_15 rfl (lv_at hl 0 rfl) ?_
    refine va_get (D := D) (ci := 12) (v := .ref Ma) (C := RX12) (T := TX12) (N := 36) hx hb hts iX12 hown hK hP 2 rfl rfl 0 (bl rfl) (hts _ qf_X12_7) (fun _ h => h) rfl dX12_oldOne_16 ?_
    refine lv_iload_n hx hb dX12_oldOne_19 rfl (lv_at hl 3 rfl) ?_
    refine lv_aload_n hx hb dX12_oldOne_20 rfl (lv_at hl 0 rfl) ?_
    refine lv_iload_n hx hb dX12_oldOne_21 rfl (lv_at hl 1 rfl) ?_
    refine lv_iload_n hx hb dX12_oldOne_22 rfl (lv_at hl 2 rfl) ?_
    refine CWV (As := [.int (iZ x), .int (iZ y)]) (rest := [.int (iZ w), .ref Ma]) (wc := _) (wr := [(Ma, .inl (k 1, 5340, .inl Af))]) hx hb hml hown hts hKK hP hD hS hA (y_findHere l D k ([.ref Ma, .ref Mn, .int (iZ Mst), .long Mtp, .long Mbt, .ref Ms, .ref My, .ref Mt, .ref Mp, .ref Mx, .int (iZ Mtd), .int (iZ Msz), .int (iZ Mtk), .int (iZ Mfr), .int (iZ Men), .int (iZ Mva), .int (iZ Mfk), .int (iZ Mfp), .int (iZ Mfs), .int (iZ Mse), .int (iZ Mlt), .ref Mo, .int (iZ Mdp), .int (iZ Mct), .ref Mk, .ref Ml, .ref Mb, .ref Mh, .ref Mc, .int (iZ Mdr), .int (iZ Mrs), .ref Mz, .ref Mr, .ref Mq, .int (iZ Mit), .int (iZ Mmk)]) hm Mx Mn Msz Mfr Men x y cu Xf Nf N rfl rfl rfl rfl rfl ⟨⟨by omega, by omega⟩, by omega, by omega⟩ ⟨by omega, tnn_5⟩ ⟨by omega, by omega⟩ ⟨by omega, by omega⟩ ⟨hnr, nnn_5⟩) ci_X12_findHere qm_X12_181 ⟨Nat.le_of_ble_eq_true rfl, Nat.le_of_ble_eq_true rfl⟩ ⟨Nat.le_of_ble_eq_true rfl, Nat.le_of_ble_eq_true rfl⟩ [2, 3, 1] [0] rfl rfl rfl rfl rfl (dj rfl) 0 rfl rfl rfl hl.1 rfl (Nat.le_of_ble_eq_true rfl) dX12_oldOne_23 (fun u_7 H locs hφ hP hD hS => ?_)
    obtain ⟨p_8, p_9⟩ : (u_7.1 = xFn N y (xNm (tX Xf Msz) cu)) ∧ (-1 ≤ u_7.1 ∧ (u_7.1 < y ∨ u_7.1 = -1)) := hφ
    refine W.eq (g2 := F0 m 26 ls [.int (iZ u_7.1), .int (iZ w), .ref Ma]) rfl ?_
    refine va_iast hx hb hK hP hD hS 0 1 rfl rfl (zin (e := w) (n := 5340) ⟨by omega, by omega⟩ (bl rfl)) dX12_oldOne_26 (fun H locs hP hD hS => ?_)
    obtain ⟨f_10, hf_10⟩ : ∃ gg9, gg9 = upd Af (iZ w).toNatClampNeg (iZ u_7.1) := ⟨_, rfl⟩
    rw [← hf_10] at hP hD
    refine lv_aload_n hx hb dX12_oldOne_27 rfl (lv_at hl 0 rfl) ?_
    refine va_get (D := D) (ci := 12) (v := .ref Ma) (C := RX12) (T := TX12) (N := 36) hx hb hts iX12 hown hK hP 1 rfl rfl 0 (bl rfl) (hts _ qf_X12_7) (fun _ h => h) rfl dX12_oldOne_28 ?_
    refine lv_iload_n hx hb dX12_oldOne_31 rfl (lv_at hl 3 rfl) ?_
    refine va_iald hx hb hK hP 0 1 rfl rfl (zin (e := w) (n := 5340) ⟨by omega, by omega⟩ (bl rfl)) dX12_oldOne_32 ?_
    refine lv_topi (fun x_11 ex_11 => ?_)
    obtain rfl : x_11 = iZ (gz f_10 w) := ex_11.trans (gz_eq ⟨by omega, by omega⟩)
    have h_12 := gz_rg f_10 w
    have uh_12 := gz_up hf_10 ⟨by omega, by omega⟩ ⟨by omega, by omega⟩ (j := w) (by omega)
    rw [if_pos rfl] at uh_12
    refine lv_iconst (v := iZ (-1)) hx hb dX12_oldOne_33 rfl ?_
    refine lv_icmp_ne (tgt := 43) hx hb dX12_oldOne_34 rfl (fun c_13 => ?_) (fun c_13 => ?_)
    ·
      have c_13 := mt (zeq (x := iZ (gz f_10 w)) (y := iZ (-1)) rfl rfl (gz_rg f_10 w) wn_m1).mpr c_13
      refine lv_aload_n hx hb dX12_oldOne_43 rfl (lv_at hl 0 rfl) ?_
      refine CWV (As := []) (rest := []) (wc := _) (wr := [(Ma, .inl (k 1, 5340, .inl f_10)), (Mn, .inl (k 2, 36, .inr (.inl Nf)))]) hx hb hml hown hts hKK hP hD hS hA (y_onward l D k hm Ma Mn Ms My Mt Mp Mx Mo Mk Ml Mb Mh Mc Mz Mr Mq Mst Mtd Msz Mtk Mfr Men Mva Mfk Mfp Mfs Mse Mlt Mdp Mct Mdr Mrs Mit Mmk Mtp Mbt Xf ⟨⟨by omega, by omega⟩, by omega⟩) ci_X12_onward qm_X12_158 ⟨Nat.le_of_ble_eq_true rfl, Nat.le_of_ble_eq_true rfl⟩ ⟨Nat.le_of_ble_eq_true rfl, Nat.le_of_ble_eq_true rfl⟩ [1, 2] [0, 3] rfl rfl rfl rfl rfl (dj rfl) 0 rfl rfl rfl hl.1 rfl (Nat.le_of_ble_eq_true rfl) dX12_oldOne_44 (fun u_14 H locs hφ hP hD hS => ?_)
      obtain ⟨p_15, p_16, p_17⟩ : (RFX (tX Xf Msz) Men u_14.1.2.2.1 u_14.1.2.2.2.1 u_14.1.2.1 u_14.1.2.2.2.2) ∧ ((0 ≤ (u_14.1.2.2.1 : Int) ∧ (u_14.1.2.2.1 : Int) ≤ u_14.1.2.2.2.1) ∧ ((u_14.1.2.2.2.1 : Int) ≤ Msz ∧ (Msz : Int) ≤ 900) ∧ (0 ≤ (u_14.1.2.1 : Int) ∧ (u_14.1.2.1 : Int) ≤ 4) ∧ ((u_14.1.2.1 : Int) ≤ 4 * (u_14.1.2.2.2.1 - u_14.1.2.2.1)) ∧ (-1 ≤ (u_14.1.2.2.2.2 : Int) ∧ (u_14.1.2.2.2.2 : Int) ≤ 100000)) ∧ (Men ≤ u_14.1.2.2.1) := hφ
      have rx_18 := RFX.nx hrf p_15
      obtain ⟨⟨ar_19, br_19⟩, cr_19, dr_19, er_19, gr_19, hr_19⟩ := id rx_18
      have kr_19 := tk_1 dr_19 (xKd_rg _ _)
      have wr_19 := xKw_rg (tX Xf Msz) (xEn (tX Xf Msz) cu)
      refine W.eq (g2 := F0 m 47 ls []) rfl ?_
      refine lv_iconst (v := iZ 1) hx hb dX12_oldOne_47 rfl ?_
      have hrk : xRk (tX Xf Msz) N y cu = u_7.1 := by unfold xRk; rw [if_pos it_4]; exact p_8.symm
      exact EWz hx hb hr hlocks hS ((1, u_14.1.2.1, u_14.1.2.2.1, u_14.1.2.2.2.1, u_14.1.2.2.2.2, Mfs, Mfp), 0, f_10, ()) rfl rfl ⟨(show (0 ≤ (u_14.1.2.2.1 : Int) ∧ (u_14.1.2.2.1 : Int) ≤ u_14.1.2.2.2.1) ∧ ((u_14.1.2.2.2.1 : Int) ≤ Msz ∧ (Msz : Int) ≤ 900) ∧ (0 ≤ (u_14.1.2.1 : Int) ∧ (u_14.1.2.1 : Int) ≤ 4) ∧ ((u_14.1.2.1 : Int) ≤ 4 * (u_14.1.2.2.2.1 - u_14.1.2.2.1)) ∧ (-1 ≤ (u_14.1.2.2.2.2 : Int) ∧ (u_14.1.2.2.2.2 : Int) ≤ 100000) from (by first | with_reducible assumption | exact ⟨⟨by omega, by omega⟩, ⟨by omega, by omega⟩, ⟨by omega, by omega⟩, by omega, by omega, by omega⟩)), (show 0 ≤ (Mfs : Int) ∧ (Mfs : Int) ≤ 9 from (by omega)), (show ((1 : Int) = 1 ∧ ∃ (q9 v9 : Int), xTr (tX Xf Msz) N y (-1) cu = .inr (q9, v9) ∧ cu < q9 ∧ RFX (tX Xf Msz) q9 u_14.1.2.2.1 u_14.1.2.2.2.1 u_14.1.2.1 u_14.1.2.2.2.2 ∧ (0 ≤ v9 ∧ v9 < y) ∧ f_10 = upd Af (iZ w).toNatClampNeg (iZ v9) ∧ (Mfs : Int) = 0 ∧ Mfp = Mfp) ∨ ((1 : Int) = 0 ∧ xTr (tX Xf Msz) N y (-1) cu = .inl (Mfs, Mfp) ∧ 1 ≤ (Mfs : Int)) from (Or.inl ⟨rfl, xEn (tX Xf Msz) cu, u_7.1, by unfold xTr; rw [if_neg (show ¬ xRk (tX Xf Msz) N y cu = -1 from (by omega)), if_neg (show ¬ xRk (tX Xf Msz) N y cu = -1 from (by omega)), hrk], by have := it_4.1; omega, rx_18, ⟨by omega, by omega⟩, hf_10, by omega, rfl⟩)), (show (1 : Int) = 0 → KP f_10 Af from (fun h => absurd (show (1 : Int) = 0 from h) (by decide)))⟩ (hP.sub [2, 3, 0, 1] rfl) (hD.sub [2, 3, 0, 1] rfl rfl) dX12_oldOne_48
    ·
      have c_13 := (zeq (x := iZ (gz f_10 w)) (y := iZ (-1)) rfl rfl (gz_rg f_10 w) wn_m1).mp c_13
      refine lv_aload_n hx hb dX12_oldOne_37 rfl (lv_at hl 0 rfl) ?_
      refine lv_iconst (v := iZ 3) hx hb dX12_oldOne_38 rfl ?_
      refine CWV (As := [.int (iZ 3)]) (rest := []) (wc := _) (wr := [(Ma, .inl (k 1, 5340, .inl f_10)), (Mn, .inl (k 2, 36, .inr (.inl Nf)))]) hx hb hml hown hts hKK hP hD hS hA (y_fails l D k hm Ma Mn Ms My Mt Mp Mx Mo Mk Ml Mb Mh Mc Mz Mr Mq Mst Mtd Msz Mtk Mfr Men Mva Mfk Mfp Mfs Mse Mlt Mdp Mct Mdr Mrs Mit Mmk Mtp Mbt Xf 3 cu ⟨by omega, by omega⟩ (by omega) hrf) ci_X12_fails qm_X12_164 ⟨Nat.le_of_ble_eq_true rfl, Nat.le_of_ble_eq_true rfl⟩ ⟨Nat.le_of_ble_eq_true rfl, Nat.le_of_ble_eq_true rfl⟩ [1, 2] [0, 3] rfl rfl rfl rfl rfl (dj rfl) 0 rfl rfl rfl hl.1 rfl (Nat.le_of_ble_eq_true rfl) dX12_oldOne_39 (fun u_20 H locs hφ hP hD hS => ?_)
      obtain ⟨p_21, p_22⟩ : (u_20.1.2.1 = xFl (tX Xf Msz) cu 3 ∧ u_20.1.2.2 = xPl (tX Xf Msz) cu) ∧ (1 ≤ (u_20.1.2.1 : Int) ∧ (u_20.1.2.1 : Int) ≤ 9) := hφ
      refine W.eq (g2 := F0 m 42 ls [.int (iZ 0)]) rfl ?_
      have hrk : xRk (tX Xf Msz) N y cu = -1 := by unfold xRk; rw [if_pos it_4, ← p_8]; omega
      exact EWz hx hb hr hlocks hS ((0, Mtk, Mfr, Men, Mva, u_20.1.2.1, u_20.1.2.2), 0, f_10, ()) rfl rfl ⟨(show (0 ≤ (Mfr : Int) ∧ (Mfr : Int) ≤ Men) ∧ ((Men : Int) ≤ Msz ∧ (Msz : Int) ≤ 900) ∧ (0 ≤ (Mtk : Int) ∧ (Mtk : Int) ≤ 4) ∧ ((Mtk : Int) ≤ 4 * (Men - Mfr)) ∧ (-1 ≤ (Mva : Int) ∧ (Mva : Int) ≤ 100000) from (by first | with_reducible assumption | exact ⟨⟨by omega, by omega⟩, ⟨by omega, by omega⟩, ⟨by omega, by omega⟩, by omega, by omega, by omega⟩)), (show 0 ≤ (u_20.1.2.1 : Int) ∧ (u_20.1.2.1 : Int) ≤ 9 from (by omega)), (show ((0 : Int) = 1 ∧ ∃ (q9 v9 : Int), xTr (tX Xf Msz) N y (-1) cu = .inr (q9, v9) ∧ cu < q9 ∧ RFX (tX Xf Msz) q9 Mfr Men Mtk Mva ∧ (0 ≤ v9 ∧ v9 < y) ∧ f_10 = upd Af (iZ w).toNatClampNeg (iZ v9) ∧ (u_20.1.2.1 : Int) = 0 ∧ u_20.1.2.2 = Mfp) ∨ ((0 : Int) = 0 ∧ xTr (tX Xf Msz) N y (-1) cu = .inl (u_20.1.2.1, u_20.1.2.2) ∧ 1 ≤ (u_20.1.2.1 : Int)) from (Or.inr ⟨rfl, by unfold xTr xEr; rw [if_pos hrk, if_pos it_4, p_21.1, p_21.2], by omega⟩)), (show (0 : Int) = 0 → KP f_10 Af from (fun _ => KP.up hf_10 ⟨by omega, by omega⟩ ⟨by omega, by omega⟩))⟩ (hP.sub [2, 3, 0, 1] rfl) (hD.sub [2, 3, 0, 1] rfl rfl) dX12_oldOne_42
  ·
    rw [qt_4]
    refine lv_if_ne (tgt := 15) hx hb dX12_oldOne_6 rfl (fun c => absurd (by decide) c) (fun _ => ?_)
    refine lv_aload_n hx hb dX12_oldOne_9 rfl (lv_at hl 0 rfl) ?_
    refine lv_iconst (v := iZ 2) hx hb dX12_oldOne_10 rfl ?_
    refine CWV (As := [.int (iZ 2)]) (rest := []) (wc := _) (wr := [(Ma, .inl (k 1, 5340, .inl Af)), (Mn, .inl (k 2, 36, .inr (.inl Nf)))]) hx hb hml hown hts hKK hP hD hS hA (y_fails l D k hm Ma Mn Ms My Mt Mp Mx Mo Mk Ml Mb Mh Mc Mz Mr Mq Mst Mtd Msz Mtk Mfr Men Mva Mfk Mfp Mfs Mse Mlt Mdp Mct Mdr Mrs Mit Mmk Mtp Mbt Xf 2 cu ⟨by omega, by omega⟩ (by omega) hrf) ci_X12_fails qm_X12_164 ⟨Nat.le_of_ble_eq_true rfl, Nat.le_of_ble_eq_true rfl⟩ ⟨Nat.le_of_ble_eq_true rfl, Nat.le_of_ble_eq_true rfl⟩ [2, 3] [0, 1] rfl rfl rfl rfl rfl (dj rfl) 0 rfl rfl rfl hl.1 rfl (Nat.le_of_ble_eq_true rfl) dX12_oldOne_11 (fun u_24 H locs hφ hP hD hS => ?_)
    obtain ⟨p_25, p_26⟩ : (u_24.1.2.1 = xFl (tX Xf Msz) cu 2 ∧ u_24.1.2.2 = xPl (tX Xf Msz) cu) ∧ (1 ≤ (u_24.1.2.1 : Int) ∧ (u_24.1.2.1 : Int) ≤ 9) := hφ
    refine W.eq (g2 := F0 m 14 ls [.int (iZ 0)]) rfl ?_
    exact EWz hx hb hr hlocks hS ((0, Mtk, Mfr, Men, Mva, u_24.1.2.1, u_24.1.2.2), 0, Af, ()) rfl rfl ⟨(show (0 ≤ (Mfr : Int) ∧ (Mfr : Int) ≤ Men) ∧ ((Men : Int) ≤ Msz ∧ (Msz : Int) ≤ 900) ∧ (0 ≤ (Mtk : Int) ∧ (Mtk : Int) ≤ 4) ∧ ((Mtk : Int) ≤ 4 * (Men - Mfr)) ∧ (-1 ≤ (Mva : Int) ∧ (Mva : Int) ≤ 100000) from (by first | with_reducible assumption | exact ⟨⟨by omega, by omega⟩, ⟨by omega, by omega⟩, ⟨by omega, by omega⟩, by omega, by omega, by omega⟩)), (show 0 ≤ (u_24.1.2.1 : Int) ∧ (u_24.1.2.1 : Int) ≤ 9 from (by omega)), (show ((0 : Int) = 1 ∧ ∃ (q9 v9 : Int), xTr (tX Xf Msz) N y (-1) cu = .inr (q9, v9) ∧ cu < q9 ∧ RFX (tX Xf Msz) q9 Mfr Men Mtk Mva ∧ (0 ≤ v9 ∧ v9 < y) ∧ Af = upd Af (iZ w).toNatClampNeg (iZ v9) ∧ (u_24.1.2.1 : Int) = 0 ∧ u_24.1.2.2 = Mfp) ∨ ((0 : Int) = 0 ∧ xTr (tX Xf Msz) N y (-1) cu = .inl (u_24.1.2.1, u_24.1.2.2) ∧ 1 ≤ (u_24.1.2.1 : Int)) from (Or.inr ⟨rfl, by unfold xTr xEr; rw [if_pos (show xRk (tX Xf Msz) N y cu = -1 from (by unfold xRk; rw [if_neg it_4])), if_neg it_4, p_25.1, p_25.2], by omega⟩)), (show (0 : Int) = 0 → KP Af Af from (fun _ => KP.rf _))⟩ (hP.sub [2, 3, 0, 1] rfl) (hD.sub [2, 3, 0, 1] rfl rfl) dX12_oldOne_14
end

section
/-- what the reference has read of a sky -/
def MSX (f : Nat → Int32) (n ni lw we : Int) (F G : Int → Int) : Prop := gz f 3560 = n ∧ gz f 3561 = ni ∧ gz f 3562 = lw ∧ gz f 3678 = we ∧ xRw (sh f 3570) F 36 ∧ xRw (sh f 3606) G (ni * 4)
theorem MSX.keep {f g : Nat → Int32} {n ni lw we e v : Int} {F G : Int → Int} (h : MSX f n ni lw we F G) (hg : g = upd f (iZ e).toNatClampNeg (iZ v)) (hv : -2147483648 ≤ v ∧ v < 2147483648) (hni : 0 ≤ ni ∧ ni ≤ 8) (he : 0 ≤ e ∧ e < 2147483648) : (¬ e = 3560 → gz g 3560 = n) ∧ (¬ e = 3561 → gz g 3561 = ni) ∧ (¬ e = 3562 → gz g 3562 = lw) ∧ (¬ e = 3678 → gz g 3678 = we) ∧ (e < 3570 ∨ 3606 ≤ e → xRw (sh g 3570) F 36) ∧ (e < 3606 ∨ 3606 + ni * 4 ≤ e → xRw (sh g 3606) G (ni * 4)) := by
  obtain ⟨a, b, c, d, hF, hG⟩ := h
  have q := fun j hj => gz_upc (j := j) hg he hv hj
  have q0 := q 3560 (by omega)
  have q1 := q 3561 (by omega)
  have q2 := q 3562 (by omega)
  have q3 := q 3678 (by omega)
  refine ⟨fun _ => by omega, fun _ => by omega, fun _ => by omega, fun _ => by omega, fun h j h1 h2 => ?_, fun h j h1 h2 => ?_⟩
  · have := hF j h1 h2
    rw [gz_sh (by omega) h1] at this ⊢
    have := q (3570 + j) (by omega)
    omega
  · have := hG j h1 h2
    rw [gz_sh (by omega) h1] at this ⊢
    have := q (3606 + j) (by omega)
    omega
theorem MSX.upF {f g : Nat → Int32} {n ni lw we e v w : Int} {F G : Int → Int} (h : MSX f n ni lw we F G) (hg : g = upd f (iZ e).toNatClampNeg (iZ v)) (he : e = 3570 + ((n * 6) + w)) (hn : 0 ≤ n ∧ n < 6) (hw : 0 ≤ w ∧ w < 6) (hv : -2147483648 ≤ v ∧ v < 2147483648) (hni : 0 ≤ ni ∧ ni ≤ 8) : MSX g n ni lw we (xUp F ((n * 6) + w) v) G := by
  obtain ⟨k0, k1, k2, k3, k4, k5⟩ := h.keep hg hv hni ⟨by omega, by omega⟩
  exact ⟨k0 (by omega), k1 (by omega), k2 (by omega), k3 (by omega), xRw.up h.2.2.2.2.1 (sh_up hg (by omega) (by omega) ⟨he, by omega⟩) ⟨by omega, by omega⟩ hv, k5 (by omega)⟩
theorem MSX.we {f g : Nat → Int32} {n ni lw we v : Int} {F G : Int → Int} (h : MSX f n ni lw we F G) (hg : g = upd f (iZ 3678).toNatClampNeg (iZ v)) (hv : -2147483648 ≤ v ∧ v < 2147483648) (hni : 0 ≤ ni ∧ ni ≤ 8) : MSX g n ni lw v F G := by
  obtain ⟨k0, k1, k2, k3, k4, k5⟩ := h.keep hg hv hni ⟨by omega, by omega⟩
  have q := gz_upc (j := 3678) hg (by omega) hv (by omega)
  exact ⟨k0 (by omega), k1 (by omega), k2 (by omega), by omega, k4 (by omega), k5 (by omega)⟩
theorem MSX.n {f g : Nat → Int32} {n ni lw we v : Int} {F G : Int → Int} (h : MSX f n ni lw we F G) (hg : g = upd f (iZ 3560).toNatClampNeg (iZ v)) (hv : -2147483648 ≤ v ∧ v < 2147483648) (hni : 0 ≤ ni ∧ ni ≤ 8) : MSX g v ni lw we F G := by
  obtain ⟨k0, k1, k2, k3, k4, k5⟩ := h.keep hg hv hni ⟨by omega, by omega⟩
  have q := gz_upc (j := 3560) hg (by omega) hv (by omega)
  exact ⟨by omega, k1 (by omega), k2 (by omega), k3 (by omega), k4 (by omega), k5 (by omega)⟩
theorem MSX.lw {f g : Nat → Int32} {n ni lw we v : Int} {F G : Int → Int} (h : MSX f n ni lw we F G) (hg : g = upd f (iZ 3562).toNatClampNeg (iZ v)) (hv : -2147483648 ≤ v ∧ v < 2147483648) (hni : 0 ≤ ni ∧ ni ≤ 8) : MSX g n ni v we F G := by
  obtain ⟨k0, k1, k2, k3, k4, k5⟩ := h.keep hg hv hni ⟨by omega, by omega⟩
  have q := gz_upc (j := 3562) hg (by omega) hv (by omega)
  exact ⟨k0 (by omega), k1 (by omega), by omega, k3 (by omega), k4 (by omega), k5 (by omega)⟩
theorem MSX.ic {f g : Nat → Int32} {n ni lw we e v : Int} {F G : Int → Int} (h : MSX f n ni lw we F G) (hg : g = upd f (iZ e).toNatClampNeg (iZ v)) (hv : -2147483648 ≤ v ∧ v < 2147483648) (hni : 0 ≤ ni ∧ ni ≤ 8) (he : 3606 + ni * 4 ≤ e ∧ e < 3678) : MSX g n ni lw we F G := by
  obtain ⟨k0, k1, k2, k3, k4, k5⟩ := h.keep hg hv hni ⟨by omega, by omega⟩
  exact ⟨k0 (by omega), k1 (by omega), k2 (by omega), k3 (by omega), k4 (by omega), k5 (by omega)⟩
theorem MSX.ni {f g : Nat → Int32} {n ni lw we a b c d : Int} {F G : Int → Int} (h : MSX f n ni lw we F G) (hg : g = upd f (iZ 3561).toNatClampNeg (iZ (ni + 1))) (hni : 0 ≤ ni ∧ ni < 8) (ha : gz f (3606 + (4 * ni)) = a) (hb : gz f ((3606 + (4 * ni)) + 1) = b) (hc : gz f ((3606 + (4 * ni)) + 2) = c) (hd : gz f ((3606 + (4 * ni)) + 3) = d) : MSX g n (ni + 1) lw we F (xUp (xUp (xUp (xUp G ((ni * 4) + 0) a) ((ni * 4) + 1) b) ((ni * 4) + 2) c) ((ni * 4) + 3) d) := by
  obtain ⟨k0, k1, k2, k3, k4, k5⟩ := h.keep hg ⟨by omega, by omega⟩ (by omega) ⟨by omega, by omega⟩
  have q := fun j hj => gz_upc (j := j) hg (by omega) ⟨by omega, by omega⟩ hj
  have q1 := q 3561 (by omega)
  refine ⟨k0 (by omega), by omega, k2 (by omega), k3 (by omega), k4 (by omega), fun j h1 h2 => ?_⟩
  have q2 := q (3606 + j) (by omega)
  have e : gz (sh g 3606) j = gz f (3606 + j) := by rw [gz_sh (by omega) h1]; omega
  rw [e]
  unfold xUp
  by_cases c3 : j = (ni * 4) + 3
  · rw [if_pos c3, ← hd]; congr 1; omega
  · rw [if_neg c3]
    by_cases c2 : j = (ni * 4) + 2
    · rw [if_pos c2, ← hc]; congr 1; omega
    · rw [if_neg c2]
      by_cases c1 : j = (ni * 4) + 1
      · rw [if_pos c1, ← hb]; congr 1; omega
      · rw [if_neg c1]
        by_cases c0 : j = (ni * 4) + 0
        · rw [if_pos c0, ← ha]; congr 1; omega
        · rw [if_neg c0]
          have := h.2.2.2.2.2 j h1 (by omega)
          rw [gz_sh (by omega) h1] at this
          exact this
theorem xTr_no {T : Int → Int} {N : Int → Int} {n a cu : Int} (h : ¬ (xIn T cu ∧ xFn N n (xNm T cu) = a)) (ha : ¬ a = -1) : xTr T N n a cu = xTr T N n (-1) cu := by
  unfold xTr
  by_cases g : xRk T N n cu = -1
  · rw [if_pos g, if_pos g]
  · rw [if_neg g, if_neg g, if_neg g, if_neg]
    intro e
    by_cases i : xIn T cu
    · unfold xRk at e; rw [if_pos i] at e; exact h ⟨i, e⟩
    · exact g (by unfold xRk; rw [if_neg i])
theorem xTr_tw {T : Int → Int} {N : Int → Int} {n a cu : Int} (i : xIn T cu) (h : xFn N n (xNm T cu) = a) (ha : ¬ a = -1) : xTr T N n a cu = .inl (xEr T cu 5) := by
  have e : xRk T N n cu = a := by unfold xRk; rw [if_pos i]; exact h
  unfold xTr
  rw [if_neg (by rw [e]; exact ha), if_pos e]
theorem xTw_1 {T : Int → Int} {w c q : Int} (h : xKw T c = w) (hq : q = xEn T c) : xTw T w c = .inr q := by
  unfold xTw
  rw [if_pos h, hq]
noncomputable def xR2 (T : Int → Int) (n we c : Int) (F : Int → Int) : (Int × Int) ⊕ (Int × Int × (Int → Int)) := xBn (xFF T 3 2 0 11 n c F) fun b => xR3 T n we b.1 b.2
noncomputable def xR1 (T : Int → Int) (n we c : Int) (F : Int → Int) : (Int × Int) ⊕ (Int × Int × (Int → Int)) := xBn (xFF T 2 1 1 99 n c F) fun b => xR2 T n we b.1 b.2
theorem xRock_1 {T : Int → Int} {N F F1 : Int → Int} {n we c q q1 : Int} (hn : ¬ 6 ≤ n) (h0 : xNn T N n (xEn T c) = .inr q) (h1 : xFF T 1 0 0 20 n q F = .inr (q1, F1)) : xRock T N n we F c = xR1 T n we q1 F1 := by
  unfold xRock
  rw [if_neg hn, xBn_r h0, xBn_r h1]
  rfl
theorem xR1_r {T : Int → Int} {n we c q : Int} {F G : Int → Int} (h : xFF T 2 1 1 99 n c F = .inr (q, G)) : xR1 T n we c F = xR2 T n we q G := by
  unfold xR1
  rw [xBn_r h]
theorem xR1_l {T : Int → Int} {n we c : Int} {F : Int → Int} {e : Int × Int} (h : xFF T 2 1 1 99 n c F = .inl e) : xR1 T n we c F = .inl e := by
  unfold xR1
  rw [xBn_l h]
theorem xR2_r {T : Int → Int} {n we c q : Int} {F G : Int → Int} (h : xFF T 3 2 0 11 n c F = .inr (q, G)) : xR2 T n we c F = xR3 T n we q G := by
  unfold xR2
  rw [xBn_r h]
theorem xR2_l {T : Int → Int} {n we c : Int} {F : Int → Int} {e : Int × Int} (h : xFF T 3 2 0 11 n c F = .inl e) : xR2 T n we c F = .inl e := by
  unfold xR2
  rw [xBn_l h]
theorem xWe_1q {T : Int → Int} {n we c q w : Int} (h : xKw T c = 7) (hq : q = xEn T c) (hw : w = xOr we n) : xWe T n we c = (q, w) := by
  unfold xWe
  rw [if_pos h, hq, hw]
theorem xWe_0q {T : Int → Int} {n we c w : Int} (h : ¬ xKw T c = 7) (hw : w = we) : xWe T n we c = (c, w) := by
  unfold xWe
  rw [if_neg h, hw]
end

section
theorem SKX.cpy {s : XS} {n ni lw we : Int} {f g f' g' : Nat → Int32} {nf nf' : Nat → Int64} (h : SKX s n ni lw we f g nf) (h1 : CPL nf' nf 6) (h2 : CPY f' f 36) (h3 : CPY g' g 32) (hn : n ≤ 6) (hni : ni ≤ 8) : SKX s n ni lw we f' g' nf' := by
  obtain ⟨a, b, c, d, hF, hG, hN⟩ := h
  exact ⟨a, b, c, d, fun e p q => (h2 e p q).trans (hF e p q), fun e p q => (h3 e p (by omega)).trans (hG e p q), fun e p q => by rw [h1 e p (by omega)]; exact hN e p q⟩
/-- the reference's cells from a place on hold what was read -/
def SKM (s : XS) (A : Nat → Int32) (b : Int) : Prop := (gz A b = s.1 ∧ gz A (b + 1) = s.2.1 ∧ gz A (b + 2) = s.2.2.1) ∧ (∀ e : Int, 0 ≤ e → e < 36 → gz A (b + 10 + e) = s.2.2.2.2.2.1 e) ∧ ∀ e : Int, 0 ≤ e → e < s.2.1 * 4 → gz A (b + 46 + e) = s.2.2.2.2.2.2.1 e
/-- the skies of both sides are the same -/
def SKE (n ni lw : Int) (f g A : Nat → Int32) (b : Int) : Prop := (gz A b = n ∧ gz A (b + 1) = ni ∧ gz A (b + 2) = lw) ∧ (∀ e : Int, 0 ≤ e → e < 36 → gz f e = gz A (b + 10 + e)) ∧ ∀ e : Int, 0 ≤ e → e < ni * 4 → gz g e = gz A (b + 46 + e)
def SKI (i mk n ni lw : Int) (f g A : Nat → Int32) (b : Int) : Prop := i < mk → SKE n ni lw f g A b
theorem SKE.of {s : XS} {n ni lw we : Int} {f g A : Nat → Int32} {nf : Nat → Int64} {b : Int} (h : SKX s n ni lw we f g nf) (k : SKM s A b) : SKE n ni lw f g A b := by
  obtain ⟨a1, a2, a3, -, hF, hG, -⟩ := h
  obtain ⟨⟨k1, k2, k3⟩, kF, kG⟩ := k
  exact ⟨⟨k1.trans a1, k2.trans a2, k3.trans a3⟩, fun e p q => (hF e p q).trans (kF e p q).symm, fun e p q => (hG e p q).trans (kG e p (by rw [a2]; exact q)).symm⟩
theorem SKE.z {n ni lw : Int} {f g A : Nat → Int32} (h : SKE n ni lw f g A 0) : gz A 0 = n ∧ gz A 1 = ni ∧ gz A 2 = lw := by
  obtain ⟨⟨a, b, c⟩, -, -⟩ := h
  exact ⟨a, (congrArg (gz A) (show (1 : Int) = 0 + 1 by decide)).trans b, (congrArg (gz A) (show (2 : Int) = 0 + 2 by decide)).trans c⟩
theorem SKE.mv {n ni lw b c : Int} {f g f' g' A B : Nat → Int32} (h : SKE n ni lw f g A b) (k : ∀ e : Int, 0 ≤ e → e < 890 → gz B (c + e) = gz A (b + e)) (hf : CPY f' f 36) (hg : CPY g' g 32) (hni : ni ≤ 8) : SKE n ni lw f' g' B c := by
  obtain ⟨⟨h1, h2, h3⟩, hF, hG⟩ := h
  refine ⟨⟨?_, (k 1 (by omega) (by omega)).trans h2, (k 2 (by omega) (by omega)).trans h3⟩, fun e p q => ?_, fun e p q => ?_⟩
  · have := k 0 (by omega) (by omega)
    rw [show c + 0 = c by omega, show b + 0 = b by omega] at this
    exact this.trans h1
  · rw [hf e p q, hF e p q, show c + 10 + e = c + (10 + e) by omega, show b + 10 + e = b + (10 + e) by omega]
    exact (k (10 + e) (by omega) (by omega)).symm
  · rw [hg e p (by omega), hG e p q, show c + 46 + e = c + (46 + e) by omega, show b + 46 + e = b + (46 + e) by omega]
    exact (k (46 + e) (by omega) (by omega)).symm
theorem CPY.rf (f : Nat → Int32) (n : Int) : CPY f f n := fun _ _ _ => rfl
theorem SKE.keep {n ni lw b : Int} {f g A B : Nat → Int32} (h : SKE n ni lw f g A b) (k : ∀ e : Int, b ≤ e → e < b + 890 → gz B e = gz A e) (hni : ni ≤ 8) : SKE n ni lw f g B b := h.mv (fun e p q => k (b + e) (by omega) (by omega)) (CPY.rf f 36) (CPY.rf g 32) hni
theorem SKE.lo {n ni lw : Int} {f g A B : Nat → Int32} (h : SKE n ni lw f g A 0) (k : ∀ e : Int, 0 ≤ e → (e < 3 ∨ (10 ≤ e ∧ e < 78)) → gz B e = gz A e) (hni : ni ≤ 8) : SKE n ni lw f g B 0 := by
  obtain ⟨⟨h1, h2, h3⟩, hF, hG⟩ := h
  exact ⟨⟨(k 0 (by omega) (by omega)).trans h1, (k (0 + 1) (by omega) (by omega)).trans h2, (k (0 + 2) (by omega) (by omega)).trans h3⟩, fun e p q => (hF e p q).trans (k (0 + 10 + e) (by omega) (by omega)).symm, fun e p q => (hG e p q).trans (k (0 + 46 + e) (by omega) (by omega)).symm⟩
theorem SKE.fr {n ni lw : Int} {f g A B : Nat → Int32} (h : SKE n ni lw f g A 0) (k : FR B A) (hni : ni ≤ 8) : SKE n ni lw f g B 0 := by
  refine h.lo (fun e p q => ?_) hni
  by_cases c : e < 3
  · rcases (show e = 0 ∨ e = 1 ∨ e = 2 by omega) with rfl | rfl | rfl
    · exact k.2.1
    · exact k.2.2.1
    · exact k.2.2.2
  · exact k.1 e (Or.inr (by omega))
theorem SKE.l {n ni lw : Int} {f g A : Nat → Int32} (h : SKE n ni lw f g A 0) : ∀ e : Int, 0 ≤ e → e < 36 → gz f e = gz (sh A 10) e := fun e p q => by
  rw [gz_sh (by omega) p, h.2.1 e p q, show 0 + 10 + e = 10 + e by omega]
theorem SKE.i {n ni lw : Int} {f g A : Nat → Int32} (h : SKE n ni lw f g A 0) : ∀ e : Int, 0 ≤ e → e < ni * 4 → gz g e = gz (sh A 46) e := fun e p q => by
  rw [gz_sh (by omega) p, h.2.2 e p q, show 0 + 46 + e = 46 + e by omega]
/-- a mark: the place of a slot -/
theorem SKE.mark {n ni lw n0 ni0 lw0 n' ni' lw' mk mk' i c M : Int} {f g f0 g0 f' g' A B : Nat → Int32} (hc : c = 890 * (i + 1)) (hi : 0 ≤ i ∧ i < 3) (old : i < mk → SKE n0 ni0 lw0 f0 g0 A c) (w : SKE n ni lw f g A 0)
    (cf : (mk = i → (n' = n ∧ ni' = ni ∧ lw' = lw) ∧ CPY f' f 36 ∧ CPY g' g 32) ∧ (¬ mk = i → (n' = n0 ∧ ni' = ni0 ∧ lw' = lw0) ∧ f' = f0 ∧ g' = g0))
    (hq : mk = M) (rf : (M < 3 → (∀ e : Int, 0 ≤ e → e < 890 → gz B (890 * (M + 1) + e) = gz A e) ∧ ∀ j : Int, 0 ≤ j → (j < 890 * (M + 1) ∨ 890 * (M + 1) + 890 ≤ j) → gz B j = gz A j) ∧ (¬ M < 3 → B = A))
    (hm : (mk = 3 ∧ mk' = 3) ∨ (mk < 3 ∧ mk' = mk + 1)) (h1 : ni ≤ 8) (h2 : ni0 ≤ 8) : i < mk' → SKE n' ni' lw' f' g' B c := by
  subst hq
  intro h
  by_cases q : mk = i
  · obtain ⟨⟨rfl, rfl, rfl⟩, hf, hg⟩ := cf.1 q
    refine w.mv (fun e p r => ?_) hf hg h1
    have := (rf.1 (by omega)).1 e p r
    rw [show 890 * (mk + 1) = c by rw [hc, q]] at this
    rw [this, show 0 + e = e by omega]
  · obtain ⟨⟨rfl, rfl, rfl⟩, rfl, rfl⟩ := cf.2 q
    have o := old (by omega)
    by_cases m : mk < 3
    · exact o.keep (fun e p r => (rf.1 m).2 e (by omega) (by omega)) h2
    · rw [rf.2 m]; exact o
theorem SKE.mark0 {n ni lw mk M : Int} {f g A B : Nat → Int32} (hm : 0 ≤ mk) (w : SKE n ni lw f g A 0)
    (hq : mk = M) (rf : (M < 3 → (∀ e : Int, 0 ≤ e → e < 890 → gz B (890 * (M + 1) + e) = gz A e) ∧ ∀ j : Int, 0 ≤ j → (j < 890 * (M + 1) ∨ 890 * (M + 1) + 890 ≤ j) → gz B j = gz A j) ∧ (¬ M < 3 → B = A)) (h1 : ni ≤ 8) : SKE n ni lw f g B 0 := by
  subst hq
  by_cases m : mk < 3
  · exact w.keep (fun e p r => (rf.1 m).2 e (by omega) (by omega)) h1
  · rw [rf.2 m]; exact w
theorem SKE.back {n ni lw mk mk' c i M : Int} {f g A B : Nat → Int32} (hc : c = 890 * (i + 1)) (hi : 0 ≤ i) (old : i < mk → SKE n ni lw f g A c) (hq : mk = M) (rf : (0 < M → (∀ e : Int, 0 ≤ e → e < 890 → gz B e = gz A (890 * M + e)) ∧ ∀ j : Int, 890 ≤ j → gz B j = gz A j) ∧ (¬ 0 < M → B = A)) (hm : mk' ≤ mk) (h1 : ni ≤ 8) : i < mk' → SKE n ni lw f g B c := by
  subst hq
  intro h
  exact (old (by omega)).keep (fun e p r => (rf.1 (by omega)).2 e (by omega)) h1
theorem SKE.back0 {n ni lw n0 ni0 lw0 n1 ni1 lw1 n2 ni2 lw2 n' ni' lw' mk M : Int} {f g f0 g0 f1 g1 f2 g2 f' g' A B : Nat → Int32} (hm : 0 ≤ mk ∧ mk ≤ 3) (w : SKE n ni lw f g A 0) (w0 : 0 < mk → SKE n0 ni0 lw0 f0 g0 A 890) (w1 : 1 < mk → SKE n1 ni1 lw1 f1 g1 A 1780) (w2 : 2 < mk → SKE n2 ni2 lw2 f2 g2 A 2670)
    (c0 : mk = 1 → (n' = n0 ∧ ni' = ni0 ∧ lw' = lw0) ∧ CPY f' f0 36 ∧ CPY g' g0 32) (c1 : mk = 2 → (n' = n1 ∧ ni' = ni1 ∧ lw' = lw1) ∧ CPY f' f1 36 ∧ CPY g' g1 32) (c2 : mk = 3 → (n' = n2 ∧ ni' = ni2 ∧ lw' = lw2) ∧ CPY f' f2 36 ∧ CPY g' g2 32) (cz : mk = 0 → (n' = n ∧ ni' = ni ∧ lw' = lw) ∧ f' = f ∧ g' = g)
    (hq : mk = M) (rf : (0 < M → (∀ e : Int, 0 ≤ e → e < 890 → gz B e = gz A (890 * M + e)) ∧ ∀ j : Int, 890 ≤ j → gz B j = gz A j) ∧ (¬ 0 < M → B = A)) (h0 : ni0 ≤ 8) (h1 : ni1 ≤ 8) (h2 : ni2 ≤ 8) : SKE n' ni' lw' f' g' B 0 := by
  subst hq
  rcases (show mk = 0 ∨ mk = 1 ∨ mk = 2 ∨ mk = 3 by omega) with q | q | q | q
  · obtain ⟨⟨rfl, rfl, rfl⟩, rfl, rfl⟩ := cz q
    rw [rf.2 (by omega)]; exact w
  · obtain ⟨⟨rfl, rfl, rfl⟩, hf, hg⟩ := c0 q
    exact (w0 (by omega)).mv (fun e p r => by have := (rf.1 (by omega)).1 e p r; rw [q, show 890 * (1 : Int) = 890 by decide] at this; rw [show 0 + e = e by omega]; exact this) hf hg h0
  · obtain ⟨⟨rfl, rfl, rfl⟩, hf, hg⟩ := c1 q
    exact (w1 (by omega)).mv (fun e p r => by have := (rf.1 (by omega)).1 e p r; rw [q, show 890 * (2 : Int) = 1780 by decide] at this; rw [show 0 + e = e by omega]; exact this) hf hg h1
  · obtain ⟨⟨rfl, rfl, rfl⟩, hf, hg⟩ := c2 q
    exact (w2 (by omega)).mv (fun e p r => by have := (rf.1 (by omega)).1 e p r; rw [q, show 890 * (3 : Int) = 2670 by decide] at this; rw [show 0 + e = e by omega]; exact this) hf hg h2
/-- a sky that both sides read -/
theorem SKE.sky {n ni lw n' ni' lw' we' x t u : Int} {f g f' g' A B : Nat → Int32} {Z3 Z4 : Prop} {nf nf' : Nat → Int64} {R R' : (Int × Int) ⊕ (Int × XS)} (w : SKE n ni lw f g A 0) (hu : t = u) (hR : (0 ≤ x ∧ x ≤ t) → R = R') (hni : ni ≤ 8)
    (cf : ((0 ≤ x ∧ x ≤ t) ∧ ∃ (q9 : Int) (s9 : XS), R = .inr (q9, s9) ∧ SKX s9 n' ni' lw' we' f' g' nf' ∧ Z3) ∨ ((¬ (0 ≤ x ∧ x ≤ t) ∨ ∃ e9 : Int × Int, R = .inl e9) ∧ (n' = n ∧ ni' = ni ∧ lw' = lw) ∧ f' = f ∧ g' = g ∧ nf' = nf ∧ Z4))
    (rf : ((0 ≤ x ∧ x ≤ u) ∧ ∃ (q9 : Int) (s9 : XS), R' = .inr (q9, s9) ∧ SKM s9 B 0) ∨ ((¬ (0 ≤ x ∧ x ≤ u) ∨ ∃ e9 : Int × Int, R' = .inl e9) ∧ ∀ e : Int, 0 ≤ e → e < 890 → gz B e = gz A e)) : SKE n' ni' lw' f' g' B 0 := by
  subst hu
  rcases cf with ⟨ok, q, s, h1, h2, -⟩ | ⟨c, ⟨rfl, rfl, rfl⟩, rfl, rfl, -⟩
  · rcases rf with ⟨-, q2, s2, k1, k2⟩ | ⟨k, -⟩
    · rw [hR ok, k1] at h1
      injection h1 with h3
      injection h3 with h4 h5
      rw [← h5] at h2
      exact SKE.of h2 k2
    · rcases k with k | ⟨e, k⟩
      · exact absurd ok k
      · rw [hR ok, k] at h1
        exact absurd h1 (by intro h; injection h)
  · rcases rf with ⟨ok, q2, s2, k1, k2⟩ | ⟨-, k⟩
    · rcases c with c | ⟨e, c⟩
      · exact absurd ok c
      · rw [hR ok, k1] at c
        exact absurd c (by intro h; injection h)
    · exact w.keep (fun e p r => k e p (by omega)) hni
theorem SKM.of {A B : Nat → Int32} {n ni lw we lt : Int} {F G N : Int → Int} (h : MSX A n ni lw we F G) (k : ∀ e : Int, 0 ≤ e → e < 890 → gz B e = gz A (3560 + e)) (hni : ni ≤ 8) : SKM (n, ni, lw, we, lt, F, G, N) B 0 := by
  obtain ⟨h1, h2, h3, -, hF, hG⟩ := h
  refine ⟨⟨?_, ?_, ?_⟩, fun e p q => ?_, fun e p q => ?_⟩
  · have := k 0 (by omega) (by omega); rw [show (3560 : Int) + 0 = 3560 by decide] at this; exact this.trans h1
  · have := k (0 + 1) (by omega) (by omega); rw [show (3560 : Int) + (0 + 1) = 3561 by decide] at this; exact this.trans h2
  · have := k (0 + 2) (by omega) (by omega); rw [show (3560 : Int) + (0 + 2) = 3562 by decide] at this; exact this.trans h3
  · have := k (0 + 10 + e) (by omega) (by omega)
    have r := hF e p q
    rw [gz_sh (by omega) p] at r
    rw [this, show 3560 + (0 + 10 + e) = 3570 + e by omega]
    exact r
  · have q : e < ni * 4 := q
    have := k (0 + 46 + e) (by omega) (by omega)
    have r := hG e p q
    rw [gz_sh (by omega) p] at r
    rw [this, show 3560 + (0 + 46 + e) = 3606 + e by omega]
    exact r
/-- what is told of like skies is alike -/
theorem hd_like {f F : Nat → Int32} {a w : Int} (h : ∀ e : Int, 0 ≤ e → e < 36 → gz f e = gz F e) (ha : 0 ≤ a ∧ a < 6) : hd f a w = hd F a w := by
  unfold hd
  rw [h ((a * 6) + 2) (by omega) (by omega), h ((a * 6) + 1) (by omega) (by omega)]
theorem lt_like {f F : Nat → Int32} {a w b t : Int} (h : ∀ e : Int, 0 ≤ e → e < 36 → gz f e = gz F e) (ha : 0 ≤ a ∧ a < 6) (hb : 0 ≤ b ∧ b < 6) : lt f a w b t = lt F a w b t := by
  unfold lt ap lg0 nr fr
  rw [h ((a * 6) + 0) (by omega) (by omega), h ((b * 6) + 0) (by omega) (by omega), hd_like h ha, hd_like h hb]
theorem cmF_like {f F : Nat → Int32} {a w b sl : Int} (h : ∀ e : Int, 0 ≤ e → e < 36 → gz f e = gz F e) (ha : 0 ≤ a ∧ a < 6) (hb : 0 ≤ b ∧ b < 6) : cmF f a w b sl = cmF F a w b sl := by
  unfold cmF
  congr 1
  funext t
  unfold isCm
  rw [lt_like (t := t) (w := w) h ha hb]
  have e : (∀ s : Int, w ≤ s → s < t → ¬ sl * lt f a w b s ≤ s - w) = (∀ s : Int, w ≤ s → s < t → ¬ sl * lt F a w b s ≤ s - w) := by
    apply propext
    constructor
    · intro g s p q; rw [← lt_like (t := s) (w := w) h ha hb]; exact g s p q
    · intro g s p q; rw [lt_like (t := s) (w := w) h ha hb]; exact g s p q
  rw [e]
theorem isIc_like {g G : Nat → Int32} {n a b w : Int} (h : ∀ e : Int, 0 ≤ e → e < n * 4 → gz g e = gz G e) : isIc g n a b w = isIc G n a b w := by
  have e : ∀ j : Int, 0 ≤ j → j < n → icR g j a b w = icR G j a b w := fun j p q => by
    unfold icR
    rw [h ((j * 4) + 0) (by omega) (by omega), h ((j * 4) + 1) (by omega) (by omega), h ((j * 4) + 2) (by omega) (by omega), h ((j * 4) + 3) (by omega) (by omega)]
  apply propext
  constructor
  · rintro ⟨j, p, q, r⟩; exact ⟨j, p, q, by rw [← e j p q]; exact r⟩
  · rintro ⟨j, p, q, r⟩; exact ⟨j, p, q, by rw [e j p q]; exact r⟩
end

section
/-- the names kept below those that are read -/
def NFR (g f : Nat → Int64) : Prop := ∀ e : Nat, e < 24 → g e = f e
theorem NFR.rf (f : Nat → Int64) : NFR f f := fun _ _ => rfl
theorem NFR.tr {h g f : Nat → Int64} (a : NFR h g) (b : NFR g f) : NFR h f := fun e k => (a e k).trans (b e k)
theorem NFR.of {g f : Nat → Int64} (h : g = f) : NFR g f := by rw [h]; exact NFR.rf f
theorem NFR.up {g f : Nat → Int64} {e : Int} {v : Int64} (h : g = vp_updL f (iZ e).toNatClampNeg v) (he : 24 ≤ e ∧ e < 2147483648) : NFR g f := fun k hk => by
  rw [h, zcl ⟨by omega, by omega⟩]
  exact if_neg (by omega)
set_option maxHeartbeats 4000000 in
set_option maxRecDepth 100000 in
theorem y_aRock (l : Launch) (D : va_G) (k : Nat → ClassId) (sa sv : Nat) (hm : Nat) (Ma : Nat) (Mn : Nat) (Ms : Nat) (My : Nat) (Mt : Nat) (Mp : Nat) (Mx : Nat) (Mo : Nat) (Mk : Nat) (Ml : Nat) (Mb : Nat) (Mh : Nat) (Mc : Nat) (Mz : Nat) (Mr : Nat) (Mq : Nat) (Mst : Int) (Mtd : Int) (Msz : Int) (Mtk : Int) (Mfr : Int) (Men : Int) (Mva : Int) (Mfk : Int) (Mfp : Int) (Mfs : Int) (Mse : Int) (Mlt : Int) (Mdp : Int) (Mct : Int) (Mdr : Int) (Mrs : Int) (Mit : Int) (Mmk : Int) (Mtp : Int64) (Mbt : Int64) (Xf : Nat → Int32) (Af : Nat → Int32) (Nf : Nat → Int64) (cu : Int) (N : Int → Int) (F : Int → Int) (G : Int → Int) (hTI : (0 ≤ (Mfr : Int) ∧ (Mfr : Int) ≤ Men) ∧ ((Men : Int) ≤ Msz ∧ (Msz : Int) ≤ 900) ∧ (0 ≤ (Mtk : Int) ∧ (Mtk : Int) ≤ 4) ∧ ((Mtk : Int) ≤ 4 * (Men - Mfr)) ∧ (-1 ≤ (Mva : Int) ∧ (Mva : Int) ≤ 100000)) (hf0 : Mfs = 0) (hrf : RFX (tX Xf Msz) cu Mfr Men Mtk Mva) (hNZ : NSZ Af) (htw : Mtk = 2) (hms : MSX Af (gz Af 3560) (gz Af 3561) (gz Af 3562) (gz Af 3678) F G) (hns : xNr Nf 24 N (gz Af 3560)) : SD (σ := ((Int × Int × Int × Int × Int × Int × Int) × (Int64) × ((Nat → Int32)) × ((Nat → Int64)))) sa sv l yX12_aRock cX12_aRock 3 (some .boolean) 6 D k [.ref hm] [(hm, .inr (12, [.ref Ma, .ref Mn, .int (iZ Mst), .long Mtp, .long Mbt, .ref Ms, .ref My, .ref Mt, .ref Mp, .ref Mx, .int (iZ Mtd), .int (iZ Msz), .int (iZ Mtk), .int (iZ Mfr), .int (iZ Men), .int (iZ Mva), .int (iZ Mfk), .int (iZ Mfp), .int (iZ Mfs), .int (iZ Mse), .int (iZ Mlt), .ref Mo, .int (iZ Mdp), .int (iZ Mct), .ref Mk, .ref Ml, .ref Mb, .ref Mh, .ref Mc, .int (iZ Mdr), .int (iZ Mrs), .ref Mz, .ref Mr, .ref Mq, .int (iZ Mit), .int (iZ Mmk)])), (Mx, .inl (k 0, 900, .inl Xf)), (Ma, .inl (k 1, 5340, .inl Af)), (Mn, .inl (k 2, 36, .inr (.inl Nf)))] (fun u => some (.int (iZ u.1.1))) (fun u => ((0 ≤ (u.1.2.2.1 : Int) ∧ (u.1.2.2.1 : Int) ≤ u.1.2.2.2.1) ∧ ((u.1.2.2.2.1 : Int) ≤ Msz ∧ (Msz : Int) ≤ 900) ∧ (0 ≤ (u.1.2.1 : Int) ∧ (u.1.2.1 : Int) ≤ 4) ∧ ((u.1.2.1 : Int) ≤ 4 * (u.1.2.2.2.1 - u.1.2.2.1)) ∧ (-1 ≤ (u.1.2.2.2.2.1 : Int) ∧ (u.1.2.2.2.2.1 : Int) ≤ 100000)) ∧ (0 ≤ (u.1.2.2.2.2.2.1 : Int) ∧ (u.1.2.2.2.2.2.1 : Int) ≤ 9) ∧ (KP u.2.2.1 Af) ∧ (((u.1.1 : Int) = 1 ∧ ∃ (q9 : Int) (F9 : Int → Int), xRock (tX Xf Msz) N (gz Af 3560) (gz Af 3678) F cu = (xBn (xTs (tX Xf Msz) 59 q9) fun r9 => .inr (r9, gz u.2.2.1 3678, F9)) ∧ cu < q9 ∧ RFX (tX Xf Msz) q9 u.1.2.2.1 u.1.2.2.2.1 u.1.2.1 u.1.2.2.2.2.1 ∧ MSX u.2.2.1 (gz u.2.2.1 3560) (gz u.2.2.1 3561) (gz u.2.2.1 3562) (gz u.2.2.1 3678) F9 G ∧ xNr u.2.2.2 24 (xUp N (gz Af 3560) (xNm (tX Xf Msz) (xEn (tX Xf Msz) cu))) (gz u.2.2.1 3560) ∧ (gz u.2.2.1 3560 = gz Af 3560 + 1 ∧ gz u.2.2.1 3561 = gz Af 3561 ∧ gz u.2.2.1 3562 = gz Af 3562) ∧ NSZ u.2.2.1 ∧ (u.1.2.2.2.2.2.1 : Int) = 0 ∧ u.1.2.2.2.2.2.2 = Mfp) ∨ ((u.1.1 : Int) = 0 ∧ xRock (tX Xf Msz) N (gz Af 3560) (gz Af 3678) F cu = .inl (u.1.2.2.2.2.2.1, u.1.2.2.2.2.2.2) ∧ 1 ≤ (u.1.2.2.2.2.2.1 : Int))) ∧ (NFR u.2.2.2 Nf)) (fun u => [(hm, .inr (12, [.ref Ma, .ref Mn, .int (iZ Mst), .long Mtp, .long Mbt, .ref Ms, .ref My, .ref Mt, .ref Mp, .ref Mx, .int (iZ Mtd), .int (iZ Msz), .int (iZ u.1.2.1), .int (iZ u.1.2.2.1), .int (iZ u.1.2.2.2.1), .int (iZ u.1.2.2.2.2.1), .int (iZ Mfk), .int (iZ u.1.2.2.2.2.2.2), .int (iZ u.1.2.2.2.2.2.1), .int (iZ Mse), .int (iZ Mlt), .ref Mo, .int (iZ Mdp), .int (iZ Mct), .ref Mk, .ref Ml, .ref Mb, .ref Mh, .ref Mc, .int (iZ Mdr), .int (iZ Mrs), .ref Mz, .ref Mr, .ref Mq, .int (iZ Mit), .int (iZ Mmk)])), (Mx, .inl (k 0, 900, .inl Xf)), (Ma, .inl (k 1, 5340, .inl u.2.2.1)), (Mn, .inl (k 2, 36, .inr (.inl u.2.2.2)))]) := by
  refine MSS (by decide) (Nat.le_of_ble_eq_true rfl) (fun p e s m below meth c ls A hx hb hml hr hlocks hin hts hown hKK hP hD hS hA hSY hRR hl => ?_)
  have hK := hKK.1
  have hl : lv_has ls 3 [(0, .ref hm)] := hl
  obtain ⟨⟨ar_1, br_1⟩, cr_1, dr_1, er_1, gr_1, hr_1⟩ := id hrf
  have kr_1 := tk_1 dr_1 (xKd_rg _ _)
  have wr_1 := xKw_rg (tX Xf Msz) cu
  replace kr_1 : Unit → _ := fun _ => kr_1
  replace er_1 : Unit → _ := fun _ => er_1
  replace gr_1 : Unit → _ := fun _ => gr_1
  replace hr_1 : Unit → _ := fun _ => hr_1
  obtain ⟨nz0, nz1, nz3, nz4, nz5, nzS⟩ := id hNZ
  have hn5 : 0 ≤ gz Af 3560 ∧ gz Af 3560 ≤ 6 := nz0
  have HJ225 : ∀ (Mtkj : Int) (Mfrj : Int) (Menj : Int) (Mvaj : Int) (Mfsj : Int) (Mfpj : Int) (Afj : Nat → Int32) (Nfj : Nat → Int64) (jp : Int) (jG : Int → Int) (H : Heap) (locs : List Loc) (ls : Array Slot), ((0 ≤ (Mfrj : Int) ∧ (Mfrj : Int) ≤ Menj) ∧ ((Menj : Int) ≤ Msz ∧ (Msz : Int) ≤ 900) ∧ (0 ≤ (Mtkj : Int) ∧ (Mtkj : Int) ≤ 4) ∧ ((Mtkj : Int) ≤ 4 * (Menj - Mfrj)) ∧ (-1 ≤ (Mvaj : Int) ∧ (Mvaj : Int) ≤ 100000)) → ((Mfsj : Int) = 0 ∧ Mfpj = Mfp) → (KP Afj Af) → (RFX (tX Xf Msz) jp Mfrj Menj Mtkj Mvaj) → (cu < jp) → (NSK Afj (gz Af 3560) 1) → (MSX Afj (gz Af 3560) (gz Af 3561) (gz Af 3562) (gz Af 3678) jG G) → (xNr Nfj 24 (xUp N (gz Af 3560) (xNm (tX Xf Msz) (xEn (tX Xf Msz) cu))) (gz Af 3560 + 1)) → (xRock (tX Xf Msz) N (gz Af 3560) (gz Af 3678) F cu = xR5 (tX Xf Msz) (gz Af 3560) (gz Af 3678) jp jG) → (0 ≤ gz Af 3560 ∧ gz Af 3560 < 6) → (NFR Nfj Nf) → va_P D vwCl [(hm, .inr (12, [.ref Ma, .ref Mn, .int (iZ Mst), .long Mtp, .long Mbt, .ref Ms, .ref My, .ref Mt, .ref Mp, .ref Mx, .int (iZ Mtd), .int (iZ Msz), .int (iZ Mtkj), .int (iZ Mfrj), .int (iZ Menj), .int (iZ Mvaj), .int (iZ Mfk), .int (iZ Mfpj), .int (iZ Mfsj), .int (iZ Mse), .int (iZ Mlt), .ref Mo, .int (iZ Mdp), .int (iZ Mct), .ref Mk, .ref Ml, .ref Mb, .ref Mh, .ref Mc, .int (iZ Mdr), .int (iZ Mrs), .ref Mz, .ref Mr, .ref Mq, .int (iZ Mit), .int (iZ Mmk)])), (Mx, .inl (k 0, 900, .inl Xf)), (Ma, .inl (k 1, 5340, .inl Afj)), (Mn, .inl (k 2, 36, .inr (.inl Nfj)))] H → va_D A [(hm, .inr (12, [.ref Ma, .ref Mn, .int (iZ Mst), .long Mtp, .long Mbt, .ref Ms, .ref My, .ref Mt, .ref Mp, .ref Mx, .int (iZ Mtd), .int (iZ Msz), .int (iZ Mtkj), .int (iZ Mfrj), .int (iZ Menj), .int (iZ Mvaj), .int (iZ Mfk), .int (iZ Mfpj), .int (iZ Mfsj), .int (iZ Mse), .int (iZ Mlt), .ref Mo, .int (iZ Mdp), .int (iZ Mct), .ref Mk, .ref Ml, .ref Mb, .ref Mh, .ref Mc, .int (iZ Mdr), .int (iZ Mrs), .ref Mz, .ref Mr, .ref Mq, .int (iZ Mit), .int (iZ Mmk)])), (Mx, .inl (k 0, 900, .inl Xf)), (Ma, .inl (k 1, 5340, .inl Afj)), (Mn, .inl (k 2, 36, .inr (.inl Nfj)))] → va_S A s.heap H locs → lv_has ls 3 [(2, .int (iZ (3570 + (6 * (gz Af 3560))))), (1, .int (iZ (gz Af 3560))), (0, .ref hm)] → W p l e (rj 6 0 0) s m [.ref hm].toArray below meth c H locs 0 0 (MQ below (QW (σ := ((Int × Int × Int × Int × Int × Int × Int) × (Int64) × ((Nat → Int32)) × ((Nat → Int64)))) (fun u => some (.int (iZ u.1.1))) (fun u => ((0 ≤ (u.1.2.2.1 : Int) ∧ (u.1.2.2.1 : Int) ≤ u.1.2.2.2.1) ∧ ((u.1.2.2.2.1 : Int) ≤ Msz ∧ (Msz : Int) ≤ 900) ∧ (0 ≤ (u.1.2.1 : Int) ∧ (u.1.2.1 : Int) ≤ 4) ∧ ((u.1.2.1 : Int) ≤ 4 * (u.1.2.2.2.1 - u.1.2.2.1)) ∧ (-1 ≤ (u.1.2.2.2.2.1 : Int) ∧ (u.1.2.2.2.2.1 : Int) ≤ 100000)) ∧ (0 ≤ (u.1.2.2.2.2.2.1 : Int) ∧ (u.1.2.2.2.2.2.1 : Int) ≤ 9) ∧ (KP u.2.2.1 Af) ∧ (((u.1.1 : Int) = 1 ∧ ∃ (q9 : Int) (F9 : Int → Int), xRock (tX Xf Msz) N (gz Af 3560) (gz Af 3678) F cu = (xBn (xTs (tX Xf Msz) 59 q9) fun r9 => .inr (r9, gz u.2.2.1 3678, F9)) ∧ cu < q9 ∧ RFX (tX Xf Msz) q9 u.1.2.2.1 u.1.2.2.2.1 u.1.2.1 u.1.2.2.2.2.1 ∧ MSX u.2.2.1 (gz u.2.2.1 3560) (gz u.2.2.1 3561) (gz u.2.2.1 3562) (gz u.2.2.1 3678) F9 G ∧ xNr u.2.2.2 24 (xUp N (gz Af 3560) (xNm (tX Xf Msz) (xEn (tX Xf Msz) cu))) (gz u.2.2.1 3560) ∧ (gz u.2.2.1 3560 = gz Af 3560 + 1 ∧ gz u.2.2.1 3561 = gz Af 3561 ∧ gz u.2.2.1 3562 = gz Af 3562) ∧ NSZ u.2.2.1 ∧ (u.1.2.2.2.2.2.1 : Int) = 0 ∧ u.1.2.2.2.2.2.2 = Mfp) ∨ ((u.1.1 : Int) = 0 ∧ xRock (tX Xf Msz) N (gz Af 3560) (gz Af 3678) F cu = .inl (u.1.2.2.2.2.2.1, u.1.2.2.2.2.2.2) ∧ 1 ≤ (u.1.2.2.2.2.2.1 : Int))) ∧ (NFR u.2.2.2 Nf)) (fun u => [(hm, .inr (12, [.ref Ma, .ref Mn, .int (iZ Mst), .long Mtp, .long Mbt, .ref Ms, .ref My, .ref Mt, .ref Mp, .ref Mx, .int (iZ Mtd), .int (iZ Msz), .int (iZ u.1.2.1), .int (iZ u.1.2.2.1), .int (iZ u.1.2.2.2.1), .int (iZ u.1.2.2.2.2.1), .int (iZ Mfk), .int (iZ u.1.2.2.2.2.2.2), .int (iZ u.1.2.2.2.2.2.1), .int (iZ Mse), .int (iZ Mlt), .ref Mo, .int (iZ Mdp), .int (iZ Mct), .ref Mk, .ref Ml, .ref Mb, .ref Mh, .ref Mc, .int (iZ Mdr), .int (iZ Mrs), .ref Mz, .ref Mr, .ref Mq, .int (iZ Mit), .int (iZ Mmk)])), (Mx, .inl (k 0, 900, .inl Xf)), (Ma, .inl (k 1, 5340, .inl u.2.2.1)), (Mn, .inl (k 2, 36, .inr (.inl u.2.2.2)))]) D A) [.ref hm].toArray s 0 0 A) (F0 m 225 ls []) := by
    intro Mtkj Mfrj Menj Mvaj Mfsj Mfpj Afj Nfj jp jG H locs ls jTI jFS jkp jrf jpl jnk jms jN jeq jn5 jnf hP hD hS hl
    obtain ⟨⟨ar_2, br_2⟩, cr_2, dr_2, er_2, gr_2, hr_2⟩ := id jrf
    have kr_2 := tk_1 dr_2 (xKd_rg _ _)
    have wr_2 := xKw_rg (tX Xf Msz) jp
    replace kr_2 : Unit → _ := fun _ => kr_2
    replace er_2 : Unit → _ := fun _ => er_2
    replace gr_2 : Unit → _ := fun _ => gr_2
    replace hr_2 : Unit → _ := fun _ => hr_2
    refine lv_aload_n hx hb dX12_aRock_225 rfl (lv_at hl 2 rfl) ?_
    refine lv_bipush (v := iZ 9) hx hb dX12_aRock_226 bip_9 ?_
    refine CSV (As := [.int (iZ 9)]) (rest := []) (wc := _) (wr := [(Ma, .inl (k 1, 5340, .inl Afj)), (Mn, .inl (k 2, 36, .inr (.inl Nfj)))]) hx hb hml hown hts hKK hP hD hS hA hSY hRR (y_isThere l D k sa sv hm Ma Mn Ms My Mt Mp Mx Mo Mk Ml Mb Mh Mc Mz Mr Mq Mst Mtd Msz Mtkj Mfrj Menj Mvaj Mfk Mfpj Mfsj Mse Mlt Mdp Mct Mdr Mrs Mit Mmk Mtp Mbt Xf 9 jp 7 (by first | with_reducible assumption | exact (by first | with_reducible assumption | exact ⟨⟨by omega, by omega⟩, ⟨by omega, by omega⟩, ⟨by omega, by omega⟩, by omega, by omega, by omega⟩)) jrf ⟨by omega, by omega⟩ ⟨by decide, by decide⟩) ci_X12_isThere qm_X12_192 ⟨Nat.le_of_ble_eq_true rfl, Nat.le_of_ble_eq_true rfl⟩ ⟨Nat.le_of_ble_eq_true rfl, Nat.le_of_ble_eq_true rfl⟩ [0, 1] [2, 3] rfl rfl rfl rfl rfl (dj rfl) 0 rfl rfl rfl hl.1 rfl (Nat.le_of_ble_eq_true rfl) dX12_aRock_228 (fun u_3 H locs hφ hP hD hS => ?_)
    obtain ⟨p_4, p_5⟩ : ((0 ≤ (u_3.1.2.2.1 : Int) ∧ (u_3.1.2.2.1 : Int) ≤ u_3.1.2.2.2.1) ∧ ((u_3.1.2.2.2.1 : Int) ≤ Msz ∧ (Msz : Int) ≤ 900) ∧ (0 ≤ (u_3.1.2.1 : Int) ∧ (u_3.1.2.1 : Int) ≤ 4) ∧ ((u_3.1.2.1 : Int) ≤ 4 * (u_3.1.2.2.2.1 - u_3.1.2.2.1)) ∧ (-1 ≤ (u_3.1.2.2.2.2 : Int) ∧ (u_3.1.2.2.2.2 : Int) ≤ 100000)) ∧ (((u_3.1.1 : Int) = 1 ∧ xKw (tX Xf Msz) jp = 7 ∧ ∃ q9 : Int, q9 = xEn (tX Xf Msz) jp ∧ jp < q9 ∧ RFX (tX Xf Msz) q9 u_3.1.2.2.1 u_3.1.2.2.2.1 u_3.1.2.1 u_3.1.2.2.2.2) ∨ ((u_3.1.1 : Int) = 0 ∧ ¬ xKw (tX Xf Msz) jp = 7 ∧ RFX (tX Xf Msz) jp u_3.1.2.2.1 u_3.1.2.2.2.1 u_3.1.2.1 u_3.1.2.2.2.2)) := hφ
    refine W.eq (g2 := F0 m 231 ls [.int (iZ u_3.1.1)]) rfl ?_
    rcases p_5 with ⟨qt_6, kt_6, cut_6, yt_6, lt_6, xt_6⟩ | ⟨qt_6, kt_6, xt_6⟩
    ·
      rw [qt_6]
      obtain ⟨⟨ar_7, br_7⟩, cr_7, dr_7, er_7, gr_7, hr_7⟩ := id xt_6
      have kr_7 := tk_1 dr_7 (xKd_rg _ _)
      have wr_7 := xKw_rg (tX Xf Msz) cut_6
      replace kr_7 : Unit → _ := fun _ => kr_7
      replace er_7 : Unit → _ := fun _ => er_7
      replace gr_7 : Unit → _ := fun _ => gr_7
      replace hr_7 : Unit → _ := fun _ => hr_7
      refine lv_if_eq (tgt := 248) hx hb dX12_aRock_231 rfl (fun c => absurd c (by decide)) (fun _ => ?_)
      refine lv_aload_n hx hb dX12_aRock_234 rfl (lv_at hl 2 rfl) ?_
      refine va_get (D := D) (ci := 12) (v := .ref Ma) (C := RX12) (T := TX12) (N := 36) hx hb hts iX12 hown hK hP 2 rfl rfl 0 (bl rfl) (hts _ qf_X12_7) (fun _ h => h) rfl dX12_aRock_235 ?_
      refine lv_sipush (v := iZ 3678) hx hb dX12_aRock_238 sip_3678 ?_
      refine lv_dup2_11 hx hb dX12_aRock_241 rfl rfl ?_
      refine va_iald hx hb hK hP 0 1 rfl rfl (zin (e := 3678) (n := 5340) ⟨by omega, by omega⟩ (bl rfl)) dX12_aRock_242 ?_
      refine lv_topi (fun x_9 ex_9 => ?_)
      obtain rfl : x_9 = iZ (gz Afj 3678) := ex_9.trans (gz_eq ⟨by omega, by omega⟩)
      have h_10 := gz_rg Afj 3678
      refine lv_iconst (v := iZ 1) hx hb dX12_aRock_243 rfl ?_
      refine lv_iload_n hx hb dX12_aRock_244 rfl (lv_at hl 1 rfl) ?_
      refine lv_ishl hx hb dX12_aRock_245 ?_
      refine lv_topi (fun x_12 ex_12 => ?_)
      obtain ⟨z_11, hz_11, hz_11a, hz_11b⟩ := i32_z x_12
      subst hz_11
      refine lv_ior hx hb dX12_aRock_246 ?_
      refine lv_topi (fun x_14 ex_14 => ?_)
      obtain ⟨z_13, hz_13, hz_13a, hz_13b⟩ := i32_z x_14
      subst hz_13
      refine va_iast hx hb hK hP hD hS 0 1 rfl rfl (zin (e := 3678) (n := 5340) ⟨by omega, by omega⟩ (bl rfl)) dX12_aRock_247 (fun H locs hP hD hS => ?_)
      obtain ⟨f_15, hf_15⟩ : ∃ gg9, gg9 = upd Afj (iZ 3678).toNatClampNeg (iZ z_13) := ⟨_, rfl⟩
      rw [← hf_15] at hP hD
      have kp_16 := KP.up hf_15 ⟨by omega, by omega⟩ ⟨by omega, by omega⟩
      have nk_17 := NSK.far jnk hf_15 (Or.inl ⟨by omega, by omega⟩) ⟨by omega, by omega⟩
      have hw78 : gz Afj 3678 = gz Af 3678 := jms.2.2.2.1
      have hor := xOr_eq (we := gz Af 3678) (n := gz Af 3560) (zs := z_11) (z := z_13) ex_12 (by rw [← hw78]; exact ex_14) ⟨hz_13a, hz_13b⟩
      have ms_18 := MSX.we jms hf_15 (by omega) (by omega)
      have hn0 := ms_18.1
      refine lv_aload_n hx hb dX12_aRock_248 rfl (lv_at hl 2 rfl) ?_
      refine va_get (D := D) (ci := 12) (v := .ref Ma) (C := RX12) (T := TX12) (N := 36) hx hb hts iX12 hown hK hP 2 rfl rfl 0 (bl rfl) (hts _ qf_X12_7) (fun _ h => h) rfl dX12_aRock_249 ?_
      refine lv_sipush (v := iZ 3560) hx hb dX12_aRock_252 sip_3560 ?_
      refine lv_dup2_11 hx hb dX12_aRock_255 rfl rfl ?_
      refine va_iald hx hb hK hP 0 1 rfl rfl (zin (e := 3560) (n := 5340) ⟨by omega, by omega⟩ (bl rfl)) dX12_aRock_256 ?_
      refine lv_topi (fun x_19 ex_19 => ?_)
      obtain rfl : x_19 = iZ (gz f_15 3560) := ex_19.trans (gz_eq ⟨by omega, by omega⟩)
      have h_20 := gz_rg f_15 3560
      refine lv_iconst (v := iZ 1) hx hb dX12_aRock_257 rfl ?_
      refine lv_iadd hx hb dX12_aRock_258 ?_
      refine lv_topi (fun x_21 ex_21 => ?_)
      obtain rfl : x_21 = iZ ((gz f_15 3560) + 1) := ex_21.trans (iZ_add (gz f_15 3560) 1)
      refine va_iast hx hb hK hP hD hS 0 1 rfl rfl (zin (e := 3560) (n := 5340) ⟨by omega, by omega⟩ (bl rfl)) dX12_aRock_259 (fun H locs hP hD hS => ?_)
      obtain ⟨f_22, hf_22⟩ : ∃ gg9, gg9 = upd f_15 (iZ 3560).toNatClampNeg (iZ ((gz f_15 3560) + 1)) := ⟨_, rfl⟩
      rw [← hf_22] at hP hD
      have kp_23 := KP.up hf_22 ⟨by omega, by omega⟩ ⟨by omega, by omega⟩
      have ns_24 := NSK.fin nk_17 hf_22 (by omega)
      have ms_25 := MSX.n ms_18 hf_22 (by omega) (by omega)
      refine lv_iconst (v := iZ 1) hx hb dX12_aRock_260 rfl ?_
      obtain ⟨mm0, mm1, mm2, mm3, mmF, mmG⟩ := id ms_25
      exact EWz hx hb hr hlocks hS ((1, u_3.1.2.1, u_3.1.2.2.1, u_3.1.2.2.2.1, u_3.1.2.2.2.2, Mfsj, Mfpj), 0, f_22, Nfj) rfl rfl ⟨(show (0 ≤ (u_3.1.2.2.1 : Int) ∧ (u_3.1.2.2.1 : Int) ≤ u_3.1.2.2.2.1) ∧ ((u_3.1.2.2.2.1 : Int) ≤ Msz ∧ (Msz : Int) ≤ 900) ∧ (0 ≤ (u_3.1.2.1 : Int) ∧ (u_3.1.2.1 : Int) ≤ 4) ∧ ((u_3.1.2.1 : Int) ≤ 4 * (u_3.1.2.2.2.1 - u_3.1.2.2.1)) ∧ (-1 ≤ (u_3.1.2.2.2.2 : Int) ∧ (u_3.1.2.2.2.2 : Int) ≤ 100000) from (by first | with_reducible assumption | exact (by first | with_reducible assumption | exact ⟨⟨by omega, by omega⟩, ⟨by omega, by omega⟩, ⟨by omega, by omega⟩, by omega, by omega, by omega⟩))), (show 0 ≤ (Mfsj : Int) ∧ (Mfsj : Int) ≤ 9 from (by omega)), (show KP f_22 Af from (KP.tr kp_23 (KP.tr kp_16 jkp))), (show ((1 : Int) = 1 ∧ ∃ (q9 : Int) (F9 : Int → Int), xRock (tX Xf Msz) N (gz Af 3560) (gz Af 3678) F cu = (xBn (xTs (tX Xf Msz) 59 q9) fun r9 => .inr (r9, gz f_22 3678, F9)) ∧ cu < q9 ∧ RFX (tX Xf Msz) q9 u_3.1.2.2.1 u_3.1.2.2.2.1 u_3.1.2.1 u_3.1.2.2.2.2 ∧ MSX f_22 (gz f_22 3560) (gz f_22 3561) (gz f_22 3562) (gz f_22 3678) F9 G ∧ xNr Nfj 24 (xUp N (gz Af 3560) (xNm (tX Xf Msz) (xEn (tX Xf Msz) cu))) (gz f_22 3560) ∧ (gz f_22 3560 = gz Af 3560 + 1 ∧ gz f_22 3561 = gz Af 3561 ∧ gz f_22 3562 = gz Af 3562) ∧ NSZ f_22 ∧ (Mfsj : Int) = 0 ∧ Mfpj = Mfp) ∨ ((1 : Int) = 0 ∧ xRock (tX Xf Msz) N (gz Af 3560) (gz Af 3678) F cu = .inl (Mfsj, Mfpj) ∧ 1 ≤ (Mfsj : Int)) from (Or.inl ⟨rfl, cut_6, jG, jeq.trans (xR5_w (xWe_1q kt_6 yt_6 (ms_25.2.2.2.1.trans hor))), by omega, xt_6, ⟨rfl, rfl, rfl, rfl, mmF, by rw [mm1]; exact mmG⟩, by rw [show gz f_22 3560 = gz Af 3560 + 1 from (by omega)]; exact jN, ⟨by omega, by omega, by omega⟩, ns_24, by omega, by omega⟩)), (show NFR Nfj Nf from jnf)⟩ (hP.sub [2, 3, 0, 1] rfl) (hD.sub [2, 3, 0, 1] rfl rfl) dX12_aRock_261
    ·
      rw [qt_6]
      obtain ⟨⟨ar_26, br_26⟩, cr_26, dr_26, er_26, gr_26, hr_26⟩ := id xt_6
      have kr_26 := tk_1 dr_26 (xKd_rg _ _)
      have wr_26 := xKw_rg (tX Xf Msz) jp
      replace kr_26 : Unit → _ := fun _ => kr_26
      replace er_26 : Unit → _ := fun _ => er_26
      replace gr_26 : Unit → _ := fun _ => gr_26
      replace hr_26 : Unit → _ := fun _ => hr_26
      refine lv_if_eq (tgt := 248) hx hb dX12_aRock_231 rfl (fun _ => ?_) (fun c => absurd (by decide) c)
      have hn0 := jms.1
      refine lv_aload_n hx hb dX12_aRock_248 rfl (lv_at hl 2 rfl) ?_
      refine va_get (D := D) (ci := 12) (v := .ref Ma) (C := RX12) (T := TX12) (N := 36) hx hb hts iX12 hown hK hP 2 rfl rfl 0 (bl rfl) (hts _ qf_X12_7) (fun _ h => h) rfl dX12_aRock_249 ?_
      refine lv_sipush (v := iZ 3560) hx hb dX12_aRock_252 sip_3560 ?_
      refine lv_dup2_11 hx hb dX12_aRock_255 rfl rfl ?_
      refine va_iald hx hb hK hP 0 1 rfl rfl (zin (e := 3560) (n := 5340) ⟨by omega, by omega⟩ (bl rfl)) dX12_aRock_256 ?_
      refine lv_topi (fun x_28 ex_28 => ?_)
      obtain rfl : x_28 = iZ (gz Afj 3560) := ex_28.trans (gz_eq ⟨by omega, by omega⟩)
      have h_29 := gz_rg Afj 3560
      refine lv_iconst (v := iZ 1) hx hb dX12_aRock_257 rfl ?_
      refine lv_iadd hx hb dX12_aRock_258 ?_
      refine lv_topi (fun x_30 ex_30 => ?_)
      obtain rfl : x_30 = iZ ((gz Afj 3560) + 1) := ex_30.trans (iZ_add (gz Afj 3560) 1)
      refine va_iast hx hb hK hP hD hS 0 1 rfl rfl (zin (e := 3560) (n := 5340) ⟨by omega, by omega⟩ (bl rfl)) dX12_aRock_259 (fun H locs hP hD hS => ?_)
      obtain ⟨f_31, hf_31⟩ : ∃ gg9, gg9 = upd Afj (iZ 3560).toNatClampNeg (iZ ((gz Afj 3560) + 1)) := ⟨_, rfl⟩
      rw [← hf_31] at hP hD
      have kp_32 := KP.up hf_31 ⟨by omega, by omega⟩ ⟨by omega, by omega⟩
      have ns_33 := NSK.fin jnk hf_31 (by omega)
      have ms_34 := MSX.n jms hf_31 (by omega) (by omega)
      refine lv_iconst (v := iZ 1) hx hb dX12_aRock_260 rfl ?_
      obtain ⟨mm0, mm1, mm2, mm3, mmF, mmG⟩ := id ms_34
      exact EWz hx hb hr hlocks hS ((1, u_3.1.2.1, u_3.1.2.2.1, u_3.1.2.2.2.1, u_3.1.2.2.2.2, Mfsj, Mfpj), 0, f_31, Nfj) rfl rfl ⟨(show (0 ≤ (u_3.1.2.2.1 : Int) ∧ (u_3.1.2.2.1 : Int) ≤ u_3.1.2.2.2.1) ∧ ((u_3.1.2.2.2.1 : Int) ≤ Msz ∧ (Msz : Int) ≤ 900) ∧ (0 ≤ (u_3.1.2.1 : Int) ∧ (u_3.1.2.1 : Int) ≤ 4) ∧ ((u_3.1.2.1 : Int) ≤ 4 * (u_3.1.2.2.2.1 - u_3.1.2.2.1)) ∧ (-1 ≤ (u_3.1.2.2.2.2 : Int) ∧ (u_3.1.2.2.2.2 : Int) ≤ 100000) from (by first | with_reducible assumption | exact (by first | with_reducible assumption | exact ⟨⟨by omega, by omega⟩, ⟨by omega, by omega⟩, ⟨by omega, by omega⟩, by omega, by omega, by omega⟩))), (show 0 ≤ (Mfsj : Int) ∧ (Mfsj : Int) ≤ 9 from (by omega)), (show KP f_31 Af from (KP.tr kp_32 jkp)), (show ((1 : Int) = 1 ∧ ∃ (q9 : Int) (F9 : Int → Int), xRock (tX Xf Msz) N (gz Af 3560) (gz Af 3678) F cu = (xBn (xTs (tX Xf Msz) 59 q9) fun r9 => .inr (r9, gz f_31 3678, F9)) ∧ cu < q9 ∧ RFX (tX Xf Msz) q9 u_3.1.2.2.1 u_3.1.2.2.2.1 u_3.1.2.1 u_3.1.2.2.2.2 ∧ MSX f_31 (gz f_31 3560) (gz f_31 3561) (gz f_31 3562) (gz f_31 3678) F9 G ∧ xNr Nfj 24 (xUp N (gz Af 3560) (xNm (tX Xf Msz) (xEn (tX Xf Msz) cu))) (gz f_31 3560) ∧ (gz f_31 3560 = gz Af 3560 + 1 ∧ gz f_31 3561 = gz Af 3561 ∧ gz f_31 3562 = gz Af 3562) ∧ NSZ f_31 ∧ (Mfsj : Int) = 0 ∧ Mfpj = Mfp) ∨ ((1 : Int) = 0 ∧ xRock (tX Xf Msz) N (gz Af 3560) (gz Af 3678) F cu = .inl (Mfsj, Mfpj) ∧ 1 ≤ (Mfsj : Int)) from (Or.inl ⟨rfl, jp, jG, jeq.trans (xR5_w (xWe_0q kt_6 ms_34.2.2.2.1)), by omega, xt_6, ⟨rfl, rfl, rfl, rfl, mmF, by rw [mm1]; exact mmG⟩, by rw [show gz f_31 3560 = gz Af 3560 + 1 from (by omega)]; exact jN, ⟨by omega, by omega, by omega⟩, ns_33, by omega, by omega⟩)), (show NFR Nfj Nf from jnf)⟩ (hP.sub [2, 3, 0, 1] rfl) (hD.sub [2, 3, 0, 1] rfl rfl) dX12_aRock_261
  have HJ177 : ∀ (Mtkj : Int) (Mfrj : Int) (Menj : Int) (Mvaj : Int) (Mfsj : Int) (Mfpj : Int) (Afj : Nat → Int32) (Nfj : Nat → Int64) (jp : Int) (jG : Int → Int) (H : Heap) (locs : List Loc) (ls : Array Slot), ((0 ≤ (Mfrj : Int) ∧ (Mfrj : Int) ≤ Menj) ∧ ((Menj : Int) ≤ Msz ∧ (Msz : Int) ≤ 900) ∧ (0 ≤ (Mtkj : Int) ∧ (Mtkj : Int) ≤ 4) ∧ ((Mtkj : Int) ≤ 4 * (Menj - Mfrj)) ∧ (-1 ≤ (Mvaj : Int) ∧ (Mvaj : Int) ≤ 100000)) → ((Mfsj : Int) = 0 ∧ Mfpj = Mfp) → (KP Afj Af) → (RFX (tX Xf Msz) jp Mfrj Menj Mtkj Mvaj) → (cu < jp) → (NSK Afj (gz Af 3560) 1) → (MSX Afj (gz Af 3560) (gz Af 3561) (gz Af 3562) (gz Af 3678) jG G) → (xNr Nfj 24 (xUp N (gz Af 3560) (xNm (tX Xf Msz) (xEn (tX Xf Msz) cu))) (gz Af 3560 + 1)) → (xRock (tX Xf Msz) N (gz Af 3560) (gz Af 3678) F cu = xR4 (tX Xf Msz) (gz Af 3560) (gz Af 3678) jp jG) → (0 ≤ gz Af 3560 ∧ gz Af 3560 < 6) → (NFR Nfj Nf) → va_P D vwCl [(hm, .inr (12, [.ref Ma, .ref Mn, .int (iZ Mst), .long Mtp, .long Mbt, .ref Ms, .ref My, .ref Mt, .ref Mp, .ref Mx, .int (iZ Mtd), .int (iZ Msz), .int (iZ Mtkj), .int (iZ Mfrj), .int (iZ Menj), .int (iZ Mvaj), .int (iZ Mfk), .int (iZ Mfpj), .int (iZ Mfsj), .int (iZ Mse), .int (iZ Mlt), .ref Mo, .int (iZ Mdp), .int (iZ Mct), .ref Mk, .ref Ml, .ref Mb, .ref Mh, .ref Mc, .int (iZ Mdr), .int (iZ Mrs), .ref Mz, .ref Mr, .ref Mq, .int (iZ Mit), .int (iZ Mmk)])), (Mx, .inl (k 0, 900, .inl Xf)), (Ma, .inl (k 1, 5340, .inl Afj)), (Mn, .inl (k 2, 36, .inr (.inl Nfj)))] H → va_D A [(hm, .inr (12, [.ref Ma, .ref Mn, .int (iZ Mst), .long Mtp, .long Mbt, .ref Ms, .ref My, .ref Mt, .ref Mp, .ref Mx, .int (iZ Mtd), .int (iZ Msz), .int (iZ Mtkj), .int (iZ Mfrj), .int (iZ Menj), .int (iZ Mvaj), .int (iZ Mfk), .int (iZ Mfpj), .int (iZ Mfsj), .int (iZ Mse), .int (iZ Mlt), .ref Mo, .int (iZ Mdp), .int (iZ Mct), .ref Mk, .ref Ml, .ref Mb, .ref Mh, .ref Mc, .int (iZ Mdr), .int (iZ Mrs), .ref Mz, .ref Mr, .ref Mq, .int (iZ Mit), .int (iZ Mmk)])), (Mx, .inl (k 0, 900, .inl Xf)), (Ma, .inl (k 1, 5340, .inl Afj)), (Mn, .inl (k 2, 36, .inr (.inl Nfj)))] → va_S A s.heap H locs → lv_has ls 3 [(2, .int (iZ (3570 + (6 * (gz Af 3560))))), (1, .int (iZ (gz Af 3560))), (0, .ref hm)] → W p l e (rj 6 0 0) s m [.ref hm].toArray below meth c H locs 0 0 (MQ below (QW (σ := ((Int × Int × Int × Int × Int × Int × Int) × (Int64) × ((Nat → Int32)) × ((Nat → Int64)))) (fun u => some (.int (iZ u.1.1))) (fun u => ((0 ≤ (u.1.2.2.1 : Int) ∧ (u.1.2.2.1 : Int) ≤ u.1.2.2.2.1) ∧ ((u.1.2.2.2.1 : Int) ≤ Msz ∧ (Msz : Int) ≤ 900) ∧ (0 ≤ (u.1.2.1 : Int) ∧ (u.1.2.1 : Int) ≤ 4) ∧ ((u.1.2.1 : Int) ≤ 4 * (u.1.2.2.2.1 - u.1.2.2.1)) ∧ (-1 ≤ (u.1.2.2.2.2.1 : Int) ∧ (u.1.2.2.2.2.1 : Int) ≤ 100000)) ∧ (0 ≤ (u.1.2.2.2.2.2.1 : Int) ∧ (u.1.2.2.2.2.2.1 : Int) ≤ 9) ∧ (KP u.2.2.1 Af) ∧ (((u.1.1 : Int) = 1 ∧ ∃ (q9 : Int) (F9 : Int → Int), xRock (tX Xf Msz) N (gz Af 3560) (gz Af 3678) F cu = (xBn (xTs (tX Xf Msz) 59 q9) fun r9 => .inr (r9, gz u.2.2.1 3678, F9)) ∧ cu < q9 ∧ RFX (tX Xf Msz) q9 u.1.2.2.1 u.1.2.2.2.1 u.1.2.1 u.1.2.2.2.2.1 ∧ MSX u.2.2.1 (gz u.2.2.1 3560) (gz u.2.2.1 3561) (gz u.2.2.1 3562) (gz u.2.2.1 3678) F9 G ∧ xNr u.2.2.2 24 (xUp N (gz Af 3560) (xNm (tX Xf Msz) (xEn (tX Xf Msz) cu))) (gz u.2.2.1 3560) ∧ (gz u.2.2.1 3560 = gz Af 3560 + 1 ∧ gz u.2.2.1 3561 = gz Af 3561 ∧ gz u.2.2.1 3562 = gz Af 3562) ∧ NSZ u.2.2.1 ∧ (u.1.2.2.2.2.2.1 : Int) = 0 ∧ u.1.2.2.2.2.2.2 = Mfp) ∨ ((u.1.1 : Int) = 0 ∧ xRock (tX Xf Msz) N (gz Af 3560) (gz Af 3678) F cu = .inl (u.1.2.2.2.2.2.1, u.1.2.2.2.2.2.2) ∧ 1 ≤ (u.1.2.2.2.2.2.1 : Int))) ∧ (NFR u.2.2.2 Nf)) (fun u => [(hm, .inr (12, [.ref Ma, .ref Mn, .int (iZ Mst), .long Mtp, .long Mbt, .ref Ms, .ref My, .ref Mt, .ref Mp, .ref Mx, .int (iZ Mtd), .int (iZ Msz), .int (iZ u.1.2.1), .int (iZ u.1.2.2.1), .int (iZ u.1.2.2.2.1), .int (iZ u.1.2.2.2.2.1), .int (iZ Mfk), .int (iZ u.1.2.2.2.2.2.2), .int (iZ u.1.2.2.2.2.2.1), .int (iZ Mse), .int (iZ Mlt), .ref Mo, .int (iZ Mdp), .int (iZ Mct), .ref Mk, .ref Ml, .ref Mb, .ref Mh, .ref Mc, .int (iZ Mdr), .int (iZ Mrs), .ref Mz, .ref Mr, .ref Mq, .int (iZ Mit), .int (iZ Mmk)])), (Mx, .inl (k 0, 900, .inl Xf)), (Ma, .inl (k 1, 5340, .inl u.2.2.1)), (Mn, .inl (k 2, 36, .inr (.inl u.2.2.2)))]) D A) [.ref hm].toArray s 0 0 A) (F0 m 177 ls []) := by
    intro Mtkj Mfrj Menj Mvaj Mfsj Mfpj Afj Nfj jp jG H locs ls jTI jFS jkp jrf jpl jnk jms jN jeq jn5 jnf hP hD hS hl
    obtain ⟨⟨ar_35, br_35⟩, cr_35, dr_35, er_35, gr_35, hr_35⟩ := id jrf
    have kr_35 := tk_1 dr_35 (xKd_rg _ _)
    have wr_35 := xKw_rg (tX Xf Msz) jp
    replace kr_35 : Unit → _ := fun _ => kr_35
    replace er_35 : Unit → _ := fun _ => er_35
    replace gr_35 : Unit → _ := fun _ => gr_35
    replace hr_35 : Unit → _ := fun _ => hr_35
    refine lv_aload_n hx hb dX12_aRock_177 rfl (lv_at hl 2 rfl) ?_
    refine lv_bipush (v := iZ 7) hx hb dX12_aRock_178 bip_7 ?_
    refine CSV (As := [.int (iZ 7)]) (rest := []) (wc := _) (wr := [(Ma, .inl (k 1, 5340, .inl Afj)), (Mn, .inl (k 2, 36, .inr (.inl Nfj)))]) hx hb hml hown hts hKK hP hD hS hA hSY hRR (y_isThere l D k sa sv hm Ma Mn Ms My Mt Mp Mx Mo Mk Ml Mb Mh Mc Mz Mr Mq Mst Mtd Msz Mtkj Mfrj Menj Mvaj Mfk Mfpj Mfsj Mse Mlt Mdp Mct Mdr Mrs Mit Mmk Mtp Mbt Xf 7 jp 5 (by first | with_reducible assumption | exact (by first | with_reducible assumption | exact ⟨⟨by omega, by omega⟩, ⟨by omega, by omega⟩, ⟨by omega, by omega⟩, by omega, by omega, by omega⟩)) jrf ⟨by omega, by omega⟩ ⟨by decide, by decide⟩) ci_X12_isThere qm_X12_192 ⟨Nat.le_of_ble_eq_true rfl, Nat.le_of_ble_eq_true rfl⟩ ⟨Nat.le_of_ble_eq_true rfl, Nat.le_of_ble_eq_true rfl⟩ [0, 1] [2, 3] rfl rfl rfl rfl rfl (dj rfl) 0 rfl rfl rfl hl.1 rfl (Nat.le_of_ble_eq_true rfl) dX12_aRock_180 (fun u_36 H locs hφ hP hD hS => ?_)
    obtain ⟨p_37, p_38⟩ : ((0 ≤ (u_36.1.2.2.1 : Int) ∧ (u_36.1.2.2.1 : Int) ≤ u_36.1.2.2.2.1) ∧ ((u_36.1.2.2.2.1 : Int) ≤ Msz ∧ (Msz : Int) ≤ 900) ∧ (0 ≤ (u_36.1.2.1 : Int) ∧ (u_36.1.2.1 : Int) ≤ 4) ∧ ((u_36.1.2.1 : Int) ≤ 4 * (u_36.1.2.2.2.1 - u_36.1.2.2.1)) ∧ (-1 ≤ (u_36.1.2.2.2.2 : Int) ∧ (u_36.1.2.2.2.2 : Int) ≤ 100000)) ∧ (((u_36.1.1 : Int) = 1 ∧ xKw (tX Xf Msz) jp = 5 ∧ ∃ q9 : Int, q9 = xEn (tX Xf Msz) jp ∧ jp < q9 ∧ RFX (tX Xf Msz) q9 u_36.1.2.2.1 u_36.1.2.2.2.1 u_36.1.2.1 u_36.1.2.2.2.2) ∨ ((u_36.1.1 : Int) = 0 ∧ ¬ xKw (tX Xf Msz) jp = 5 ∧ RFX (tX Xf Msz) jp u_36.1.2.2.1 u_36.1.2.2.2.1 u_36.1.2.1 u_36.1.2.2.2.2)) := hφ
    refine W.eq (g2 := F0 m 183 ls [.int (iZ u_36.1.1)]) rfl ?_
    rcases p_38 with ⟨qt_39, kt_39, cut_39, yt_39, lt_39, xt_39⟩ | ⟨qt_39, kt_39, xt_39⟩
    ·
      rw [qt_39]
      obtain ⟨⟨ar_40, br_40⟩, cr_40, dr_40, er_40, gr_40, hr_40⟩ := id xt_39
      have kr_40 := tk_1 dr_40 (xKd_rg _ _)
      have wr_40 := xKw_rg (tX Xf Msz) cut_39
      replace kr_40 : Unit → _ := fun _ => kr_40
      replace er_40 : Unit → _ := fun _ => er_40
      replace gr_40 : Unit → _ := fun _ => gr_40
      replace hr_40 : Unit → _ := fun _ => hr_40
      refine lv_if_eq (tgt := 225) hx hb dX12_aRock_183 rfl (fun c => absurd c (by decide)) (fun _ => ?_)
      refine lv_aload_n hx hb dX12_aRock_186 rfl (lv_at hl 2 rfl) ?_
      refine lv_iload_n hx hb dX12_aRock_187 rfl (lv_at hl 0 rfl) ?_
      refine lv_iconst (v := iZ 4) hx hb dX12_aRock_188 rfl ?_
      refine lv_iadd hx hb dX12_aRock_189 ?_
      refine lv_topi (fun x_42 ex_42 => ?_)
      obtain rfl : x_42 = iZ ((3570 + (6 * (gz Af 3560))) + 4) := ex_42.trans (iZ_add (3570 + (6 * (gz Af 3560))) 4)
      refine lv_iconst (v := iZ 0) hx hb dX12_aRock_190 rfl ?_
      refine lv_bipush (v := iZ 99) hx hb dX12_aRock_191 bip_99 ?_
      refine CWV (As := [.int (iZ ((3570 + (6 * (gz Af 3560))) + 4)), .int (iZ 0), .int (iZ 99)]) (rest := []) (wc := _) (wr := [(Mn, .inl (k 2, 36, .inr (.inl Nfj)))]) hx hb hml hown hts hKK hP hD hS hA (y_number l D k hm Ma Mn Ms My Mt Mp Mx Mo Mk Ml Mb Mh Mc Mz Mr Mq Mst Mtd Msz u_36.1.2.1 u_36.1.2.2.1 u_36.1.2.2.2.1 u_36.1.2.2.2.2 Mfk Mfpj Mfsj Mse Mlt Mdp Mct Mdr Mrs Mit Mmk Mtp Mbt Xf Afj ((3570 + (6 * (gz Af 3560))) + 4) 0 99 cut_39 (by first | with_reducible assumption | exact (by first | with_reducible assumption | exact ⟨⟨by omega, by omega⟩, ⟨by omega, by omega⟩, ⟨by omega, by omega⟩, by omega, by omega, by omega⟩)) (by omega) xt_39 ⟨by omega, by omega⟩ ⟨by omega, by omega⟩ ⟨by omega, by omega⟩) ci_X12_number qm_X12_188 ⟨Nat.le_of_ble_eq_true rfl, Nat.le_of_ble_eq_true rfl⟩ ⟨Nat.le_of_ble_eq_true rfl, Nat.le_of_ble_eq_true rfl⟩ [2, 3, 0] [1] rfl rfl rfl rfl rfl (dj rfl) 0 rfl rfl rfl hl.1 rfl (Nat.le_of_ble_eq_true rfl) dX12_aRock_193 (fun u_43 H locs hφ hP hD hS => ?_)
      obtain ⟨p_44, p_45, p_46, p_47⟩ : ((0 ≤ (u_43.1.2.2.1 : Int) ∧ (u_43.1.2.2.1 : Int) ≤ u_43.1.2.2.2.1) ∧ ((u_43.1.2.2.2.1 : Int) ≤ Msz ∧ (Msz : Int) ≤ 900) ∧ (0 ≤ (u_43.1.2.1 : Int) ∧ (u_43.1.2.1 : Int) ≤ 4) ∧ ((u_43.1.2.1 : Int) ≤ 4 * (u_43.1.2.2.2.1 - u_43.1.2.2.1)) ∧ (-1 ≤ (u_43.1.2.2.2.2.1 : Int) ∧ (u_43.1.2.2.2.2.1 : Int) ≤ 100000)) ∧ (0 ≤ (u_43.1.2.2.2.2.2.1 : Int) ∧ (u_43.1.2.2.2.2.2.1 : Int) ≤ 9) ∧ (((u_43.1.1 : Int) = 1 ∧ ∃ (q9 v9 : Int), xTn (tX Xf Msz) 0 99 cut_39 = .inr (q9, v9) ∧ cut_39 < q9 ∧ RFX (tX Xf Msz) q9 u_43.1.2.2.1 u_43.1.2.2.2.1 u_43.1.2.1 u_43.1.2.2.2.2.1 ∧ (0 ≤ v9 ∧ v9 ≤ 99) ∧ u_43.2.2.1 = upd Afj (iZ ((3570 + (6 * (gz Af 3560))) + 4)).toNatClampNeg (iZ v9) ∧ (u_43.1.2.2.2.2.2.1 : Int) = 0 ∧ u_43.1.2.2.2.2.2.2 = Mfpj) ∨ ((u_43.1.1 : Int) = 0 ∧ xTn (tX Xf Msz) 0 99 cut_39 = .inl (u_43.1.2.2.2.2.2.1, u_43.1.2.2.2.2.2.2) ∧ 1 ≤ (u_43.1.2.2.2.2.2.1 : Int))) ∧ ((u_43.1.1 : Int) = 0 → u_43.2.2.1 = Afj) := hφ
      refine W.eq (g2 := F0 m 196 ls [.int (iZ u_43.1.1)]) rfl ?_
      rcases p_46 with ⟨qt_48, cut_48, yt_48, st_48, lt_48, xt_48, rt_48, ht_48, ut_48, vt_48⟩ | ⟨qt_48, st_48, bt_48⟩
      ·
        rw [qt_48]
        obtain ⟨⟨ar_49, br_49⟩, cr_49, dr_49, er_49, gr_49, hr_49⟩ := id xt_48
        have kr_49 := tk_1 dr_49 (xKd_rg _ _)
        have wr_49 := xKw_rg (tX Xf Msz) cut_48
        replace kr_49 : Unit → _ := fun _ => kr_49
        replace er_49 : Unit → _ := fun _ => er_49
        replace gr_49 : Unit → _ := fun _ => gr_49
        replace hr_49 : Unit → _ := fun _ => hr_49
        clear p_47
        have kp_50 := KP.up ht_48 ⟨by omega, by omega⟩ ⟨by omega, by omega⟩
        have nk_51 : NSK _ _ 1 := NSK.up (w := 4) jnk ht_48 (by omega) (by omega)
        have ms_52 := MSX.upF (w := 4) jms ht_48 (by omega) (by omega) (by omega) (by omega) (by omega)
        refine lv_if_ne (tgt := 201) hx hb dX12_aRock_196 rfl (fun _ => ?_) (fun c => absurd c (by decide))
        refine lv_aload_n hx hb dX12_aRock_201 rfl (lv_at hl 2 rfl) ?_
        refine lv_bipush (v := iZ 8) hx hb dX12_aRock_202 bip_8 ?_
        refine CSV (As := [.int (iZ 8)]) (rest := []) (wc := _) (wr := [(Mn, .inl (k 2, 36, .inr (.inl Nfj))), (Ma, .inl (k 1, 5340, .inl u_43.2.2.1))]) hx hb hml hown hts hKK hP hD hS hA hSY hRR (y_isThere l D k sa sv hm Ma Mn Ms My Mt Mp Mx Mo Mk Ml Mb Mh Mc Mz Mr Mq Mst Mtd Msz u_43.1.2.1 u_43.1.2.2.1 u_43.1.2.2.2.1 u_43.1.2.2.2.2.1 Mfk u_43.1.2.2.2.2.2.2 u_43.1.2.2.2.2.2.1 Mse Mlt Mdp Mct Mdr Mrs Mit Mmk Mtp Mbt Xf 8 cut_48 6 (by first | with_reducible assumption | exact (by first | with_reducible assumption | exact ⟨⟨by omega, by omega⟩, ⟨by omega, by omega⟩, ⟨by omega, by omega⟩, by omega, by omega, by omega⟩)) xt_48 ⟨by omega, by omega⟩ ⟨by decide, by decide⟩) ci_X12_isThere qm_X12_192 ⟨Nat.le_of_ble_eq_true rfl, Nat.le_of_ble_eq_true rfl⟩ ⟨Nat.le_of_ble_eq_true rfl, Nat.le_of_ble_eq_true rfl⟩ [1, 2] [0, 3] rfl rfl rfl rfl rfl (dj rfl) 0 rfl rfl rfl hl.1 rfl (Nat.le_of_ble_eq_true rfl) dX12_aRock_204 (fun u_54 H locs hφ hP hD hS => ?_)
        obtain ⟨p_55, p_56⟩ : ((0 ≤ (u_54.1.2.2.1 : Int) ∧ (u_54.1.2.2.1 : Int) ≤ u_54.1.2.2.2.1) ∧ ((u_54.1.2.2.2.1 : Int) ≤ Msz ∧ (Msz : Int) ≤ 900) ∧ (0 ≤ (u_54.1.2.1 : Int) ∧ (u_54.1.2.1 : Int) ≤ 4) ∧ ((u_54.1.2.1 : Int) ≤ 4 * (u_54.1.2.2.2.1 - u_54.1.2.2.1)) ∧ (-1 ≤ (u_54.1.2.2.2.2 : Int) ∧ (u_54.1.2.2.2.2 : Int) ≤ 100000)) ∧ (((u_54.1.1 : Int) = 1 ∧ xKw (tX Xf Msz) cut_48 = 6 ∧ ∃ q9 : Int, q9 = xEn (tX Xf Msz) cut_48 ∧ cut_48 < q9 ∧ RFX (tX Xf Msz) q9 u_54.1.2.2.1 u_54.1.2.2.2.1 u_54.1.2.1 u_54.1.2.2.2.2) ∨ ((u_54.1.1 : Int) = 0 ∧ ¬ xKw (tX Xf Msz) cut_48 = 6 ∧ RFX (tX Xf Msz) cut_48 u_54.1.2.2.1 u_54.1.2.2.2.1 u_54.1.2.1 u_54.1.2.2.2.2)) := hφ
        refine W.eq (g2 := F0 m 207 ls [.int (iZ u_54.1.1)]) rfl ?_
        rcases p_56 with ⟨qt_57, kt_57, cut_57, yt_57, lt_57, xt_57⟩ | ⟨qt_57, kt_57, xt_57⟩
        ·
          rw [qt_57]
          obtain ⟨⟨ar_58, br_58⟩, cr_58, dr_58, er_58, gr_58, hr_58⟩ := id xt_57
          have kr_58 := tk_1 dr_58 (xKd_rg _ _)
          have wr_58 := xKw_rg (tX Xf Msz) cut_57
          replace kr_58 : Unit → _ := fun _ => kr_58
          replace er_58 : Unit → _ := fun _ => er_58
          replace gr_58 : Unit → _ := fun _ => gr_58
          replace hr_58 : Unit → _ := fun _ => hr_58
          refine lv_if_eq (tgt := 225) hx hb dX12_aRock_207 rfl (fun c => absurd c (by decide)) (fun _ => ?_)
          refine lv_aload_n hx hb dX12_aRock_210 rfl (lv_at hl 2 rfl) ?_
          refine lv_iload_n hx hb dX12_aRock_211 rfl (lv_at hl 0 rfl) ?_
          refine lv_iconst (v := iZ 5) hx hb dX12_aRock_212 rfl ?_
          refine lv_iadd hx hb dX12_aRock_213 ?_
          refine lv_topi (fun x_60 ex_60 => ?_)
          obtain rfl : x_60 = iZ ((3570 + (6 * (gz Af 3560))) + 5) := ex_60.trans (iZ_add (3570 + (6 * (gz Af 3560))) 5)
          refine lv_iconst (v := iZ 0) hx hb dX12_aRock_214 rfl ?_
          refine lv_bipush (v := iZ 20) hx hb dX12_aRock_215 bip_20 ?_
          refine CWV (As := [.int (iZ ((3570 + (6 * (gz Af 3560))) + 5)), .int (iZ 0), .int (iZ 20)]) (rest := []) (wc := _) (wr := [(Mn, .inl (k 2, 36, .inr (.inl Nfj)))]) hx hb hml hown hts hKK hP hD hS hA (y_number l D k hm Ma Mn Ms My Mt Mp Mx Mo Mk Ml Mb Mh Mc Mz Mr Mq Mst Mtd Msz u_54.1.2.1 u_54.1.2.2.1 u_54.1.2.2.2.1 u_54.1.2.2.2.2 Mfk u_43.1.2.2.2.2.2.2 u_43.1.2.2.2.2.2.1 Mse Mlt Mdp Mct Mdr Mrs Mit Mmk Mtp Mbt Xf u_43.2.2.1 ((3570 + (6 * (gz Af 3560))) + 5) 0 20 cut_57 (by first | with_reducible assumption | exact (by first | with_reducible assumption | exact ⟨⟨by omega, by omega⟩, ⟨by omega, by omega⟩, ⟨by omega, by omega⟩, by omega, by omega, by omega⟩)) (by omega) xt_57 ⟨by omega, by omega⟩ ⟨by omega, by omega⟩ ⟨by omega, by omega⟩) ci_X12_number qm_X12_188 ⟨Nat.le_of_ble_eq_true rfl, Nat.le_of_ble_eq_true rfl⟩ ⟨Nat.le_of_ble_eq_true rfl, Nat.le_of_ble_eq_true rfl⟩ [2, 3, 1] [0] rfl rfl rfl rfl rfl (dj rfl) 0 rfl rfl rfl hl.1 rfl (Nat.le_of_ble_eq_true rfl) dX12_aRock_217 (fun u_61 H locs hφ hP hD hS => ?_)
          obtain ⟨p_62, p_63, p_64, p_65⟩ : ((0 ≤ (u_61.1.2.2.1 : Int) ∧ (u_61.1.2.2.1 : Int) ≤ u_61.1.2.2.2.1) ∧ ((u_61.1.2.2.2.1 : Int) ≤ Msz ∧ (Msz : Int) ≤ 900) ∧ (0 ≤ (u_61.1.2.1 : Int) ∧ (u_61.1.2.1 : Int) ≤ 4) ∧ ((u_61.1.2.1 : Int) ≤ 4 * (u_61.1.2.2.2.1 - u_61.1.2.2.1)) ∧ (-1 ≤ (u_61.1.2.2.2.2.1 : Int) ∧ (u_61.1.2.2.2.2.1 : Int) ≤ 100000)) ∧ (0 ≤ (u_61.1.2.2.2.2.2.1 : Int) ∧ (u_61.1.2.2.2.2.2.1 : Int) ≤ 9) ∧ (((u_61.1.1 : Int) = 1 ∧ ∃ (q9 v9 : Int), xTn (tX Xf Msz) 0 20 cut_57 = .inr (q9, v9) ∧ cut_57 < q9 ∧ RFX (tX Xf Msz) q9 u_61.1.2.2.1 u_61.1.2.2.2.1 u_61.1.2.1 u_61.1.2.2.2.2.1 ∧ (0 ≤ v9 ∧ v9 ≤ 20) ∧ u_61.2.2.1 = upd u_43.2.2.1 (iZ ((3570 + (6 * (gz Af 3560))) + 5)).toNatClampNeg (iZ v9) ∧ (u_61.1.2.2.2.2.2.1 : Int) = 0 ∧ u_61.1.2.2.2.2.2.2 = u_43.1.2.2.2.2.2.2) ∨ ((u_61.1.1 : Int) = 0 ∧ xTn (tX Xf Msz) 0 20 cut_57 = .inl (u_61.1.2.2.2.2.2.1, u_61.1.2.2.2.2.2.2) ∧ 1 ≤ (u_61.1.2.2.2.2.2.1 : Int))) ∧ ((u_61.1.1 : Int) = 0 → u_61.2.2.1 = u_43.2.2.1) := hφ
          refine W.eq (g2 := F0 m 220 ls [.int (iZ u_61.1.1)]) rfl ?_
          rcases p_64 with ⟨qt_66, cut_66, yt_66, st_66, lt_66, xt_66, rt_66, ht_66, ut_66, vt_66⟩ | ⟨qt_66, st_66, bt_66⟩
          ·
            rw [qt_66]
            obtain ⟨⟨ar_67, br_67⟩, cr_67, dr_67, er_67, gr_67, hr_67⟩ := id xt_66
            have kr_67 := tk_1 dr_67 (xKd_rg _ _)
            have wr_67 := xKw_rg (tX Xf Msz) cut_66
            replace kr_67 : Unit → _ := fun _ => kr_67
            replace er_67 : Unit → _ := fun _ => er_67
            replace gr_67 : Unit → _ := fun _ => gr_67
            replace hr_67 : Unit → _ := fun _ => hr_67
            clear p_65
            have kp_68 := KP.up ht_66 ⟨by omega, by omega⟩ ⟨by omega, by omega⟩
            have nk_69 : NSK _ _ 1 := NSK.up (w := 5) nk_51 ht_66 (by omega) (by omega)
            have ms_70 := MSX.upF (w := 5) ms_52 ht_66 (by omega) (by omega) (by omega) (by omega) (by omega)
            refine lv_if_ne (tgt := 225) hx hb dX12_aRock_220 rfl (fun _ => ?_) (fun c => absurd c (by decide))
            exact HJ225 u_61.1.2.1 u_61.1.2.2.1 u_61.1.2.2.2.1 u_61.1.2.2.2.2.1 u_61.1.2.2.2.2.2.1 u_61.1.2.2.2.2.2.2 u_61.2.2.1 Nfj cut_66 (xUp (xUp jG (((gz Af 3560) * 6) + 4) yt_48) (((gz Af 3560) * 6) + 5) yt_66) _ _ _ (show (0 ≤ (u_61.1.2.2.1 : Int) ∧ (u_61.1.2.2.1 : Int) ≤ u_61.1.2.2.2.1) ∧ ((u_61.1.2.2.2.1 : Int) ≤ Msz ∧ (Msz : Int) ≤ 900) ∧ (0 ≤ (u_61.1.2.1 : Int) ∧ (u_61.1.2.1 : Int) ≤ 4) ∧ ((u_61.1.2.1 : Int) ≤ 4 * (u_61.1.2.2.2.1 - u_61.1.2.2.1)) ∧ (-1 ≤ (u_61.1.2.2.2.2.1 : Int) ∧ (u_61.1.2.2.2.2.1 : Int) ≤ 100000) from (by first | with_reducible assumption | exact (by first | with_reducible assumption | exact ⟨⟨by omega, by omega⟩, ⟨by omega, by omega⟩, ⟨by omega, by omega⟩, by omega, by omega, by omega⟩))) (show (u_61.1.2.2.2.2.2.1 : Int) = 0 ∧ u_61.1.2.2.2.2.2.2 = Mfp from ⟨by omega, by omega⟩) (show KP u_61.2.2.1 Af from (KP.tr kp_68 (KP.tr kp_50 jkp))) (show RFX (tX Xf Msz) cut_66 u_61.1.2.2.1 u_61.1.2.2.2.1 u_61.1.2.1 u_61.1.2.2.2.2.1 from xt_66) (show cu < cut_66 from (by omega)) (show NSK u_61.2.2.1 (gz Af 3560) 1 from nk_69) (show MSX u_61.2.2.1 (gz Af 3560) (gz Af 3561) (gz Af 3562) (gz Af 3678) (xUp (xUp jG (((gz Af 3560) * 6) + 4) yt_48) (((gz Af 3560) * 6) + 5) yt_66) G from ms_70) (show xNr Nfj 24 (xUp N (gz Af 3560) (xNm (tX Xf Msz) (xEn (tX Xf Msz) cu))) (gz Af 3560 + 1) from jN) (show xRock (tX Xf Msz) N (gz Af 3560) (gz Af 3678) F cu = xR5 (tX Xf Msz) (gz Af 3560) (gz Af 3678) cut_66 (xUp (xUp jG (((gz Af 3560) * 6) + 4) yt_48) (((gz Af 3560) * 6) + 5) yt_66) from (jeq.trans (xR4_r (xPr_1 kt_39 (xFF_r (xTw_1 kt_39 yt_39) st_48) (xOF_1 kt_57 (xFF_r (xTw_1 kt_57 yt_57) st_66)))))) (show 0 ≤ gz Af 3560 ∧ gz Af 3560 < 6 from ⟨by omega, by omega⟩) (show NFR Nfj Nf from jnf) (hP.sub [1, 2, 3, 0] rfl) (hD.sub [1, 2, 3, 0] rfl rfl) hS (lv_sub hl [0, 1, 2] rfl)
          ·
            rw [qt_66]
            replace p_65 := p_65 qt_66
            have kp_72 : KP u_61.2.2.1 u_43.2.2.1 := by rw [p_65]; exact KP.rf _
            refine lv_if_ne (tgt := 225) hx hb dX12_aRock_220 rfl (fun c => absurd (by decide) c) (fun _ => ?_)
            refine lv_iconst (v := iZ 0) hx hb dX12_aRock_223 rfl ?_
            exact EWz hx hb hr hlocks hS ((0, u_61.1.2.1, u_61.1.2.2.1, u_61.1.2.2.2.1, u_61.1.2.2.2.2.1, u_61.1.2.2.2.2.2.1, u_61.1.2.2.2.2.2.2), 0, u_61.2.2.1, Nfj) rfl rfl ⟨(show (0 ≤ (u_61.1.2.2.1 : Int) ∧ (u_61.1.2.2.1 : Int) ≤ u_61.1.2.2.2.1) ∧ ((u_61.1.2.2.2.1 : Int) ≤ Msz ∧ (Msz : Int) ≤ 900) ∧ (0 ≤ (u_61.1.2.1 : Int) ∧ (u_61.1.2.1 : Int) ≤ 4) ∧ ((u_61.1.2.1 : Int) ≤ 4 * (u_61.1.2.2.2.1 - u_61.1.2.2.1)) ∧ (-1 ≤ (u_61.1.2.2.2.2.1 : Int) ∧ (u_61.1.2.2.2.2.1 : Int) ≤ 100000) from (by first | with_reducible assumption | exact (by first | with_reducible assumption | exact ⟨⟨by omega, by omega⟩, ⟨by omega, by omega⟩, ⟨by omega, by omega⟩, by omega, by omega, by omega⟩))), (show 0 ≤ (u_61.1.2.2.2.2.2.1 : Int) ∧ (u_61.1.2.2.2.2.2.1 : Int) ≤ 9 from (by omega)), (show KP u_61.2.2.1 Af from (KP.tr kp_72 (KP.tr kp_50 jkp))), (show ((0 : Int) = 1 ∧ ∃ (q9 : Int) (F9 : Int → Int), xRock (tX Xf Msz) N (gz Af 3560) (gz Af 3678) F cu = (xBn (xTs (tX Xf Msz) 59 q9) fun r9 => .inr (r9, gz u_61.2.2.1 3678, F9)) ∧ cu < q9 ∧ RFX (tX Xf Msz) q9 u_61.1.2.2.1 u_61.1.2.2.2.1 u_61.1.2.1 u_61.1.2.2.2.2.1 ∧ MSX u_61.2.2.1 (gz u_61.2.2.1 3560) (gz u_61.2.2.1 3561) (gz u_61.2.2.1 3562) (gz u_61.2.2.1 3678) F9 G ∧ xNr Nfj 24 (xUp N (gz Af 3560) (xNm (tX Xf Msz) (xEn (tX Xf Msz) cu))) (gz u_61.2.2.1 3560) ∧ (gz u_61.2.2.1 3560 = gz Af 3560 + 1 ∧ gz u_61.2.2.1 3561 = gz Af 3561 ∧ gz u_61.2.2.1 3562 = gz Af 3562) ∧ NSZ u_61.2.2.1 ∧ (u_61.1.2.2.2.2.2.1 : Int) = 0 ∧ u_61.1.2.2.2.2.2.2 = Mfp) ∨ ((0 : Int) = 0 ∧ xRock (tX Xf Msz) N (gz Af 3560) (gz Af 3678) F cu = .inl (u_61.1.2.2.2.2.2.1, u_61.1.2.2.2.2.2.2) ∧ 1 ≤ (u_61.1.2.2.2.2.2.1 : Int)) from (Or.inr ⟨rfl, (jeq.trans (xR4_l (xPr_1 kt_39 (xFF_r (xTw_1 kt_39 yt_39) st_48) (xOF_1 kt_57 (xFF_b (xTw_1 kt_57 yt_57) st_66))))), by omega⟩)), (show NFR Nfj Nf from jnf)⟩ (hP.sub [1, 2, 3, 0] rfl) (hD.sub [1, 2, 3, 0] rfl rfl) dX12_aRock_224
        ·
          rw [qt_57]
          obtain ⟨⟨ar_74, br_74⟩, cr_74, dr_74, er_74, gr_74, hr_74⟩ := id xt_57
          have kr_74 := tk_1 dr_74 (xKd_rg _ _)
          have wr_74 := xKw_rg (tX Xf Msz) cut_48
          replace kr_74 : Unit → _ := fun _ => kr_74
          replace er_74 : Unit → _ := fun _ => er_74
          replace gr_74 : Unit → _ := fun _ => gr_74
          replace hr_74 : Unit → _ := fun _ => hr_74
          refine lv_if_eq (tgt := 225) hx hb dX12_aRock_207 rfl (fun _ => ?_) (fun c => absurd (by decide) c)
          exact HJ225 u_54.1.2.1 u_54.1.2.2.1 u_54.1.2.2.2.1 u_54.1.2.2.2.2 u_43.1.2.2.2.2.2.1 u_43.1.2.2.2.2.2.2 u_43.2.2.1 Nfj cut_48 (xUp jG (((gz Af 3560) * 6) + 4) yt_48) _ _ _ (show (0 ≤ (u_54.1.2.2.1 : Int) ∧ (u_54.1.2.2.1 : Int) ≤ u_54.1.2.2.2.1) ∧ ((u_54.1.2.2.2.1 : Int) ≤ Msz ∧ (Msz : Int) ≤ 900) ∧ (0 ≤ (u_54.1.2.1 : Int) ∧ (u_54.1.2.1 : Int) ≤ 4) ∧ ((u_54.1.2.1 : Int) ≤ 4 * (u_54.1.2.2.2.1 - u_54.1.2.2.1)) ∧ (-1 ≤ (u_54.1.2.2.2.2 : Int) ∧ (u_54.1.2.2.2.2 : Int) ≤ 100000) from (by first | with_reducible assumption | exact (by first | with_reducible assumption | exact ⟨⟨by omega, by omega⟩, ⟨by omega, by omega⟩, ⟨by omega, by omega⟩, by omega, by omega, by omega⟩))) (show (u_43.1.2.2.2.2.2.1 : Int) = 0 ∧ u_43.1.2.2.2.2.2.2 = Mfp from ⟨by omega, by omega⟩) (show KP u_43.2.2.1 Af from (KP.tr kp_50 jkp)) (show RFX (tX Xf Msz) cut_48 u_54.1.2.2.1 u_54.1.2.2.2.1 u_54.1.2.1 u_54.1.2.2.2.2 from xt_57) (show cu < cut_48 from (by omega)) (show NSK u_43.2.2.1 (gz Af 3560) 1 from nk_51) (show MSX u_43.2.2.1 (gz Af 3560) (gz Af 3561) (gz Af 3562) (gz Af 3678) (xUp jG (((gz Af 3560) * 6) + 4) yt_48) G from ms_52) (show xNr Nfj 24 (xUp N (gz Af 3560) (xNm (tX Xf Msz) (xEn (tX Xf Msz) cu))) (gz Af 3560 + 1) from jN) (show xRock (tX Xf Msz) N (gz Af 3560) (gz Af 3678) F cu = xR5 (tX Xf Msz) (gz Af 3560) (gz Af 3678) cut_48 (xUp jG (((gz Af 3560) * 6) + 4) yt_48) from (jeq.trans (xR4_r (xPr_1 kt_39 (xFF_r (xTw_1 kt_39 yt_39) st_48) (xOF_0 kt_57))))) (show 0 ≤ gz Af 3560 ∧ gz Af 3560 < 6 from ⟨by omega, by omega⟩) (show NFR Nfj Nf from jnf) (hP.sub [2, 3, 1, 0] rfl) (hD.sub [2, 3, 1, 0] rfl rfl) hS (lv_sub hl [0, 1, 2] rfl)
      ·
        rw [qt_48]
        replace p_47 := p_47 qt_48
        have kp_76 : KP u_43.2.2.1 Afj := by rw [p_47]; exact KP.rf _
        refine lv_if_ne (tgt := 201) hx hb dX12_aRock_196 rfl (fun c => absurd (by decide) c) (fun _ => ?_)
        refine lv_iconst (v := iZ 0) hx hb dX12_aRock_199 rfl ?_
        exact EWz hx hb hr hlocks hS ((0, u_43.1.2.1, u_43.1.2.2.1, u_43.1.2.2.2.1, u_43.1.2.2.2.2.1, u_43.1.2.2.2.2.2.1, u_43.1.2.2.2.2.2.2), 0, u_43.2.2.1, Nfj) rfl rfl ⟨(show (0 ≤ (u_43.1.2.2.1 : Int) ∧ (u_43.1.2.2.1 : Int) ≤ u_43.1.2.2.2.1) ∧ ((u_43.1.2.2.2.1 : Int) ≤ Msz ∧ (Msz : Int) ≤ 900) ∧ (0 ≤ (u_43.1.2.1 : Int) ∧ (u_43.1.2.1 : Int) ≤ 4) ∧ ((u_43.1.2.1 : Int) ≤ 4 * (u_43.1.2.2.2.1 - u_43.1.2.2.1)) ∧ (-1 ≤ (u_43.1.2.2.2.2.1 : Int) ∧ (u_43.1.2.2.2.2.1 : Int) ≤ 100000) from (by first | with_reducible assumption | exact (by first | with_reducible assumption | exact ⟨⟨by omega, by omega⟩, ⟨by omega, by omega⟩, ⟨by omega, by omega⟩, by omega, by omega, by omega⟩))), (show 0 ≤ (u_43.1.2.2.2.2.2.1 : Int) ∧ (u_43.1.2.2.2.2.2.1 : Int) ≤ 9 from (by omega)), (show KP u_43.2.2.1 Af from (KP.tr kp_76 jkp)), (show ((0 : Int) = 1 ∧ ∃ (q9 : Int) (F9 : Int → Int), xRock (tX Xf Msz) N (gz Af 3560) (gz Af 3678) F cu = (xBn (xTs (tX Xf Msz) 59 q9) fun r9 => .inr (r9, gz u_43.2.2.1 3678, F9)) ∧ cu < q9 ∧ RFX (tX Xf Msz) q9 u_43.1.2.2.1 u_43.1.2.2.2.1 u_43.1.2.1 u_43.1.2.2.2.2.1 ∧ MSX u_43.2.2.1 (gz u_43.2.2.1 3560) (gz u_43.2.2.1 3561) (gz u_43.2.2.1 3562) (gz u_43.2.2.1 3678) F9 G ∧ xNr Nfj 24 (xUp N (gz Af 3560) (xNm (tX Xf Msz) (xEn (tX Xf Msz) cu))) (gz u_43.2.2.1 3560) ∧ (gz u_43.2.2.1 3560 = gz Af 3560 + 1 ∧ gz u_43.2.2.1 3561 = gz Af 3561 ∧ gz u_43.2.2.1 3562 = gz Af 3562) ∧ NSZ u_43.2.2.1 ∧ (u_43.1.2.2.2.2.2.1 : Int) = 0 ∧ u_43.1.2.2.2.2.2.2 = Mfp) ∨ ((0 : Int) = 0 ∧ xRock (tX Xf Msz) N (gz Af 3560) (gz Af 3678) F cu = .inl (u_43.1.2.2.2.2.2.1, u_43.1.2.2.2.2.2.2) ∧ 1 ≤ (u_43.1.2.2.2.2.2.1 : Int)) from (Or.inr ⟨rfl, (jeq.trans (xR4_l (xPr_l kt_39 (xFF_b (xTw_1 kt_39 yt_39) st_48)))), by omega⟩)), (show NFR Nfj Nf from jnf)⟩ (hP.sub [1, 2, 3, 0] rfl) (hD.sub [1, 2, 3, 0] rfl rfl) dX12_aRock_200
    ·
      rw [qt_39]
      obtain ⟨⟨ar_78, br_78⟩, cr_78, dr_78, er_78, gr_78, hr_78⟩ := id xt_39
      have kr_78 := tk_1 dr_78 (xKd_rg _ _)
      have wr_78 := xKw_rg (tX Xf Msz) jp
      replace kr_78 : Unit → _ := fun _ => kr_78
      replace er_78 : Unit → _ := fun _ => er_78
      replace gr_78 : Unit → _ := fun _ => gr_78
      replace hr_78 : Unit → _ := fun _ => hr_78
      refine lv_if_eq (tgt := 225) hx hb dX12_aRock_183 rfl (fun _ => ?_) (fun c => absurd (by decide) c)
      exact HJ225 u_36.1.2.1 u_36.1.2.2.1 u_36.1.2.2.2.1 u_36.1.2.2.2.2 Mfsj Mfpj Afj Nfj jp jG _ _ _ (show (0 ≤ (u_36.1.2.2.1 : Int) ∧ (u_36.1.2.2.1 : Int) ≤ u_36.1.2.2.2.1) ∧ ((u_36.1.2.2.2.1 : Int) ≤ Msz ∧ (Msz : Int) ≤ 900) ∧ (0 ≤ (u_36.1.2.1 : Int) ∧ (u_36.1.2.1 : Int) ≤ 4) ∧ ((u_36.1.2.1 : Int) ≤ 4 * (u_36.1.2.2.2.1 - u_36.1.2.2.1)) ∧ (-1 ≤ (u_36.1.2.2.2.2 : Int) ∧ (u_36.1.2.2.2.2 : Int) ≤ 100000) from (by first | with_reducible assumption | exact (by first | with_reducible assumption | exact ⟨⟨by omega, by omega⟩, ⟨by omega, by omega⟩, ⟨by omega, by omega⟩, by omega, by omega, by omega⟩))) (show (Mfsj : Int) = 0 ∧ Mfpj = Mfp from ⟨by omega, by omega⟩) (show KP Afj Af from jkp) (show RFX (tX Xf Msz) jp u_36.1.2.2.1 u_36.1.2.2.2.1 u_36.1.2.1 u_36.1.2.2.2.2 from xt_39) (show cu < jp from (by omega)) (show NSK Afj (gz Af 3560) 1 from jnk) (show MSX Afj (gz Af 3560) (gz Af 3561) (gz Af 3562) (gz Af 3678) jG G from jms) (show xNr Nfj 24 (xUp N (gz Af 3560) (xNm (tX Xf Msz) (xEn (tX Xf Msz) cu))) (gz Af 3560 + 1) from jN) (show xRock (tX Xf Msz) N (gz Af 3560) (gz Af 3678) F cu = xR5 (tX Xf Msz) (gz Af 3560) (gz Af 3678) jp jG from (jeq.trans (xR4_r (xPr_0 kt_39)))) (show 0 ≤ gz Af 3560 ∧ gz Af 3560 < 6 from ⟨by omega, by omega⟩) (show NFR Nfj Nf from jnf) (hP.sub [2, 3, 0, 1] rfl) (hD.sub [2, 3, 0, 1] rfl rfl) hS (lv_sub hl [0, 1, 2] rfl)
  have HJ153 : ∀ (Mtkj : Int) (Mfrj : Int) (Menj : Int) (Mvaj : Int) (Mfsj : Int) (Mfpj : Int) (Afj : Nat → Int32) (Nfj : Nat → Int64) (jp : Int) (jG : Int → Int) (H : Heap) (locs : List Loc) (ls : Array Slot), ((0 ≤ (Mfrj : Int) ∧ (Mfrj : Int) ≤ Menj) ∧ ((Menj : Int) ≤ Msz ∧ (Msz : Int) ≤ 900) ∧ (0 ≤ (Mtkj : Int) ∧ (Mtkj : Int) ≤ 4) ∧ ((Mtkj : Int) ≤ 4 * (Menj - Mfrj)) ∧ (-1 ≤ (Mvaj : Int) ∧ (Mvaj : Int) ≤ 100000)) → ((Mfsj : Int) = 0 ∧ Mfpj = Mfp) → (KP Afj Af) → (RFX (tX Xf Msz) jp Mfrj Menj Mtkj Mvaj) → (cu < jp) → (NSK Afj (gz Af 3560) 1) → (MSX Afj (gz Af 3560) (gz Af 3561) (gz Af 3562) (gz Af 3678) jG G) → (xNr Nfj 24 (xUp N (gz Af 3560) (xNm (tX Xf Msz) (xEn (tX Xf Msz) cu))) (gz Af 3560 + 1)) → (xRock (tX Xf Msz) N (gz Af 3560) (gz Af 3678) F cu = xR3 (tX Xf Msz) (gz Af 3560) (gz Af 3678) jp jG) → (0 ≤ gz Af 3560 ∧ gz Af 3560 < 6) → (NFR Nfj Nf) → va_P D vwCl [(hm, .inr (12, [.ref Ma, .ref Mn, .int (iZ Mst), .long Mtp, .long Mbt, .ref Ms, .ref My, .ref Mt, .ref Mp, .ref Mx, .int (iZ Mtd), .int (iZ Msz), .int (iZ Mtkj), .int (iZ Mfrj), .int (iZ Menj), .int (iZ Mvaj), .int (iZ Mfk), .int (iZ Mfpj), .int (iZ Mfsj), .int (iZ Mse), .int (iZ Mlt), .ref Mo, .int (iZ Mdp), .int (iZ Mct), .ref Mk, .ref Ml, .ref Mb, .ref Mh, .ref Mc, .int (iZ Mdr), .int (iZ Mrs), .ref Mz, .ref Mr, .ref Mq, .int (iZ Mit), .int (iZ Mmk)])), (Mx, .inl (k 0, 900, .inl Xf)), (Ma, .inl (k 1, 5340, .inl Afj)), (Mn, .inl (k 2, 36, .inr (.inl Nfj)))] H → va_D A [(hm, .inr (12, [.ref Ma, .ref Mn, .int (iZ Mst), .long Mtp, .long Mbt, .ref Ms, .ref My, .ref Mt, .ref Mp, .ref Mx, .int (iZ Mtd), .int (iZ Msz), .int (iZ Mtkj), .int (iZ Mfrj), .int (iZ Menj), .int (iZ Mvaj), .int (iZ Mfk), .int (iZ Mfpj), .int (iZ Mfsj), .int (iZ Mse), .int (iZ Mlt), .ref Mo, .int (iZ Mdp), .int (iZ Mct), .ref Mk, .ref Ml, .ref Mb, .ref Mh, .ref Mc, .int (iZ Mdr), .int (iZ Mrs), .ref Mz, .ref Mr, .ref Mq, .int (iZ Mit), .int (iZ Mmk)])), (Mx, .inl (k 0, 900, .inl Xf)), (Ma, .inl (k 1, 5340, .inl Afj)), (Mn, .inl (k 2, 36, .inr (.inl Nfj)))] → va_S A s.heap H locs → lv_has ls 3 [(2, .int (iZ (3570 + (6 * (gz Af 3560))))), (1, .int (iZ (gz Af 3560))), (0, .ref hm)] → W p l e (rj 6 0 0) s m [.ref hm].toArray below meth c H locs 0 0 (MQ below (QW (σ := ((Int × Int × Int × Int × Int × Int × Int) × (Int64) × ((Nat → Int32)) × ((Nat → Int64)))) (fun u => some (.int (iZ u.1.1))) (fun u => ((0 ≤ (u.1.2.2.1 : Int) ∧ (u.1.2.2.1 : Int) ≤ u.1.2.2.2.1) ∧ ((u.1.2.2.2.1 : Int) ≤ Msz ∧ (Msz : Int) ≤ 900) ∧ (0 ≤ (u.1.2.1 : Int) ∧ (u.1.2.1 : Int) ≤ 4) ∧ ((u.1.2.1 : Int) ≤ 4 * (u.1.2.2.2.1 - u.1.2.2.1)) ∧ (-1 ≤ (u.1.2.2.2.2.1 : Int) ∧ (u.1.2.2.2.2.1 : Int) ≤ 100000)) ∧ (0 ≤ (u.1.2.2.2.2.2.1 : Int) ∧ (u.1.2.2.2.2.2.1 : Int) ≤ 9) ∧ (KP u.2.2.1 Af) ∧ (((u.1.1 : Int) = 1 ∧ ∃ (q9 : Int) (F9 : Int → Int), xRock (tX Xf Msz) N (gz Af 3560) (gz Af 3678) F cu = (xBn (xTs (tX Xf Msz) 59 q9) fun r9 => .inr (r9, gz u.2.2.1 3678, F9)) ∧ cu < q9 ∧ RFX (tX Xf Msz) q9 u.1.2.2.1 u.1.2.2.2.1 u.1.2.1 u.1.2.2.2.2.1 ∧ MSX u.2.2.1 (gz u.2.2.1 3560) (gz u.2.2.1 3561) (gz u.2.2.1 3562) (gz u.2.2.1 3678) F9 G ∧ xNr u.2.2.2 24 (xUp N (gz Af 3560) (xNm (tX Xf Msz) (xEn (tX Xf Msz) cu))) (gz u.2.2.1 3560) ∧ (gz u.2.2.1 3560 = gz Af 3560 + 1 ∧ gz u.2.2.1 3561 = gz Af 3561 ∧ gz u.2.2.1 3562 = gz Af 3562) ∧ NSZ u.2.2.1 ∧ (u.1.2.2.2.2.2.1 : Int) = 0 ∧ u.1.2.2.2.2.2.2 = Mfp) ∨ ((u.1.1 : Int) = 0 ∧ xRock (tX Xf Msz) N (gz Af 3560) (gz Af 3678) F cu = .inl (u.1.2.2.2.2.2.1, u.1.2.2.2.2.2.2) ∧ 1 ≤ (u.1.2.2.2.2.2.1 : Int))) ∧ (NFR u.2.2.2 Nf)) (fun u => [(hm, .inr (12, [.ref Ma, .ref Mn, .int (iZ Mst), .long Mtp, .long Mbt, .ref Ms, .ref My, .ref Mt, .ref Mp, .ref Mx, .int (iZ Mtd), .int (iZ Msz), .int (iZ u.1.2.1), .int (iZ u.1.2.2.1), .int (iZ u.1.2.2.2.1), .int (iZ u.1.2.2.2.2.1), .int (iZ Mfk), .int (iZ u.1.2.2.2.2.2.2), .int (iZ u.1.2.2.2.2.2.1), .int (iZ Mse), .int (iZ Mlt), .ref Mo, .int (iZ Mdp), .int (iZ Mct), .ref Mk, .ref Ml, .ref Mb, .ref Mh, .ref Mc, .int (iZ Mdr), .int (iZ Mrs), .ref Mz, .ref Mr, .ref Mq, .int (iZ Mit), .int (iZ Mmk)])), (Mx, .inl (k 0, 900, .inl Xf)), (Ma, .inl (k 1, 5340, .inl u.2.2.1)), (Mn, .inl (k 2, 36, .inr (.inl u.2.2.2)))]) D A) [.ref hm].toArray s 0 0 A) (F0 m 153 ls []) := by
    intro Mtkj Mfrj Menj Mvaj Mfsj Mfpj Afj Nfj jp jG H locs ls jTI jFS jkp jrf jpl jnk jms jN jeq jn5 jnf hP hD hS hl
    obtain ⟨⟨ar_80, br_80⟩, cr_80, dr_80, er_80, gr_80, hr_80⟩ := id jrf
    have kr_80 := tk_1 dr_80 (xKd_rg _ _)
    have wr_80 := xKw_rg (tX Xf Msz) jp
    replace kr_80 : Unit → _ := fun _ => kr_80
    replace er_80 : Unit → _ := fun _ => er_80
    replace gr_80 : Unit → _ := fun _ => gr_80
    replace hr_80 : Unit → _ := fun _ => hr_80
    refine lv_aload_n hx hb dX12_aRock_153 rfl (lv_at hl 2 rfl) ?_
    refine lv_bipush (v := iZ 6) hx hb dX12_aRock_154 bip_6 ?_
    refine CSV (As := [.int (iZ 6)]) (rest := []) (wc := _) (wr := [(Ma, .inl (k 1, 5340, .inl Afj)), (Mn, .inl (k 2, 36, .inr (.inl Nfj)))]) hx hb hml hown hts hKK hP hD hS hA hSY hRR (y_isThere l D k sa sv hm Ma Mn Ms My Mt Mp Mx Mo Mk Ml Mb Mh Mc Mz Mr Mq Mst Mtd Msz Mtkj Mfrj Menj Mvaj Mfk Mfpj Mfsj Mse Mlt Mdp Mct Mdr Mrs Mit Mmk Mtp Mbt Xf 6 jp 4 (by first | with_reducible assumption | exact (by first | with_reducible assumption | exact ⟨⟨by omega, by omega⟩, ⟨by omega, by omega⟩, ⟨by omega, by omega⟩, by omega, by omega, by omega⟩)) jrf ⟨by omega, by omega⟩ ⟨by decide, by decide⟩) ci_X12_isThere qm_X12_192 ⟨Nat.le_of_ble_eq_true rfl, Nat.le_of_ble_eq_true rfl⟩ ⟨Nat.le_of_ble_eq_true rfl, Nat.le_of_ble_eq_true rfl⟩ [0, 1] [2, 3] rfl rfl rfl rfl rfl (dj rfl) 0 rfl rfl rfl hl.1 rfl (Nat.le_of_ble_eq_true rfl) dX12_aRock_156 (fun u_81 H locs hφ hP hD hS => ?_)
    obtain ⟨p_82, p_83⟩ : ((0 ≤ (u_81.1.2.2.1 : Int) ∧ (u_81.1.2.2.1 : Int) ≤ u_81.1.2.2.2.1) ∧ ((u_81.1.2.2.2.1 : Int) ≤ Msz ∧ (Msz : Int) ≤ 900) ∧ (0 ≤ (u_81.1.2.1 : Int) ∧ (u_81.1.2.1 : Int) ≤ 4) ∧ ((u_81.1.2.1 : Int) ≤ 4 * (u_81.1.2.2.2.1 - u_81.1.2.2.1)) ∧ (-1 ≤ (u_81.1.2.2.2.2 : Int) ∧ (u_81.1.2.2.2.2 : Int) ≤ 100000)) ∧ (((u_81.1.1 : Int) = 1 ∧ xKw (tX Xf Msz) jp = 4 ∧ ∃ q9 : Int, q9 = xEn (tX Xf Msz) jp ∧ jp < q9 ∧ RFX (tX Xf Msz) q9 u_81.1.2.2.1 u_81.1.2.2.2.1 u_81.1.2.1 u_81.1.2.2.2.2) ∨ ((u_81.1.1 : Int) = 0 ∧ ¬ xKw (tX Xf Msz) jp = 4 ∧ RFX (tX Xf Msz) jp u_81.1.2.2.1 u_81.1.2.2.2.1 u_81.1.2.1 u_81.1.2.2.2.2)) := hφ
    refine W.eq (g2 := F0 m 159 ls [.int (iZ u_81.1.1)]) rfl ?_
    rcases p_83 with ⟨qt_84, kt_84, cut_84, yt_84, lt_84, xt_84⟩ | ⟨qt_84, kt_84, xt_84⟩
    ·
      rw [qt_84]
      obtain ⟨⟨ar_85, br_85⟩, cr_85, dr_85, er_85, gr_85, hr_85⟩ := id xt_84
      have kr_85 := tk_1 dr_85 (xKd_rg _ _)
      have wr_85 := xKw_rg (tX Xf Msz) cut_84
      replace kr_85 : Unit → _ := fun _ => kr_85
      replace er_85 : Unit → _ := fun _ => er_85
      replace gr_85 : Unit → _ := fun _ => gr_85
      replace hr_85 : Unit → _ := fun _ => hr_85
      refine lv_if_eq (tgt := 177) hx hb dX12_aRock_159 rfl (fun c => absurd c (by decide)) (fun _ => ?_)
      refine lv_aload_n hx hb dX12_aRock_162 rfl (lv_at hl 2 rfl) ?_
      refine lv_iload_n hx hb dX12_aRock_163 rfl (lv_at hl 0 rfl) ?_
      refine lv_iconst (v := iZ 3) hx hb dX12_aRock_164 rfl ?_
      refine lv_iadd hx hb dX12_aRock_165 ?_
      refine lv_topi (fun x_87 ex_87 => ?_)
      obtain rfl : x_87 = iZ ((3570 + (6 * (gz Af 3560))) + 3) := ex_87.trans (iZ_add (3570 + (6 * (gz Af 3560))) 3)
      refine lv_iconst (v := iZ 0) hx hb dX12_aRock_166 rfl ?_
      refine lv_bipush (v := iZ 9) hx hb dX12_aRock_167 bip_9 ?_
      refine CWV (As := [.int (iZ ((3570 + (6 * (gz Af 3560))) + 3)), .int (iZ 0), .int (iZ 9)]) (rest := []) (wc := _) (wr := [(Mn, .inl (k 2, 36, .inr (.inl Nfj)))]) hx hb hml hown hts hKK hP hD hS hA (y_number l D k hm Ma Mn Ms My Mt Mp Mx Mo Mk Ml Mb Mh Mc Mz Mr Mq Mst Mtd Msz u_81.1.2.1 u_81.1.2.2.1 u_81.1.2.2.2.1 u_81.1.2.2.2.2 Mfk Mfpj Mfsj Mse Mlt Mdp Mct Mdr Mrs Mit Mmk Mtp Mbt Xf Afj ((3570 + (6 * (gz Af 3560))) + 3) 0 9 cut_84 (by first | with_reducible assumption | exact (by first | with_reducible assumption | exact ⟨⟨by omega, by omega⟩, ⟨by omega, by omega⟩, ⟨by omega, by omega⟩, by omega, by omega, by omega⟩)) (by omega) xt_84 ⟨by omega, by omega⟩ ⟨by omega, by omega⟩ ⟨by omega, by omega⟩) ci_X12_number qm_X12_188 ⟨Nat.le_of_ble_eq_true rfl, Nat.le_of_ble_eq_true rfl⟩ ⟨Nat.le_of_ble_eq_true rfl, Nat.le_of_ble_eq_true rfl⟩ [2, 3, 0] [1] rfl rfl rfl rfl rfl (dj rfl) 0 rfl rfl rfl hl.1 rfl (Nat.le_of_ble_eq_true rfl) dX12_aRock_169 (fun u_88 H locs hφ hP hD hS => ?_)
      obtain ⟨p_89, p_90, p_91, p_92⟩ : ((0 ≤ (u_88.1.2.2.1 : Int) ∧ (u_88.1.2.2.1 : Int) ≤ u_88.1.2.2.2.1) ∧ ((u_88.1.2.2.2.1 : Int) ≤ Msz ∧ (Msz : Int) ≤ 900) ∧ (0 ≤ (u_88.1.2.1 : Int) ∧ (u_88.1.2.1 : Int) ≤ 4) ∧ ((u_88.1.2.1 : Int) ≤ 4 * (u_88.1.2.2.2.1 - u_88.1.2.2.1)) ∧ (-1 ≤ (u_88.1.2.2.2.2.1 : Int) ∧ (u_88.1.2.2.2.2.1 : Int) ≤ 100000)) ∧ (0 ≤ (u_88.1.2.2.2.2.2.1 : Int) ∧ (u_88.1.2.2.2.2.2.1 : Int) ≤ 9) ∧ (((u_88.1.1 : Int) = 1 ∧ ∃ (q9 v9 : Int), xTn (tX Xf Msz) 0 9 cut_84 = .inr (q9, v9) ∧ cut_84 < q9 ∧ RFX (tX Xf Msz) q9 u_88.1.2.2.1 u_88.1.2.2.2.1 u_88.1.2.1 u_88.1.2.2.2.2.1 ∧ (0 ≤ v9 ∧ v9 ≤ 9) ∧ u_88.2.2.1 = upd Afj (iZ ((3570 + (6 * (gz Af 3560))) + 3)).toNatClampNeg (iZ v9) ∧ (u_88.1.2.2.2.2.2.1 : Int) = 0 ∧ u_88.1.2.2.2.2.2.2 = Mfpj) ∨ ((u_88.1.1 : Int) = 0 ∧ xTn (tX Xf Msz) 0 9 cut_84 = .inl (u_88.1.2.2.2.2.2.1, u_88.1.2.2.2.2.2.2) ∧ 1 ≤ (u_88.1.2.2.2.2.2.1 : Int))) ∧ ((u_88.1.1 : Int) = 0 → u_88.2.2.1 = Afj) := hφ
      refine W.eq (g2 := F0 m 172 ls [.int (iZ u_88.1.1)]) rfl ?_
      rcases p_91 with ⟨qt_93, cut_93, yt_93, st_93, lt_93, xt_93, rt_93, ht_93, ut_93, vt_93⟩ | ⟨qt_93, st_93, bt_93⟩
      ·
        rw [qt_93]
        obtain ⟨⟨ar_94, br_94⟩, cr_94, dr_94, er_94, gr_94, hr_94⟩ := id xt_93
        have kr_94 := tk_1 dr_94 (xKd_rg _ _)
        have wr_94 := xKw_rg (tX Xf Msz) cut_93
        replace kr_94 : Unit → _ := fun _ => kr_94
        replace er_94 : Unit → _ := fun _ => er_94
        replace gr_94 : Unit → _ := fun _ => gr_94
        replace hr_94 : Unit → _ := fun _ => hr_94
        clear p_92
        have kp_95 := KP.up ht_93 ⟨by omega, by omega⟩ ⟨by omega, by omega⟩
        have nk_96 : NSK _ _ 1 := NSK.up (w := 3) jnk ht_93 (by omega) (by omega)
        have ms_97 := MSX.upF (w := 3) jms ht_93 (by omega) (by omega) (by omega) (by omega) (by omega)
        refine lv_if_ne (tgt := 177) hx hb dX12_aRock_172 rfl (fun _ => ?_) (fun c => absurd c (by decide))
        exact HJ177 u_88.1.2.1 u_88.1.2.2.1 u_88.1.2.2.2.1 u_88.1.2.2.2.2.1 u_88.1.2.2.2.2.2.1 u_88.1.2.2.2.2.2.2 u_88.2.2.1 Nfj cut_93 (xUp jG (((gz Af 3560) * 6) + 3) yt_93) _ _ _ (show (0 ≤ (u_88.1.2.2.1 : Int) ∧ (u_88.1.2.2.1 : Int) ≤ u_88.1.2.2.2.1) ∧ ((u_88.1.2.2.2.1 : Int) ≤ Msz ∧ (Msz : Int) ≤ 900) ∧ (0 ≤ (u_88.1.2.1 : Int) ∧ (u_88.1.2.1 : Int) ≤ 4) ∧ ((u_88.1.2.1 : Int) ≤ 4 * (u_88.1.2.2.2.1 - u_88.1.2.2.1)) ∧ (-1 ≤ (u_88.1.2.2.2.2.1 : Int) ∧ (u_88.1.2.2.2.2.1 : Int) ≤ 100000) from (by first | with_reducible assumption | exact (by first | with_reducible assumption | exact ⟨⟨by omega, by omega⟩, ⟨by omega, by omega⟩, ⟨by omega, by omega⟩, by omega, by omega, by omega⟩))) (show (u_88.1.2.2.2.2.2.1 : Int) = 0 ∧ u_88.1.2.2.2.2.2.2 = Mfp from ⟨by omega, by omega⟩) (show KP u_88.2.2.1 Af from (KP.tr kp_95 jkp)) (show RFX (tX Xf Msz) cut_93 u_88.1.2.2.1 u_88.1.2.2.2.1 u_88.1.2.1 u_88.1.2.2.2.2.1 from xt_93) (show cu < cut_93 from (by omega)) (show NSK u_88.2.2.1 (gz Af 3560) 1 from nk_96) (show MSX u_88.2.2.1 (gz Af 3560) (gz Af 3561) (gz Af 3562) (gz Af 3678) (xUp jG (((gz Af 3560) * 6) + 3) yt_93) G from ms_97) (show xNr Nfj 24 (xUp N (gz Af 3560) (xNm (tX Xf Msz) (xEn (tX Xf Msz) cu))) (gz Af 3560 + 1) from jN) (show xRock (tX Xf Msz) N (gz Af 3560) (gz Af 3678) F cu = xR4 (tX Xf Msz) (gz Af 3560) (gz Af 3678) cut_93 (xUp jG (((gz Af 3560) * 6) + 3) yt_93) from (jeq.trans (xR3_r (xOF_1 kt_84 (xFF_r (xTw_1 kt_84 yt_84) st_93))))) (show 0 ≤ gz Af 3560 ∧ gz Af 3560 < 6 from ⟨by omega, by omega⟩) (show NFR Nfj Nf from jnf) (hP.sub [1, 2, 3, 0] rfl) (hD.sub [1, 2, 3, 0] rfl rfl) hS (lv_sub hl [0, 1, 2] rfl)
      ·
        rw [qt_93]
        replace p_92 := p_92 qt_93
        have kp_99 : KP u_88.2.2.1 Afj := by rw [p_92]; exact KP.rf _
        refine lv_if_ne (tgt := 177) hx hb dX12_aRock_172 rfl (fun c => absurd (by decide) c) (fun _ => ?_)
        refine lv_iconst (v := iZ 0) hx hb dX12_aRock_175 rfl ?_
        exact EWz hx hb hr hlocks hS ((0, u_88.1.2.1, u_88.1.2.2.1, u_88.1.2.2.2.1, u_88.1.2.2.2.2.1, u_88.1.2.2.2.2.2.1, u_88.1.2.2.2.2.2.2), 0, u_88.2.2.1, Nfj) rfl rfl ⟨(show (0 ≤ (u_88.1.2.2.1 : Int) ∧ (u_88.1.2.2.1 : Int) ≤ u_88.1.2.2.2.1) ∧ ((u_88.1.2.2.2.1 : Int) ≤ Msz ∧ (Msz : Int) ≤ 900) ∧ (0 ≤ (u_88.1.2.1 : Int) ∧ (u_88.1.2.1 : Int) ≤ 4) ∧ ((u_88.1.2.1 : Int) ≤ 4 * (u_88.1.2.2.2.1 - u_88.1.2.2.1)) ∧ (-1 ≤ (u_88.1.2.2.2.2.1 : Int) ∧ (u_88.1.2.2.2.2.1 : Int) ≤ 100000) from (by first | with_reducible assumption | exact (by first | with_reducible assumption | exact ⟨⟨by omega, by omega⟩, ⟨by omega, by omega⟩, ⟨by omega, by omega⟩, by omega, by omega, by omega⟩))), (show 0 ≤ (u_88.1.2.2.2.2.2.1 : Int) ∧ (u_88.1.2.2.2.2.2.1 : Int) ≤ 9 from (by omega)), (show KP u_88.2.2.1 Af from (KP.tr kp_99 jkp)), (show ((0 : Int) = 1 ∧ ∃ (q9 : Int) (F9 : Int → Int), xRock (tX Xf Msz) N (gz Af 3560) (gz Af 3678) F cu = (xBn (xTs (tX Xf Msz) 59 q9) fun r9 => .inr (r9, gz u_88.2.2.1 3678, F9)) ∧ cu < q9 ∧ RFX (tX Xf Msz) q9 u_88.1.2.2.1 u_88.1.2.2.2.1 u_88.1.2.1 u_88.1.2.2.2.2.1 ∧ MSX u_88.2.2.1 (gz u_88.2.2.1 3560) (gz u_88.2.2.1 3561) (gz u_88.2.2.1 3562) (gz u_88.2.2.1 3678) F9 G ∧ xNr Nfj 24 (xUp N (gz Af 3560) (xNm (tX Xf Msz) (xEn (tX Xf Msz) cu))) (gz u_88.2.2.1 3560) ∧ (gz u_88.2.2.1 3560 = gz Af 3560 + 1 ∧ gz u_88.2.2.1 3561 = gz Af 3561 ∧ gz u_88.2.2.1 3562 = gz Af 3562) ∧ NSZ u_88.2.2.1 ∧ (u_88.1.2.2.2.2.2.1 : Int) = 0 ∧ u_88.1.2.2.2.2.2.2 = Mfp) ∨ ((0 : Int) = 0 ∧ xRock (tX Xf Msz) N (gz Af 3560) (gz Af 3678) F cu = .inl (u_88.1.2.2.2.2.2.1, u_88.1.2.2.2.2.2.2) ∧ 1 ≤ (u_88.1.2.2.2.2.2.1 : Int)) from (Or.inr ⟨rfl, (jeq.trans (xR3_l (xOF_1 kt_84 (xFF_b (xTw_1 kt_84 yt_84) st_93)))), by omega⟩)), (show NFR Nfj Nf from jnf)⟩ (hP.sub [1, 2, 3, 0] rfl) (hD.sub [1, 2, 3, 0] rfl rfl) dX12_aRock_176
    ·
      rw [qt_84]
      obtain ⟨⟨ar_101, br_101⟩, cr_101, dr_101, er_101, gr_101, hr_101⟩ := id xt_84
      have kr_101 := tk_1 dr_101 (xKd_rg _ _)
      have wr_101 := xKw_rg (tX Xf Msz) jp
      replace kr_101 : Unit → _ := fun _ => kr_101
      replace er_101 : Unit → _ := fun _ => er_101
      replace gr_101 : Unit → _ := fun _ => gr_101
      replace hr_101 : Unit → _ := fun _ => hr_101
      refine lv_if_eq (tgt := 177) hx hb dX12_aRock_159 rfl (fun _ => ?_) (fun c => absurd (by decide) c)
      exact HJ177 u_81.1.2.1 u_81.1.2.2.1 u_81.1.2.2.2.1 u_81.1.2.2.2.2 Mfsj Mfpj Afj Nfj jp jG _ _ _ (show (0 ≤ (u_81.1.2.2.1 : Int) ∧ (u_81.1.2.2.1 : Int) ≤ u_81.1.2.2.2.1) ∧ ((u_81.1.2.2.2.1 : Int) ≤ Msz ∧ (Msz : Int) ≤ 900) ∧ (0 ≤ (u_81.1.2.1 : Int) ∧ (u_81.1.2.1 : Int) ≤ 4) ∧ ((u_81.1.2.1 : Int) ≤ 4 * (u_81.1.2.2.2.1 - u_81.1.2.2.1)) ∧ (-1 ≤ (u_81.1.2.2.2.2 : Int) ∧ (u_81.1.2.2.2.2 : Int) ≤ 100000) from (by first | with_reducible assumption | exact (by first | with_reducible assumption | exact ⟨⟨by omega, by omega⟩, ⟨by omega, by omega⟩, ⟨by omega, by omega⟩, by omega, by omega, by omega⟩))) (show (Mfsj : Int) = 0 ∧ Mfpj = Mfp from ⟨by omega, by omega⟩) (show KP Afj Af from jkp) (show RFX (tX Xf Msz) jp u_81.1.2.2.1 u_81.1.2.2.2.1 u_81.1.2.1 u_81.1.2.2.2.2 from xt_84) (show cu < jp from (by omega)) (show NSK Afj (gz Af 3560) 1 from jnk) (show MSX Afj (gz Af 3560) (gz Af 3561) (gz Af 3562) (gz Af 3678) jG G from jms) (show xNr Nfj 24 (xUp N (gz Af 3560) (xNm (tX Xf Msz) (xEn (tX Xf Msz) cu))) (gz Af 3560 + 1) from jN) (show xRock (tX Xf Msz) N (gz Af 3560) (gz Af 3678) F cu = xR4 (tX Xf Msz) (gz Af 3560) (gz Af 3678) jp jG from (jeq.trans (xR3_r (xOF_0 kt_84)))) (show 0 ≤ gz Af 3560 ∧ gz Af 3560 < 6 from ⟨by omega, by omega⟩) (show NFR Nfj Nf from jnf) (hP.sub [2, 3, 0, 1] rfl) (hD.sub [2, 3, 0, 1] rfl rfl) hS (lv_sub hl [0, 1, 2] rfl)
  have HJ128 : ∀ (Mtkj : Int) (Mfrj : Int) (Menj : Int) (Mvaj : Int) (Mfsj : Int) (Mfpj : Int) (Afj : Nat → Int32) (Nfj : Nat → Int64) (jp : Int) (jG : Int → Int) (H : Heap) (locs : List Loc) (ls : Array Slot), ((0 ≤ (Mfrj : Int) ∧ (Mfrj : Int) ≤ Menj) ∧ ((Menj : Int) ≤ Msz ∧ (Msz : Int) ≤ 900) ∧ (0 ≤ (Mtkj : Int) ∧ (Mtkj : Int) ≤ 4) ∧ ((Mtkj : Int) ≤ 4 * (Menj - Mfrj)) ∧ (-1 ≤ (Mvaj : Int) ∧ (Mvaj : Int) ≤ 100000)) → ((Mfsj : Int) = 0 ∧ Mfpj = Mfp) → (KP Afj Af) → (RFX (tX Xf Msz) jp Mfrj Menj Mtkj Mvaj) → (cu < jp) → (NSK Afj (gz Af 3560) 1) → (MSX Afj (gz Af 3560) (gz Af 3561) (gz Af 3562) (gz Af 3678) jG G) → (xNr Nfj 24 (xUp N (gz Af 3560) (xNm (tX Xf Msz) (xEn (tX Xf Msz) cu))) (gz Af 3560 + 1)) → (xRock (tX Xf Msz) N (gz Af 3560) (gz Af 3678) F cu = xR2 (tX Xf Msz) (gz Af 3560) (gz Af 3678) jp jG) → (0 ≤ gz Af 3560 ∧ gz Af 3560 < 6) → (NFR Nfj Nf) → va_P D vwCl [(hm, .inr (12, [.ref Ma, .ref Mn, .int (iZ Mst), .long Mtp, .long Mbt, .ref Ms, .ref My, .ref Mt, .ref Mp, .ref Mx, .int (iZ Mtd), .int (iZ Msz), .int (iZ Mtkj), .int (iZ Mfrj), .int (iZ Menj), .int (iZ Mvaj), .int (iZ Mfk), .int (iZ Mfpj), .int (iZ Mfsj), .int (iZ Mse), .int (iZ Mlt), .ref Mo, .int (iZ Mdp), .int (iZ Mct), .ref Mk, .ref Ml, .ref Mb, .ref Mh, .ref Mc, .int (iZ Mdr), .int (iZ Mrs), .ref Mz, .ref Mr, .ref Mq, .int (iZ Mit), .int (iZ Mmk)])), (Mx, .inl (k 0, 900, .inl Xf)), (Ma, .inl (k 1, 5340, .inl Afj)), (Mn, .inl (k 2, 36, .inr (.inl Nfj)))] H → va_D A [(hm, .inr (12, [.ref Ma, .ref Mn, .int (iZ Mst), .long Mtp, .long Mbt, .ref Ms, .ref My, .ref Mt, .ref Mp, .ref Mx, .int (iZ Mtd), .int (iZ Msz), .int (iZ Mtkj), .int (iZ Mfrj), .int (iZ Menj), .int (iZ Mvaj), .int (iZ Mfk), .int (iZ Mfpj), .int (iZ Mfsj), .int (iZ Mse), .int (iZ Mlt), .ref Mo, .int (iZ Mdp), .int (iZ Mct), .ref Mk, .ref Ml, .ref Mb, .ref Mh, .ref Mc, .int (iZ Mdr), .int (iZ Mrs), .ref Mz, .ref Mr, .ref Mq, .int (iZ Mit), .int (iZ Mmk)])), (Mx, .inl (k 0, 900, .inl Xf)), (Ma, .inl (k 1, 5340, .inl Afj)), (Mn, .inl (k 2, 36, .inr (.inl Nfj)))] → va_S A s.heap H locs → lv_has ls 3 [(2, .int (iZ (3570 + (6 * (gz Af 3560))))), (1, .int (iZ (gz Af 3560))), (0, .ref hm)] → W p l e (rj 6 0 0) s m [.ref hm].toArray below meth c H locs 0 0 (MQ below (QW (σ := ((Int × Int × Int × Int × Int × Int × Int) × (Int64) × ((Nat → Int32)) × ((Nat → Int64)))) (fun u => some (.int (iZ u.1.1))) (fun u => ((0 ≤ (u.1.2.2.1 : Int) ∧ (u.1.2.2.1 : Int) ≤ u.1.2.2.2.1) ∧ ((u.1.2.2.2.1 : Int) ≤ Msz ∧ (Msz : Int) ≤ 900) ∧ (0 ≤ (u.1.2.1 : Int) ∧ (u.1.2.1 : Int) ≤ 4) ∧ ((u.1.2.1 : Int) ≤ 4 * (u.1.2.2.2.1 - u.1.2.2.1)) ∧ (-1 ≤ (u.1.2.2.2.2.1 : Int) ∧ (u.1.2.2.2.2.1 : Int) ≤ 100000)) ∧ (0 ≤ (u.1.2.2.2.2.2.1 : Int) ∧ (u.1.2.2.2.2.2.1 : Int) ≤ 9) ∧ (KP u.2.2.1 Af) ∧ (((u.1.1 : Int) = 1 ∧ ∃ (q9 : Int) (F9 : Int → Int), xRock (tX Xf Msz) N (gz Af 3560) (gz Af 3678) F cu = (xBn (xTs (tX Xf Msz) 59 q9) fun r9 => .inr (r9, gz u.2.2.1 3678, F9)) ∧ cu < q9 ∧ RFX (tX Xf Msz) q9 u.1.2.2.1 u.1.2.2.2.1 u.1.2.1 u.1.2.2.2.2.1 ∧ MSX u.2.2.1 (gz u.2.2.1 3560) (gz u.2.2.1 3561) (gz u.2.2.1 3562) (gz u.2.2.1 3678) F9 G ∧ xNr u.2.2.2 24 (xUp N (gz Af 3560) (xNm (tX Xf Msz) (xEn (tX Xf Msz) cu))) (gz u.2.2.1 3560) ∧ (gz u.2.2.1 3560 = gz Af 3560 + 1 ∧ gz u.2.2.1 3561 = gz Af 3561 ∧ gz u.2.2.1 3562 = gz Af 3562) ∧ NSZ u.2.2.1 ∧ (u.1.2.2.2.2.2.1 : Int) = 0 ∧ u.1.2.2.2.2.2.2 = Mfp) ∨ ((u.1.1 : Int) = 0 ∧ xRock (tX Xf Msz) N (gz Af 3560) (gz Af 3678) F cu = .inl (u.1.2.2.2.2.2.1, u.1.2.2.2.2.2.2) ∧ 1 ≤ (u.1.2.2.2.2.2.1 : Int))) ∧ (NFR u.2.2.2 Nf)) (fun u => [(hm, .inr (12, [.ref Ma, .ref Mn, .int (iZ Mst), .long Mtp, .long Mbt, .ref Ms, .ref My, .ref Mt, .ref Mp, .ref Mx, .int (iZ Mtd), .int (iZ Msz), .int (iZ u.1.2.1), .int (iZ u.1.2.2.1), .int (iZ u.1.2.2.2.1), .int (iZ u.1.2.2.2.2.1), .int (iZ Mfk), .int (iZ u.1.2.2.2.2.2.2), .int (iZ u.1.2.2.2.2.2.1), .int (iZ Mse), .int (iZ Mlt), .ref Mo, .int (iZ Mdp), .int (iZ Mct), .ref Mk, .ref Ml, .ref Mb, .ref Mh, .ref Mc, .int (iZ Mdr), .int (iZ Mrs), .ref Mz, .ref Mr, .ref Mq, .int (iZ Mit), .int (iZ Mmk)])), (Mx, .inl (k 0, 900, .inl Xf)), (Ma, .inl (k 1, 5340, .inl u.2.2.1)), (Mn, .inl (k 2, 36, .inr (.inl u.2.2.2)))]) D A) [.ref hm].toArray s 0 0 A) (F0 m 128 ls []) := by
    intro Mtkj Mfrj Menj Mvaj Mfsj Mfpj Afj Nfj jp jG H locs ls jTI jFS jkp jrf jpl jnk jms jN jeq jn5 jnf hP hD hS hl
    obtain ⟨⟨ar_103, br_103⟩, cr_103, dr_103, er_103, gr_103, hr_103⟩ := id jrf
    have kr_103 := tk_1 dr_103 (xKd_rg _ _)
    have wr_103 := xKw_rg (tX Xf Msz) jp
    replace kr_103 : Unit → _ := fun _ => kr_103
    replace er_103 : Unit → _ := fun _ => er_103
    replace gr_103 : Unit → _ := fun _ => gr_103
    replace hr_103 : Unit → _ := fun _ => hr_103
    refine lv_aload_n hx hb dX12_aRock_128 rfl (lv_at hl 2 rfl) ?_
    refine va_ldcS hx hb hown hRR dX12_aRock_129 ?_
    refine lv_iconst (v := iZ 5) hx hb dX12_aRock_131 rfl ?_
    refine CSV (As := [.ref sa, .int (iZ 5)]) (rest := []) (wc := _) (wr := [(Ma, .inl (k 1, 5340, .inl Afj)), (Mn, .inl (k 2, 36, .inr (.inl Nfj)))]) hx hb hml hown hts hKK hP hD hS hA hSY hRR (y_wantWord l D k sa sv hm Ma Mn Ms My Mt Mp Mx Mo Mk Ml Mb Mh Mc Mz Mr Mq Mst Mtd Msz Mtkj Mfrj Menj Mvaj Mfk Mfpj Mfsj Mse Mlt Mdp Mct Mdr Mrs Mit Mmk Mtp Mbt Xf 5 jp 3 (by first | with_reducible assumption | exact (by first | with_reducible assumption | exact ⟨⟨by omega, by omega⟩, ⟨by omega, by omega⟩, ⟨by omega, by omega⟩, by omega, by omega, by omega⟩)) (by omega) jrf ⟨by omega, by omega⟩ ⟨by decide, by decide⟩) ci_X12_wantWord qm_X12_184 ⟨Nat.le_of_ble_eq_true rfl, Nat.le_of_ble_eq_true rfl⟩ ⟨Nat.le_of_ble_eq_true rfl, Nat.le_of_ble_eq_true rfl⟩ [0, 1] [2, 3] rfl rfl rfl rfl rfl (dj rfl) 0 rfl rfl rfl hl.1 rfl (Nat.le_of_ble_eq_true rfl) dX12_aRock_132 (fun u_104 H locs hφ hP hD hS => ?_)
    obtain ⟨p_105, p_106, p_107⟩ : ((0 ≤ (u_104.1.2.2.1 : Int) ∧ (u_104.1.2.2.1 : Int) ≤ u_104.1.2.2.2.1) ∧ ((u_104.1.2.2.2.1 : Int) ≤ Msz ∧ (Msz : Int) ≤ 900) ∧ (0 ≤ (u_104.1.2.1 : Int) ∧ (u_104.1.2.1 : Int) ≤ 4) ∧ ((u_104.1.2.1 : Int) ≤ 4 * (u_104.1.2.2.2.1 - u_104.1.2.2.1)) ∧ (-1 ≤ (u_104.1.2.2.2.2.1 : Int) ∧ (u_104.1.2.2.2.2.1 : Int) ≤ 100000)) ∧ (0 ≤ (u_104.1.2.2.2.2.2.1 : Int) ∧ (u_104.1.2.2.2.2.2.1 : Int) ≤ 9) ∧ (((u_104.1.1 : Int) = 1 ∧ ∃ q9 : Int, xTw (tX Xf Msz) 3 jp = .inr q9 ∧ jp < q9 ∧ RFX (tX Xf Msz) q9 u_104.1.2.2.1 u_104.1.2.2.2.1 u_104.1.2.1 u_104.1.2.2.2.2.1 ∧ (u_104.1.2.2.2.2.2.1 : Int) = 0 ∧ u_104.1.2.2.2.2.2.2 = Mfpj) ∨ ((u_104.1.1 : Int) = 0 ∧ xTw (tX Xf Msz) 3 jp = .inl (u_104.1.2.2.2.2.2.1, u_104.1.2.2.2.2.2.2) ∧ 1 ≤ (u_104.1.2.2.2.2.2.1 : Int))) := hφ
    refine W.eq (g2 := F0 m 135 ls [.int (iZ u_104.1.1)]) rfl ?_
    rcases p_107 with ⟨qt_108, cut_108, st_108, lt_108, xt_108, ut_108, vt_108⟩ | ⟨qt_108, st_108, bt_108⟩
    ·
      rw [qt_108]
      obtain ⟨⟨ar_109, br_109⟩, cr_109, dr_109, er_109, gr_109, hr_109⟩ := id xt_108
      have kr_109 := tk_1 dr_109 (xKd_rg _ _)
      have wr_109 := xKw_rg (tX Xf Msz) cut_108
      replace kr_109 : Unit → _ := fun _ => kr_109
      replace er_109 : Unit → _ := fun _ => er_109
      replace gr_109 : Unit → _ := fun _ => gr_109
      replace hr_109 : Unit → _ := fun _ => hr_109
      refine lv_if_eq (tgt := 151) hx hb dX12_aRock_135 rfl (fun c => absurd c (by decide)) (fun _ => ?_)
      refine lv_aload_n hx hb dX12_aRock_138 rfl (lv_at hl 2 rfl) ?_
      refine lv_iload_n hx hb dX12_aRock_139 rfl (lv_at hl 0 rfl) ?_
      refine lv_iconst (v := iZ 2) hx hb dX12_aRock_140 rfl ?_
      refine lv_iadd hx hb dX12_aRock_141 ?_
      refine lv_topi (fun x_111 ex_111 => ?_)
      obtain rfl : x_111 = iZ ((3570 + (6 * (gz Af 3560))) + 2) := ex_111.trans (iZ_add (3570 + (6 * (gz Af 3560))) 2)
      refine lv_iconst (v := iZ 0) hx hb dX12_aRock_142 rfl ?_
      refine lv_bipush (v := iZ 11) hx hb dX12_aRock_143 bip_11 ?_
      refine CWV (As := [.int (iZ ((3570 + (6 * (gz Af 3560))) + 2)), .int (iZ 0), .int (iZ 11)]) (rest := []) (wc := _) (wr := [(Mn, .inl (k 2, 36, .inr (.inl Nfj)))]) hx hb hml hown hts hKK hP hD hS hA (y_number l D k hm Ma Mn Ms My Mt Mp Mx Mo Mk Ml Mb Mh Mc Mz Mr Mq Mst Mtd Msz u_104.1.2.1 u_104.1.2.2.1 u_104.1.2.2.2.1 u_104.1.2.2.2.2.1 Mfk u_104.1.2.2.2.2.2.2 u_104.1.2.2.2.2.2.1 Mse Mlt Mdp Mct Mdr Mrs Mit Mmk Mtp Mbt Xf Afj ((3570 + (6 * (gz Af 3560))) + 2) 0 11 cut_108 (by first | with_reducible assumption | exact (by first | with_reducible assumption | exact ⟨⟨by omega, by omega⟩, ⟨by omega, by omega⟩, ⟨by omega, by omega⟩, by omega, by omega, by omega⟩)) (by omega) xt_108 ⟨by omega, by omega⟩ ⟨by omega, by omega⟩ ⟨by omega, by omega⟩) ci_X12_number qm_X12_188 ⟨Nat.le_of_ble_eq_true rfl, Nat.le_of_ble_eq_true rfl⟩ ⟨Nat.le_of_ble_eq_true rfl, Nat.le_of_ble_eq_true rfl⟩ [2, 3, 0] [1] rfl rfl rfl rfl rfl (dj rfl) 0 rfl rfl rfl hl.1 rfl (Nat.le_of_ble_eq_true rfl) dX12_aRock_145 (fun u_112 H locs hφ hP hD hS => ?_)
      obtain ⟨p_113, p_114, p_115, p_116⟩ : ((0 ≤ (u_112.1.2.2.1 : Int) ∧ (u_112.1.2.2.1 : Int) ≤ u_112.1.2.2.2.1) ∧ ((u_112.1.2.2.2.1 : Int) ≤ Msz ∧ (Msz : Int) ≤ 900) ∧ (0 ≤ (u_112.1.2.1 : Int) ∧ (u_112.1.2.1 : Int) ≤ 4) ∧ ((u_112.1.2.1 : Int) ≤ 4 * (u_112.1.2.2.2.1 - u_112.1.2.2.1)) ∧ (-1 ≤ (u_112.1.2.2.2.2.1 : Int) ∧ (u_112.1.2.2.2.2.1 : Int) ≤ 100000)) ∧ (0 ≤ (u_112.1.2.2.2.2.2.1 : Int) ∧ (u_112.1.2.2.2.2.2.1 : Int) ≤ 9) ∧ (((u_112.1.1 : Int) = 1 ∧ ∃ (q9 v9 : Int), xTn (tX Xf Msz) 0 11 cut_108 = .inr (q9, v9) ∧ cut_108 < q9 ∧ RFX (tX Xf Msz) q9 u_112.1.2.2.1 u_112.1.2.2.2.1 u_112.1.2.1 u_112.1.2.2.2.2.1 ∧ (0 ≤ v9 ∧ v9 ≤ 11) ∧ u_112.2.2.1 = upd Afj (iZ ((3570 + (6 * (gz Af 3560))) + 2)).toNatClampNeg (iZ v9) ∧ (u_112.1.2.2.2.2.2.1 : Int) = 0 ∧ u_112.1.2.2.2.2.2.2 = u_104.1.2.2.2.2.2.2) ∨ ((u_112.1.1 : Int) = 0 ∧ xTn (tX Xf Msz) 0 11 cut_108 = .inl (u_112.1.2.2.2.2.2.1, u_112.1.2.2.2.2.2.2) ∧ 1 ≤ (u_112.1.2.2.2.2.2.1 : Int))) ∧ ((u_112.1.1 : Int) = 0 → u_112.2.2.1 = Afj) := hφ
      refine W.eq (g2 := F0 m 148 ls [.int (iZ u_112.1.1)]) rfl ?_
      rcases p_115 with ⟨qt_117, cut_117, yt_117, st_117, lt_117, xt_117, rt_117, ht_117, ut_117, vt_117⟩ | ⟨qt_117, st_117, bt_117⟩
      ·
        rw [qt_117]
        obtain ⟨⟨ar_118, br_118⟩, cr_118, dr_118, er_118, gr_118, hr_118⟩ := id xt_117
        have kr_118 := tk_1 dr_118 (xKd_rg _ _)
        have wr_118 := xKw_rg (tX Xf Msz) cut_117
        replace kr_118 : Unit → _ := fun _ => kr_118
        replace er_118 : Unit → _ := fun _ => er_118
        replace gr_118 : Unit → _ := fun _ => gr_118
        replace hr_118 : Unit → _ := fun _ => hr_118
        clear p_116
        have kp_119 := KP.up ht_117 ⟨by omega, by omega⟩ ⟨by omega, by omega⟩
        have nk_120 : NSK _ _ 1 := NSK.up (w := 2) jnk ht_117 (by omega) (by omega)
        have ms_121 := MSX.upF (w := 2) jms ht_117 (by omega) (by omega) (by omega) (by omega) (by omega)
        refine lv_if_ne (tgt := 153) hx hb dX12_aRock_148 rfl (fun _ => ?_) (fun c => absurd c (by decide))
        exact HJ153 u_112.1.2.1 u_112.1.2.2.1 u_112.1.2.2.2.1 u_112.1.2.2.2.2.1 u_112.1.2.2.2.2.2.1 u_112.1.2.2.2.2.2.2 u_112.2.2.1 Nfj cut_117 (xUp jG (((gz Af 3560) * 6) + 2) yt_117) _ _ _ (show (0 ≤ (u_112.1.2.2.1 : Int) ∧ (u_112.1.2.2.1 : Int) ≤ u_112.1.2.2.2.1) ∧ ((u_112.1.2.2.2.1 : Int) ≤ Msz ∧ (Msz : Int) ≤ 900) ∧ (0 ≤ (u_112.1.2.1 : Int) ∧ (u_112.1.2.1 : Int) ≤ 4) ∧ ((u_112.1.2.1 : Int) ≤ 4 * (u_112.1.2.2.2.1 - u_112.1.2.2.1)) ∧ (-1 ≤ (u_112.1.2.2.2.2.1 : Int) ∧ (u_112.1.2.2.2.2.1 : Int) ≤ 100000) from (by first | with_reducible assumption | exact (by first | with_reducible assumption | exact ⟨⟨by omega, by omega⟩, ⟨by omega, by omega⟩, ⟨by omega, by omega⟩, by omega, by omega, by omega⟩))) (show (u_112.1.2.2.2.2.2.1 : Int) = 0 ∧ u_112.1.2.2.2.2.2.2 = Mfp from ⟨by omega, by omega⟩) (show KP u_112.2.2.1 Af from (KP.tr kp_119 jkp)) (show RFX (tX Xf Msz) cut_117 u_112.1.2.2.1 u_112.1.2.2.2.1 u_112.1.2.1 u_112.1.2.2.2.2.1 from xt_117) (show cu < cut_117 from (by omega)) (show NSK u_112.2.2.1 (gz Af 3560) 1 from nk_120) (show MSX u_112.2.2.1 (gz Af 3560) (gz Af 3561) (gz Af 3562) (gz Af 3678) (xUp jG (((gz Af 3560) * 6) + 2) yt_117) G from ms_121) (show xNr Nfj 24 (xUp N (gz Af 3560) (xNm (tX Xf Msz) (xEn (tX Xf Msz) cu))) (gz Af 3560 + 1) from jN) (show xRock (tX Xf Msz) N (gz Af 3560) (gz Af 3678) F cu = xR3 (tX Xf Msz) (gz Af 3560) (gz Af 3678) cut_117 (xUp jG (((gz Af 3560) * 6) + 2) yt_117) from (jeq.trans (xR2_r (xFF_r st_108 st_117)))) (show 0 ≤ gz Af 3560 ∧ gz Af 3560 < 6 from ⟨by omega, by omega⟩) (show NFR Nfj Nf from jnf) (hP.sub [1, 2, 3, 0] rfl) (hD.sub [1, 2, 3, 0] rfl rfl) hS (lv_sub hl [0, 1, 2] rfl)
      ·
        rw [qt_117]
        replace p_116 := p_116 qt_117
        have kp_123 : KP u_112.2.2.1 Afj := by rw [p_116]; exact KP.rf _
        refine lv_if_ne (tgt := 153) hx hb dX12_aRock_148 rfl (fun c => absurd (by decide) c) (fun _ => ?_)
        refine lv_iconst (v := iZ 0) hx hb dX12_aRock_151 rfl ?_
        exact EWz hx hb hr hlocks hS ((0, u_112.1.2.1, u_112.1.2.2.1, u_112.1.2.2.2.1, u_112.1.2.2.2.2.1, u_112.1.2.2.2.2.2.1, u_112.1.2.2.2.2.2.2), 0, u_112.2.2.1, Nfj) rfl rfl ⟨(show (0 ≤ (u_112.1.2.2.1 : Int) ∧ (u_112.1.2.2.1 : Int) ≤ u_112.1.2.2.2.1) ∧ ((u_112.1.2.2.2.1 : Int) ≤ Msz ∧ (Msz : Int) ≤ 900) ∧ (0 ≤ (u_112.1.2.1 : Int) ∧ (u_112.1.2.1 : Int) ≤ 4) ∧ ((u_112.1.2.1 : Int) ≤ 4 * (u_112.1.2.2.2.1 - u_112.1.2.2.1)) ∧ (-1 ≤ (u_112.1.2.2.2.2.1 : Int) ∧ (u_112.1.2.2.2.2.1 : Int) ≤ 100000) from (by first | with_reducible assumption | exact (by first | with_reducible assumption | exact ⟨⟨by omega, by omega⟩, ⟨by omega, by omega⟩, ⟨by omega, by omega⟩, by omega, by omega, by omega⟩))), (show 0 ≤ (u_112.1.2.2.2.2.2.1 : Int) ∧ (u_112.1.2.2.2.2.2.1 : Int) ≤ 9 from (by omega)), (show KP u_112.2.2.1 Af from (KP.tr kp_123 jkp)), (show ((0 : Int) = 1 ∧ ∃ (q9 : Int) (F9 : Int → Int), xRock (tX Xf Msz) N (gz Af 3560) (gz Af 3678) F cu = (xBn (xTs (tX Xf Msz) 59 q9) fun r9 => .inr (r9, gz u_112.2.2.1 3678, F9)) ∧ cu < q9 ∧ RFX (tX Xf Msz) q9 u_112.1.2.2.1 u_112.1.2.2.2.1 u_112.1.2.1 u_112.1.2.2.2.2.1 ∧ MSX u_112.2.2.1 (gz u_112.2.2.1 3560) (gz u_112.2.2.1 3561) (gz u_112.2.2.1 3562) (gz u_112.2.2.1 3678) F9 G ∧ xNr Nfj 24 (xUp N (gz Af 3560) (xNm (tX Xf Msz) (xEn (tX Xf Msz) cu))) (gz u_112.2.2.1 3560) ∧ (gz u_112.2.2.1 3560 = gz Af 3560 + 1 ∧ gz u_112.2.2.1 3561 = gz Af 3561 ∧ gz u_112.2.2.1 3562 = gz Af 3562) ∧ NSZ u_112.2.2.1 ∧ (u_112.1.2.2.2.2.2.1 : Int) = 0 ∧ u_112.1.2.2.2.2.2.2 = Mfp) ∨ ((0 : Int) = 0 ∧ xRock (tX Xf Msz) N (gz Af 3560) (gz Af 3678) F cu = .inl (u_112.1.2.2.2.2.2.1, u_112.1.2.2.2.2.2.2) ∧ 1 ≤ (u_112.1.2.2.2.2.2.1 : Int)) from (Or.inr ⟨rfl, (jeq.trans (xR2_l (xFF_b st_108 st_117))), by omega⟩)), (show NFR Nfj Nf from jnf)⟩ (hP.sub [1, 2, 3, 0] rfl) (hD.sub [1, 2, 3, 0] rfl rfl) dX12_aRock_152
    ·
      rw [qt_108]
      refine lv_if_eq (tgt := 151) hx hb dX12_aRock_135 rfl (fun _ => ?_) (fun c => absurd (by decide) c)
      refine lv_iconst (v := iZ 0) hx hb dX12_aRock_151 rfl ?_
      exact EWz hx hb hr hlocks hS ((0, u_104.1.2.1, u_104.1.2.2.1, u_104.1.2.2.2.1, u_104.1.2.2.2.2.1, u_104.1.2.2.2.2.2.1, u_104.1.2.2.2.2.2.2), 0, Afj, Nfj) rfl rfl ⟨(show (0 ≤ (u_104.1.2.2.1 : Int) ∧ (u_104.1.2.2.1 : Int) ≤ u_104.1.2.2.2.1) ∧ ((u_104.1.2.2.2.1 : Int) ≤ Msz ∧ (Msz : Int) ≤ 900) ∧ (0 ≤ (u_104.1.2.1 : Int) ∧ (u_104.1.2.1 : Int) ≤ 4) ∧ ((u_104.1.2.1 : Int) ≤ 4 * (u_104.1.2.2.2.1 - u_104.1.2.2.1)) ∧ (-1 ≤ (u_104.1.2.2.2.2.1 : Int) ∧ (u_104.1.2.2.2.2.1 : Int) ≤ 100000) from (by first | with_reducible assumption | exact (by first | with_reducible assumption | exact ⟨⟨by omega, by omega⟩, ⟨by omega, by omega⟩, ⟨by omega, by omega⟩, by omega, by omega, by omega⟩))), (show 0 ≤ (u_104.1.2.2.2.2.2.1 : Int) ∧ (u_104.1.2.2.2.2.2.1 : Int) ≤ 9 from (by omega)), (show KP Afj Af from jkp), (show ((0 : Int) = 1 ∧ ∃ (q9 : Int) (F9 : Int → Int), xRock (tX Xf Msz) N (gz Af 3560) (gz Af 3678) F cu = (xBn (xTs (tX Xf Msz) 59 q9) fun r9 => .inr (r9, gz Afj 3678, F9)) ∧ cu < q9 ∧ RFX (tX Xf Msz) q9 u_104.1.2.2.1 u_104.1.2.2.2.1 u_104.1.2.1 u_104.1.2.2.2.2.1 ∧ MSX Afj (gz Afj 3560) (gz Afj 3561) (gz Afj 3562) (gz Afj 3678) F9 G ∧ xNr Nfj 24 (xUp N (gz Af 3560) (xNm (tX Xf Msz) (xEn (tX Xf Msz) cu))) (gz Afj 3560) ∧ (gz Afj 3560 = gz Af 3560 + 1 ∧ gz Afj 3561 = gz Af 3561 ∧ gz Afj 3562 = gz Af 3562) ∧ NSZ Afj ∧ (u_104.1.2.2.2.2.2.1 : Int) = 0 ∧ u_104.1.2.2.2.2.2.2 = Mfp) ∨ ((0 : Int) = 0 ∧ xRock (tX Xf Msz) N (gz Af 3560) (gz Af 3678) F cu = .inl (u_104.1.2.2.2.2.2.1, u_104.1.2.2.2.2.2.2) ∧ 1 ≤ (u_104.1.2.2.2.2.2.1 : Int)) from (Or.inr ⟨rfl, (jeq.trans (xR2_l (xFF_a st_108))), by omega⟩)), (show NFR Nfj Nf from jnf)⟩ (hP.sub [2, 3, 0, 1] rfl) (hD.sub [2, 3, 0, 1] rfl rfl) dX12_aRock_152
  have HJ105 : ∀ (Mtkj : Int) (Mfrj : Int) (Menj : Int) (Mvaj : Int) (Mfsj : Int) (Mfpj : Int) (Afj : Nat → Int32) (Nfj : Nat → Int64) (jp : Int) (jG : Int → Int) (H : Heap) (locs : List Loc) (ls : Array Slot), ((0 ≤ (Mfrj : Int) ∧ (Mfrj : Int) ≤ Menj) ∧ ((Menj : Int) ≤ Msz ∧ (Msz : Int) ≤ 900) ∧ (0 ≤ (Mtkj : Int) ∧ (Mtkj : Int) ≤ 4) ∧ ((Mtkj : Int) ≤ 4 * (Menj - Mfrj)) ∧ (-1 ≤ (Mvaj : Int) ∧ (Mvaj : Int) ≤ 100000)) → ((Mfsj : Int) = 0 ∧ Mfpj = Mfp) → (KP Afj Af) → (RFX (tX Xf Msz) jp Mfrj Menj Mtkj Mvaj) → (cu < jp) → (NSK Afj (gz Af 3560) 0) → (MSX Afj (gz Af 3560) (gz Af 3561) (gz Af 3562) (gz Af 3678) jG G) → (xNr Nfj 24 (xUp N (gz Af 3560) (xNm (tX Xf Msz) (xEn (tX Xf Msz) cu))) (gz Af 3560 + 1)) → (xRock (tX Xf Msz) N (gz Af 3560) (gz Af 3678) F cu = xR1 (tX Xf Msz) (gz Af 3560) (gz Af 3678) jp jG) → (0 ≤ gz Af 3560 ∧ gz Af 3560 < 6) → (NFR Nfj Nf) → va_P D vwCl [(hm, .inr (12, [.ref Ma, .ref Mn, .int (iZ Mst), .long Mtp, .long Mbt, .ref Ms, .ref My, .ref Mt, .ref Mp, .ref Mx, .int (iZ Mtd), .int (iZ Msz), .int (iZ Mtkj), .int (iZ Mfrj), .int (iZ Menj), .int (iZ Mvaj), .int (iZ Mfk), .int (iZ Mfpj), .int (iZ Mfsj), .int (iZ Mse), .int (iZ Mlt), .ref Mo, .int (iZ Mdp), .int (iZ Mct), .ref Mk, .ref Ml, .ref Mb, .ref Mh, .ref Mc, .int (iZ Mdr), .int (iZ Mrs), .ref Mz, .ref Mr, .ref Mq, .int (iZ Mit), .int (iZ Mmk)])), (Mx, .inl (k 0, 900, .inl Xf)), (Ma, .inl (k 1, 5340, .inl Afj)), (Mn, .inl (k 2, 36, .inr (.inl Nfj)))] H → va_D A [(hm, .inr (12, [.ref Ma, .ref Mn, .int (iZ Mst), .long Mtp, .long Mbt, .ref Ms, .ref My, .ref Mt, .ref Mp, .ref Mx, .int (iZ Mtd), .int (iZ Msz), .int (iZ Mtkj), .int (iZ Mfrj), .int (iZ Menj), .int (iZ Mvaj), .int (iZ Mfk), .int (iZ Mfpj), .int (iZ Mfsj), .int (iZ Mse), .int (iZ Mlt), .ref Mo, .int (iZ Mdp), .int (iZ Mct), .ref Mk, .ref Ml, .ref Mb, .ref Mh, .ref Mc, .int (iZ Mdr), .int (iZ Mrs), .ref Mz, .ref Mr, .ref Mq, .int (iZ Mit), .int (iZ Mmk)])), (Mx, .inl (k 0, 900, .inl Xf)), (Ma, .inl (k 1, 5340, .inl Afj)), (Mn, .inl (k 2, 36, .inr (.inl Nfj)))] → va_S A s.heap H locs → lv_has ls 3 [(2, .int (iZ (3570 + (6 * (gz Af 3560))))), (1, .int (iZ (gz Af 3560))), (0, .ref hm)] → W p l e (rj 6 0 0) s m [.ref hm].toArray below meth c H locs 0 0 (MQ below (QW (σ := ((Int × Int × Int × Int × Int × Int × Int) × (Int64) × ((Nat → Int32)) × ((Nat → Int64)))) (fun u => some (.int (iZ u.1.1))) (fun u => ((0 ≤ (u.1.2.2.1 : Int) ∧ (u.1.2.2.1 : Int) ≤ u.1.2.2.2.1) ∧ ((u.1.2.2.2.1 : Int) ≤ Msz ∧ (Msz : Int) ≤ 900) ∧ (0 ≤ (u.1.2.1 : Int) ∧ (u.1.2.1 : Int) ≤ 4) ∧ ((u.1.2.1 : Int) ≤ 4 * (u.1.2.2.2.1 - u.1.2.2.1)) ∧ (-1 ≤ (u.1.2.2.2.2.1 : Int) ∧ (u.1.2.2.2.2.1 : Int) ≤ 100000)) ∧ (0 ≤ (u.1.2.2.2.2.2.1 : Int) ∧ (u.1.2.2.2.2.2.1 : Int) ≤ 9) ∧ (KP u.2.2.1 Af) ∧ (((u.1.1 : Int) = 1 ∧ ∃ (q9 : Int) (F9 : Int → Int), xRock (tX Xf Msz) N (gz Af 3560) (gz Af 3678) F cu = (xBn (xTs (tX Xf Msz) 59 q9) fun r9 => .inr (r9, gz u.2.2.1 3678, F9)) ∧ cu < q9 ∧ RFX (tX Xf Msz) q9 u.1.2.2.1 u.1.2.2.2.1 u.1.2.1 u.1.2.2.2.2.1 ∧ MSX u.2.2.1 (gz u.2.2.1 3560) (gz u.2.2.1 3561) (gz u.2.2.1 3562) (gz u.2.2.1 3678) F9 G ∧ xNr u.2.2.2 24 (xUp N (gz Af 3560) (xNm (tX Xf Msz) (xEn (tX Xf Msz) cu))) (gz u.2.2.1 3560) ∧ (gz u.2.2.1 3560 = gz Af 3560 + 1 ∧ gz u.2.2.1 3561 = gz Af 3561 ∧ gz u.2.2.1 3562 = gz Af 3562) ∧ NSZ u.2.2.1 ∧ (u.1.2.2.2.2.2.1 : Int) = 0 ∧ u.1.2.2.2.2.2.2 = Mfp) ∨ ((u.1.1 : Int) = 0 ∧ xRock (tX Xf Msz) N (gz Af 3560) (gz Af 3678) F cu = .inl (u.1.2.2.2.2.2.1, u.1.2.2.2.2.2.2) ∧ 1 ≤ (u.1.2.2.2.2.2.1 : Int))) ∧ (NFR u.2.2.2 Nf)) (fun u => [(hm, .inr (12, [.ref Ma, .ref Mn, .int (iZ Mst), .long Mtp, .long Mbt, .ref Ms, .ref My, .ref Mt, .ref Mp, .ref Mx, .int (iZ Mtd), .int (iZ Msz), .int (iZ u.1.2.1), .int (iZ u.1.2.2.1), .int (iZ u.1.2.2.2.1), .int (iZ u.1.2.2.2.2.1), .int (iZ Mfk), .int (iZ u.1.2.2.2.2.2.2), .int (iZ u.1.2.2.2.2.2.1), .int (iZ Mse), .int (iZ Mlt), .ref Mo, .int (iZ Mdp), .int (iZ Mct), .ref Mk, .ref Ml, .ref Mb, .ref Mh, .ref Mc, .int (iZ Mdr), .int (iZ Mrs), .ref Mz, .ref Mr, .ref Mq, .int (iZ Mit), .int (iZ Mmk)])), (Mx, .inl (k 0, 900, .inl Xf)), (Ma, .inl (k 1, 5340, .inl u.2.2.1)), (Mn, .inl (k 2, 36, .inr (.inl u.2.2.2)))]) D A) [.ref hm].toArray s 0 0 A) (F0 m 105 ls []) := by
    intro Mtkj Mfrj Menj Mvaj Mfsj Mfpj Afj Nfj jp jG H locs ls jTI jFS jkp jrf jpl jnk jms jN jeq jn5 jnf hP hD hS hl
    obtain ⟨⟨ar_126, br_126⟩, cr_126, dr_126, er_126, gr_126, hr_126⟩ := id jrf
    have kr_126 := tk_1 dr_126 (xKd_rg _ _)
    have wr_126 := xKw_rg (tX Xf Msz) jp
    replace kr_126 : Unit → _ := fun _ => kr_126
    replace er_126 : Unit → _ := fun _ => er_126
    replace gr_126 : Unit → _ := fun _ => gr_126
    replace hr_126 : Unit → _ := fun _ => hr_126
    refine lv_aload_n hx hb dX12_aRock_105 rfl (lv_at hl 2 rfl) ?_
    refine va_ldcS hx hb hown hRR dX12_aRock_106 ?_
    refine lv_iconst (v := iZ 4) hx hb dX12_aRock_108 rfl ?_
    refine CSV (As := [.ref sa, .int (iZ 4)]) (rest := []) (wc := _) (wr := [(Ma, .inl (k 1, 5340, .inl Afj)), (Mn, .inl (k 2, 36, .inr (.inl Nfj)))]) hx hb hml hown hts hKK hP hD hS hA hSY hRR (y_wantWord l D k sa sv hm Ma Mn Ms My Mt Mp Mx Mo Mk Ml Mb Mh Mc Mz Mr Mq Mst Mtd Msz Mtkj Mfrj Menj Mvaj Mfk Mfpj Mfsj Mse Mlt Mdp Mct Mdr Mrs Mit Mmk Mtp Mbt Xf 4 jp 2 (by first | with_reducible assumption | exact (by first | with_reducible assumption | exact ⟨⟨by omega, by omega⟩, ⟨by omega, by omega⟩, ⟨by omega, by omega⟩, by omega, by omega, by omega⟩)) (by omega) jrf ⟨by omega, by omega⟩ ⟨by decide, by decide⟩) ci_X12_wantWord qm_X12_184 ⟨Nat.le_of_ble_eq_true rfl, Nat.le_of_ble_eq_true rfl⟩ ⟨Nat.le_of_ble_eq_true rfl, Nat.le_of_ble_eq_true rfl⟩ [0, 1] [2, 3] rfl rfl rfl rfl rfl (dj rfl) 0 rfl rfl rfl hl.1 rfl (Nat.le_of_ble_eq_true rfl) dX12_aRock_109 (fun u_127 H locs hφ hP hD hS => ?_)
    obtain ⟨p_128, p_129, p_130⟩ : ((0 ≤ (u_127.1.2.2.1 : Int) ∧ (u_127.1.2.2.1 : Int) ≤ u_127.1.2.2.2.1) ∧ ((u_127.1.2.2.2.1 : Int) ≤ Msz ∧ (Msz : Int) ≤ 900) ∧ (0 ≤ (u_127.1.2.1 : Int) ∧ (u_127.1.2.1 : Int) ≤ 4) ∧ ((u_127.1.2.1 : Int) ≤ 4 * (u_127.1.2.2.2.1 - u_127.1.2.2.1)) ∧ (-1 ≤ (u_127.1.2.2.2.2.1 : Int) ∧ (u_127.1.2.2.2.2.1 : Int) ≤ 100000)) ∧ (0 ≤ (u_127.1.2.2.2.2.2.1 : Int) ∧ (u_127.1.2.2.2.2.2.1 : Int) ≤ 9) ∧ (((u_127.1.1 : Int) = 1 ∧ ∃ q9 : Int, xTw (tX Xf Msz) 2 jp = .inr q9 ∧ jp < q9 ∧ RFX (tX Xf Msz) q9 u_127.1.2.2.1 u_127.1.2.2.2.1 u_127.1.2.1 u_127.1.2.2.2.2.1 ∧ (u_127.1.2.2.2.2.2.1 : Int) = 0 ∧ u_127.1.2.2.2.2.2.2 = Mfpj) ∨ ((u_127.1.1 : Int) = 0 ∧ xTw (tX Xf Msz) 2 jp = .inl (u_127.1.2.2.2.2.2.1, u_127.1.2.2.2.2.2.2) ∧ 1 ≤ (u_127.1.2.2.2.2.2.1 : Int))) := hφ
    refine W.eq (g2 := F0 m 112 ls [.int (iZ u_127.1.1)]) rfl ?_
    rcases p_130 with ⟨qt_131, cut_131, st_131, lt_131, xt_131, ut_131, vt_131⟩ | ⟨qt_131, st_131, bt_131⟩
    ·
      rw [qt_131]
      obtain ⟨⟨ar_132, br_132⟩, cr_132, dr_132, er_132, gr_132, hr_132⟩ := id xt_131
      have kr_132 := tk_1 dr_132 (xKd_rg _ _)
      have wr_132 := xKw_rg (tX Xf Msz) cut_131
      replace kr_132 : Unit → _ := fun _ => kr_132
      replace er_132 : Unit → _ := fun _ => er_132
      replace gr_132 : Unit → _ := fun _ => gr_132
      replace hr_132 : Unit → _ := fun _ => hr_132
      refine lv_if_eq (tgt := 151) hx hb dX12_aRock_112 rfl (fun c => absurd c (by decide)) (fun _ => ?_)
      refine lv_aload_n hx hb dX12_aRock_115 rfl (lv_at hl 2 rfl) ?_
      refine lv_iload_n hx hb dX12_aRock_116 rfl (lv_at hl 0 rfl) ?_
      refine lv_iconst (v := iZ 1) hx hb dX12_aRock_117 rfl ?_
      refine lv_iadd hx hb dX12_aRock_118 ?_
      refine lv_topi (fun x_134 ex_134 => ?_)
      obtain rfl : x_134 = iZ ((3570 + (6 * (gz Af 3560))) + 1) := ex_134.trans (iZ_add (3570 + (6 * (gz Af 3560))) 1)
      refine lv_iconst (v := iZ 1) hx hb dX12_aRock_119 rfl ?_
      refine lv_bipush (v := iZ 99) hx hb dX12_aRock_120 bip_99 ?_
      refine CWV (As := [.int (iZ ((3570 + (6 * (gz Af 3560))) + 1)), .int (iZ 1), .int (iZ 99)]) (rest := []) (wc := _) (wr := [(Mn, .inl (k 2, 36, .inr (.inl Nfj)))]) hx hb hml hown hts hKK hP hD hS hA (y_number l D k hm Ma Mn Ms My Mt Mp Mx Mo Mk Ml Mb Mh Mc Mz Mr Mq Mst Mtd Msz u_127.1.2.1 u_127.1.2.2.1 u_127.1.2.2.2.1 u_127.1.2.2.2.2.1 Mfk u_127.1.2.2.2.2.2.2 u_127.1.2.2.2.2.2.1 Mse Mlt Mdp Mct Mdr Mrs Mit Mmk Mtp Mbt Xf Afj ((3570 + (6 * (gz Af 3560))) + 1) 1 99 cut_131 (by first | with_reducible assumption | exact (by first | with_reducible assumption | exact ⟨⟨by omega, by omega⟩, ⟨by omega, by omega⟩, ⟨by omega, by omega⟩, by omega, by omega, by omega⟩)) (by omega) xt_131 ⟨by omega, by omega⟩ ⟨by omega, by omega⟩ ⟨by omega, by omega⟩) ci_X12_number qm_X12_188 ⟨Nat.le_of_ble_eq_true rfl, Nat.le_of_ble_eq_true rfl⟩ ⟨Nat.le_of_ble_eq_true rfl, Nat.le_of_ble_eq_true rfl⟩ [2, 3, 0] [1] rfl rfl rfl rfl rfl (dj rfl) 0 rfl rfl rfl hl.1 rfl (Nat.le_of_ble_eq_true rfl) dX12_aRock_122 (fun u_135 H locs hφ hP hD hS => ?_)
      obtain ⟨p_136, p_137, p_138, p_139⟩ : ((0 ≤ (u_135.1.2.2.1 : Int) ∧ (u_135.1.2.2.1 : Int) ≤ u_135.1.2.2.2.1) ∧ ((u_135.1.2.2.2.1 : Int) ≤ Msz ∧ (Msz : Int) ≤ 900) ∧ (0 ≤ (u_135.1.2.1 : Int) ∧ (u_135.1.2.1 : Int) ≤ 4) ∧ ((u_135.1.2.1 : Int) ≤ 4 * (u_135.1.2.2.2.1 - u_135.1.2.2.1)) ∧ (-1 ≤ (u_135.1.2.2.2.2.1 : Int) ∧ (u_135.1.2.2.2.2.1 : Int) ≤ 100000)) ∧ (0 ≤ (u_135.1.2.2.2.2.2.1 : Int) ∧ (u_135.1.2.2.2.2.2.1 : Int) ≤ 9) ∧ (((u_135.1.1 : Int) = 1 ∧ ∃ (q9 v9 : Int), xTn (tX Xf Msz) 1 99 cut_131 = .inr (q9, v9) ∧ cut_131 < q9 ∧ RFX (tX Xf Msz) q9 u_135.1.2.2.1 u_135.1.2.2.2.1 u_135.1.2.1 u_135.1.2.2.2.2.1 ∧ (1 ≤ v9 ∧ v9 ≤ 99) ∧ u_135.2.2.1 = upd Afj (iZ ((3570 + (6 * (gz Af 3560))) + 1)).toNatClampNeg (iZ v9) ∧ (u_135.1.2.2.2.2.2.1 : Int) = 0 ∧ u_135.1.2.2.2.2.2.2 = u_127.1.2.2.2.2.2.2) ∨ ((u_135.1.1 : Int) = 0 ∧ xTn (tX Xf Msz) 1 99 cut_131 = .inl (u_135.1.2.2.2.2.2.1, u_135.1.2.2.2.2.2.2) ∧ 1 ≤ (u_135.1.2.2.2.2.2.1 : Int))) ∧ ((u_135.1.1 : Int) = 0 → u_135.2.2.1 = Afj) := hφ
      refine W.eq (g2 := F0 m 125 ls [.int (iZ u_135.1.1)]) rfl ?_
      rcases p_138 with ⟨qt_140, cut_140, yt_140, st_140, lt_140, xt_140, rt_140, ht_140, ut_140, vt_140⟩ | ⟨qt_140, st_140, bt_140⟩
      ·
        rw [qt_140]
        obtain ⟨⟨ar_141, br_141⟩, cr_141, dr_141, er_141, gr_141, hr_141⟩ := id xt_140
        have kr_141 := tk_1 dr_141 (xKd_rg _ _)
        have wr_141 := xKw_rg (tX Xf Msz) cut_140
        replace kr_141 : Unit → _ := fun _ => kr_141
        replace er_141 : Unit → _ := fun _ => er_141
        replace gr_141 : Unit → _ := fun _ => gr_141
        replace hr_141 : Unit → _ := fun _ => hr_141
        clear p_139
        have kp_142 := KP.up ht_140 ⟨by omega, by omega⟩ ⟨by omega, by omega⟩
        have nk_143 : NSK _ _ 1 := NSK.up (w := 1) jnk ht_140 (by omega) (by omega)
        have ms_144 := MSX.upF (w := 1) jms ht_140 (by omega) (by omega) (by omega) (by omega) (by omega)
        refine lv_if_eq (tgt := 151) hx hb dX12_aRock_125 rfl (fun c => absurd c (by decide)) (fun _ => ?_)
        exact HJ128 u_135.1.2.1 u_135.1.2.2.1 u_135.1.2.2.2.1 u_135.1.2.2.2.2.1 u_135.1.2.2.2.2.2.1 u_135.1.2.2.2.2.2.2 u_135.2.2.1 Nfj cut_140 (xUp jG (((gz Af 3560) * 6) + 1) yt_140) _ _ _ (show (0 ≤ (u_135.1.2.2.1 : Int) ∧ (u_135.1.2.2.1 : Int) ≤ u_135.1.2.2.2.1) ∧ ((u_135.1.2.2.2.1 : Int) ≤ Msz ∧ (Msz : Int) ≤ 900) ∧ (0 ≤ (u_135.1.2.1 : Int) ∧ (u_135.1.2.1 : Int) ≤ 4) ∧ ((u_135.1.2.1 : Int) ≤ 4 * (u_135.1.2.2.2.1 - u_135.1.2.2.1)) ∧ (-1 ≤ (u_135.1.2.2.2.2.1 : Int) ∧ (u_135.1.2.2.2.2.1 : Int) ≤ 100000) from (by first | with_reducible assumption | exact (by first | with_reducible assumption | exact ⟨⟨by omega, by omega⟩, ⟨by omega, by omega⟩, ⟨by omega, by omega⟩, by omega, by omega, by omega⟩))) (show (u_135.1.2.2.2.2.2.1 : Int) = 0 ∧ u_135.1.2.2.2.2.2.2 = Mfp from ⟨by omega, by omega⟩) (show KP u_135.2.2.1 Af from (KP.tr kp_142 jkp)) (show RFX (tX Xf Msz) cut_140 u_135.1.2.2.1 u_135.1.2.2.2.1 u_135.1.2.1 u_135.1.2.2.2.2.1 from xt_140) (show cu < cut_140 from (by omega)) (show NSK u_135.2.2.1 (gz Af 3560) 1 from nk_143) (show MSX u_135.2.2.1 (gz Af 3560) (gz Af 3561) (gz Af 3562) (gz Af 3678) (xUp jG (((gz Af 3560) * 6) + 1) yt_140) G from ms_144) (show xNr Nfj 24 (xUp N (gz Af 3560) (xNm (tX Xf Msz) (xEn (tX Xf Msz) cu))) (gz Af 3560 + 1) from jN) (show xRock (tX Xf Msz) N (gz Af 3560) (gz Af 3678) F cu = xR2 (tX Xf Msz) (gz Af 3560) (gz Af 3678) cut_140 (xUp jG (((gz Af 3560) * 6) + 1) yt_140) from (jeq.trans (xR1_r (xFF_r st_131 st_140)))) (show 0 ≤ gz Af 3560 ∧ gz Af 3560 < 6 from ⟨by omega, by omega⟩) (show NFR Nfj Nf from jnf) (hP.sub [1, 2, 3, 0] rfl) (hD.sub [1, 2, 3, 0] rfl rfl) hS (lv_sub hl [0, 1, 2] rfl)
      ·
        rw [qt_140]
        replace p_139 := p_139 qt_140
        have kp_146 : KP u_135.2.2.1 Afj := by rw [p_139]; exact KP.rf _
        refine lv_if_eq (tgt := 151) hx hb dX12_aRock_125 rfl (fun _ => ?_) (fun c => absurd (by decide) c)
        refine lv_iconst (v := iZ 0) hx hb dX12_aRock_151 rfl ?_
        exact EWz hx hb hr hlocks hS ((0, u_135.1.2.1, u_135.1.2.2.1, u_135.1.2.2.2.1, u_135.1.2.2.2.2.1, u_135.1.2.2.2.2.2.1, u_135.1.2.2.2.2.2.2), 0, u_135.2.2.1, Nfj) rfl rfl ⟨(show (0 ≤ (u_135.1.2.2.1 : Int) ∧ (u_135.1.2.2.1 : Int) ≤ u_135.1.2.2.2.1) ∧ ((u_135.1.2.2.2.1 : Int) ≤ Msz ∧ (Msz : Int) ≤ 900) ∧ (0 ≤ (u_135.1.2.1 : Int) ∧ (u_135.1.2.1 : Int) ≤ 4) ∧ ((u_135.1.2.1 : Int) ≤ 4 * (u_135.1.2.2.2.1 - u_135.1.2.2.1)) ∧ (-1 ≤ (u_135.1.2.2.2.2.1 : Int) ∧ (u_135.1.2.2.2.2.1 : Int) ≤ 100000) from (by first | with_reducible assumption | exact (by first | with_reducible assumption | exact ⟨⟨by omega, by omega⟩, ⟨by omega, by omega⟩, ⟨by omega, by omega⟩, by omega, by omega, by omega⟩))), (show 0 ≤ (u_135.1.2.2.2.2.2.1 : Int) ∧ (u_135.1.2.2.2.2.2.1 : Int) ≤ 9 from (by omega)), (show KP u_135.2.2.1 Af from (KP.tr kp_146 jkp)), (show ((0 : Int) = 1 ∧ ∃ (q9 : Int) (F9 : Int → Int), xRock (tX Xf Msz) N (gz Af 3560) (gz Af 3678) F cu = (xBn (xTs (tX Xf Msz) 59 q9) fun r9 => .inr (r9, gz u_135.2.2.1 3678, F9)) ∧ cu < q9 ∧ RFX (tX Xf Msz) q9 u_135.1.2.2.1 u_135.1.2.2.2.1 u_135.1.2.1 u_135.1.2.2.2.2.1 ∧ MSX u_135.2.2.1 (gz u_135.2.2.1 3560) (gz u_135.2.2.1 3561) (gz u_135.2.2.1 3562) (gz u_135.2.2.1 3678) F9 G ∧ xNr Nfj 24 (xUp N (gz Af 3560) (xNm (tX Xf Msz) (xEn (tX Xf Msz) cu))) (gz u_135.2.2.1 3560) ∧ (gz u_135.2.2.1 3560 = gz Af 3560 + 1 ∧ gz u_135.2.2.1 3561 = gz Af 3561 ∧ gz u_135.2.2.1 3562 = gz Af 3562) ∧ NSZ u_135.2.2.1 ∧ (u_135.1.2.2.2.2.2.1 : Int) = 0 ∧ u_135.1.2.2.2.2.2.2 = Mfp) ∨ ((0 : Int) = 0 ∧ xRock (tX Xf Msz) N (gz Af 3560) (gz Af 3678) F cu = .inl (u_135.1.2.2.2.2.2.1, u_135.1.2.2.2.2.2.2) ∧ 1 ≤ (u_135.1.2.2.2.2.2.1 : Int)) from (Or.inr ⟨rfl, (jeq.trans (xR1_l (xFF_b st_131 st_140))), by omega⟩)), (show NFR Nfj Nf from jnf)⟩ (hP.sub [1, 2, 3, 0] rfl) (hD.sub [1, 2, 3, 0] rfl rfl) dX12_aRock_152
    ·
      rw [qt_131]
      refine lv_if_eq (tgt := 151) hx hb dX12_aRock_112 rfl (fun _ => ?_) (fun c => absurd (by decide) c)
      refine lv_iconst (v := iZ 0) hx hb dX12_aRock_151 rfl ?_
      exact EWz hx hb hr hlocks hS ((0, u_127.1.2.1, u_127.1.2.2.1, u_127.1.2.2.2.1, u_127.1.2.2.2.2.1, u_127.1.2.2.2.2.2.1, u_127.1.2.2.2.2.2.2), 0, Afj, Nfj) rfl rfl ⟨(show (0 ≤ (u_127.1.2.2.1 : Int) ∧ (u_127.1.2.2.1 : Int) ≤ u_127.1.2.2.2.1) ∧ ((u_127.1.2.2.2.1 : Int) ≤ Msz ∧ (Msz : Int) ≤ 900) ∧ (0 ≤ (u_127.1.2.1 : Int) ∧ (u_127.1.2.1 : Int) ≤ 4) ∧ ((u_127.1.2.1 : Int) ≤ 4 * (u_127.1.2.2.2.1 - u_127.1.2.2.1)) ∧ (-1 ≤ (u_127.1.2.2.2.2.1 : Int) ∧ (u_127.1.2.2.2.2.1 : Int) ≤ 100000) from (by first | with_reducible assumption | exact (by first | with_reducible assumption | exact ⟨⟨by omega, by omega⟩, ⟨by omega, by omega⟩, ⟨by omega, by omega⟩, by omega, by omega, by omega⟩))), (show 0 ≤ (u_127.1.2.2.2.2.2.1 : Int) ∧ (u_127.1.2.2.2.2.2.1 : Int) ≤ 9 from (by omega)), (show KP Afj Af from jkp), (show ((0 : Int) = 1 ∧ ∃ (q9 : Int) (F9 : Int → Int), xRock (tX Xf Msz) N (gz Af 3560) (gz Af 3678) F cu = (xBn (xTs (tX Xf Msz) 59 q9) fun r9 => .inr (r9, gz Afj 3678, F9)) ∧ cu < q9 ∧ RFX (tX Xf Msz) q9 u_127.1.2.2.1 u_127.1.2.2.2.1 u_127.1.2.1 u_127.1.2.2.2.2.1 ∧ MSX Afj (gz Afj 3560) (gz Afj 3561) (gz Afj 3562) (gz Afj 3678) F9 G ∧ xNr Nfj 24 (xUp N (gz Af 3560) (xNm (tX Xf Msz) (xEn (tX Xf Msz) cu))) (gz Afj 3560) ∧ (gz Afj 3560 = gz Af 3560 + 1 ∧ gz Afj 3561 = gz Af 3561 ∧ gz Afj 3562 = gz Af 3562) ∧ NSZ Afj ∧ (u_127.1.2.2.2.2.2.1 : Int) = 0 ∧ u_127.1.2.2.2.2.2.2 = Mfp) ∨ ((0 : Int) = 0 ∧ xRock (tX Xf Msz) N (gz Af 3560) (gz Af 3678) F cu = .inl (u_127.1.2.2.2.2.2.1, u_127.1.2.2.2.2.2.2) ∧ 1 ≤ (u_127.1.2.2.2.2.2.1 : Int)) from (Or.inr ⟨rfl, (jeq.trans (xR1_l (xFF_a st_131))), by omega⟩)), (show NFR Nfj Nf from jnf)⟩ (hP.sub [2, 3, 0, 1] rfl) (hD.sub [2, 3, 0, 1] rfl rfl) dX12_aRock_152
  refine lv_aload_n hx hb dX12_aRock_0 rfl (lv_at hl 0 rfl) ?_
  refine va_get (D := D) (ci := 12) (v := .ref Ma) (C := RX12) (T := TX12) (N := 36) hx hb hts iX12 hown hK hP 0 rfl rfl 0 (bl rfl) (hts _ qf_X12_7) (fun _ h => h) rfl dX12_aRock_1 ?_
  refine lv_sipush (v := iZ 3560) hx hb dX12_aRock_4 sip_3560 ?_
  refine va_iald hx hb hK hP 2 1 rfl rfl (zin (e := 3560) (n := 5340) ⟨by omega, by omega⟩ (bl rfl)) dX12_aRock_7 ?_
  refine lv_topi (fun x_149 ex_149 => ?_)
  obtain rfl : x_149 = iZ (gz Af 3560) := ex_149.trans (gz_eq ⟨by omega, by omega⟩)
  have h_150 := gz_rg Af 3560
  refine lv_istore_n (lv' := [(1, .int (iZ (gz Af 3560))), (0, .ref hm)]) hx hb dX12_aRock_8 rfl hl (bl rfl) rfl (fun ls hl => ?_)
  refine lv_sipush (v := iZ 3570) hx hb dX12_aRock_9 sip_3570 ?_
  refine lv_bipush (v := iZ 6) hx hb dX12_aRock_12 bip_6 ?_
  refine lv_iload_n hx hb dX12_aRock_14 rfl (lv_at hl 0 rfl) ?_
  refine lv_imul hx hb dX12_aRock_15 ?_
  refine lv_topi (fun x_151 ex_151 => ?_)
  obtain rfl : x_151 = iZ (6 * (gz Af 3560)) := ex_151.trans (iZ_mul 6 (gz Af 3560))
  refine lv_iadd hx hb dX12_aRock_16 ?_
  refine lv_topi (fun x_152 ex_152 => ?_)
  obtain rfl : x_152 = iZ (3570 + (6 * (gz Af 3560))) := ex_152.trans (iZ_add 3570 (6 * (gz Af 3560)))
  refine lv_istore_n (lv' := [(2, .int (iZ (3570 + (6 * (gz Af 3560))))), (1, .int (iZ (gz Af 3560))), (0, .ref hm)]) hx hb dX12_aRock_17 rfl hl (bl rfl) rfl (fun ls hl => ?_)
  refine lv_iload_n hx hb dX12_aRock_18 rfl (lv_at hl 1 rfl) ?_
  refine lv_bipush (v := iZ 6) hx hb dX12_aRock_19 bip_6 ?_
  refine lv_icmp_ne (tgt := 31) hx hb dX12_aRock_21 rfl (fun c_153 => ?_) (fun c_153 => ?_)
  ·
    have c_153 := mt (zeq (x := iZ (gz Af 3560)) (y := iZ 6) rfl rfl (gz_rg Af 3560) wn_6).mpr c_153
    refine lv_aload_n hx hb dX12_aRock_31 rfl (lv_at hl 2 rfl) ?_
    refine CWV (As := []) (rest := []) (wc := _) (wr := [(Ma, .inl (k 1, 5340, .inl Af)), (Mn, .inl (k 2, 36, .inr (.inl Nf)))]) hx hb hml hown hts hKK hP hD hS hA (y_onward l D k hm Ma Mn Ms My Mt Mp Mx Mo Mk Ml Mb Mh Mc Mz Mr Mq Mst Mtd Msz Mtk Mfr Men Mva Mfk Mfp Mfs Mse Mlt Mdp Mct Mdr Mrs Mit Mmk Mtp Mbt Xf ⟨⟨by omega, by omega⟩, by omega⟩) ci_X12_onward qm_X12_158 ⟨Nat.le_of_ble_eq_true rfl, Nat.le_of_ble_eq_true rfl⟩ ⟨Nat.le_of_ble_eq_true rfl, Nat.le_of_ble_eq_true rfl⟩ [0, 1] [2, 3] rfl rfl rfl rfl rfl (dj rfl) 0 rfl rfl rfl hl.1 rfl (Nat.le_of_ble_eq_true rfl) dX12_aRock_32 (fun u_154 H locs hφ hP hD hS => ?_)
    obtain ⟨p_155, p_156, p_157⟩ : (RFX (tX Xf Msz) Men u_154.1.2.2.1 u_154.1.2.2.2.1 u_154.1.2.1 u_154.1.2.2.2.2) ∧ ((0 ≤ (u_154.1.2.2.1 : Int) ∧ (u_154.1.2.2.1 : Int) ≤ u_154.1.2.2.2.1) ∧ ((u_154.1.2.2.2.1 : Int) ≤ Msz ∧ (Msz : Int) ≤ 900) ∧ (0 ≤ (u_154.1.2.1 : Int) ∧ (u_154.1.2.1 : Int) ≤ 4) ∧ ((u_154.1.2.1 : Int) ≤ 4 * (u_154.1.2.2.2.1 - u_154.1.2.2.1)) ∧ (-1 ≤ (u_154.1.2.2.2.2 : Int) ∧ (u_154.1.2.2.2.2 : Int) ≤ 100000)) ∧ (Men ≤ u_154.1.2.2.1) := hφ
    have rx_158 := RFX.nx hrf p_155
    obtain ⟨⟨ar_159, br_159⟩, cr_159, dr_159, er_159, gr_159, hr_159⟩ := id rx_158
    have kr_159 := tk_1 dr_159 (xKd_rg _ _)
    have wr_159 := xKw_rg (tX Xf Msz) (xEn (tX Xf Msz) cu)
    replace kr_159 : Unit → _ := fun _ => kr_159
    replace er_159 : Unit → _ := fun _ => er_159
    replace gr_159 : Unit → _ := fun _ => gr_159
    replace hr_159 : Unit → _ := fun _ => hr_159
    refine W.eq (g2 := F0 m 35 ls []) rfl ?_
    refine lv_aload_n hx hb dX12_aRock_35 rfl (lv_at hl 2 rfl) ?_
    refine va_ldcS hx hb hown hRR dX12_aRock_36 ?_
    refine CSV (As := [.ref sa]) (rest := []) (wc := _) (wr := [(Ma, .inl (k 1, 5340, .inl Af)), (Mn, .inl (k 2, 36, .inr (.inl Nf)))]) hx hb hml hown hts hKK hP hD hS hA hSY hRR (y_isName l D k sa sv ([.ref Ma, .ref Mn, .int (iZ Mst), .long Mtp, .long Mbt, .ref Ms, .ref My, .ref Mt, .ref Mp, .ref Mx, .int (iZ Mtd), .int (iZ Msz), .int (iZ u_154.1.2.1), .int (iZ u_154.1.2.2.1), .int (iZ u_154.1.2.2.2.1), .int (iZ u_154.1.2.2.2.2), .int (iZ Mfk), .int (iZ Mfp), .int (iZ Mfs), .int (iZ Mse), .int (iZ Mlt), .ref Mo, .int (iZ Mdp), .int (iZ Mct), .ref Mk, .ref Ml, .ref Mb, .ref Mh, .ref Mc, .int (iZ Mdr), .int (iZ Mrs), .ref Mz, .ref Mr, .ref Mq, .int (iZ Mit), .int (iZ Mmk)]) hm Mx Msz u_154.1.2.1 u_154.1.2.2.1 u_154.1.2.2.2.1 Xf (xEn (tX Xf Msz) cu) rfl rfl rfl rfl rfl ⟨⟨⟨by omega, by omega⟩, by omega, by omega⟩, by omega, by omega⟩ ⟨⟨br_159, cr_159⟩, dr_159, gr_159 ()⟩) ci_X12_isName qm_X12_177 ⟨Nat.le_of_ble_eq_true rfl, Nat.le_of_ble_eq_true rfl⟩ ⟨Nat.le_of_ble_eq_true rfl, Nat.le_of_ble_eq_true rfl⟩ [2, 3] [0, 1] rfl rfl rfl rfl rfl (dj rfl) 0 rfl rfl rfl hl.1 rfl (Nat.le_of_ble_eq_true rfl) dX12_aRock_38 (fun u_160 H locs hφ hP hD hS => ?_)
    have p_161 : ((u_160.1 : Int) = 1 ∧ xIn (tX Xf Msz) (xEn (tX Xf Msz) cu)) ∨ ((u_160.1 : Int) = 0 ∧ ¬ xIn (tX Xf Msz) (xEn (tX Xf Msz) cu)) := hφ
    refine W.eq (g2 := F0 m 41 ls [.int (iZ u_160.1)]) rfl ?_
    rcases p_161 with ⟨qt_162, it_162⟩ | ⟨qt_162, it_162⟩
    ·
      rw [qt_162]
      have hnk := NSZ.rock hNZ (by omega)
      have lnn_163 := mt (xNm_m1 (T := (tX Xf Msz)) (p := (xEn (tX Xf Msz) cu)) ((gr_159 ()) (by have h8 := kr_159 (); have := it_162.1; omega)) (by omega)).mpr it_162.2.2
      have tnn_163 : xLet (tX Xf Msz) u_154.1.2.2.1 (u_154.1.2.2.2.1 - u_154.1.2.2.1).toNat := by have h9 := (gr_159 ()) (by have h8 := kr_159 (); have := it_162.1; omega); unfold xLn at h9; rw [← br_159, ← cr_159] at h9; exact h9
      have nnn_163 : xNm (tX Xf Msz) (xEn (tX Xf Msz) cu) = xCd (tX Xf Msz) u_154.1.2.2.1 (u_154.1.2.2.2.1 - u_154.1.2.2.1).toNat := by unfold xNm xCw; rw [if_pos (by omega), ← br_159, ← cr_159]
      refine lv_if_ne (tgt := 50) hx hb dX12_aRock_41 rfl (fun _ => ?_) (fun c => absurd c (by decide))
      refine lv_aload_n hx hb dX12_aRock_50 rfl (lv_at hl 2 rfl) ?_
      refine lv_bipush (v := iZ 24) hx hb dX12_aRock_51 bip_24 ?_
      refine lv_iload_n hx hb dX12_aRock_53 rfl (lv_at hl 1 rfl) ?_
      refine CWV (As := [.int (iZ 24), .int (iZ (gz Af 3560))]) (rest := []) (wc := _) (wr := [(Ma, .inl (k 1, 5340, .inl Af))]) hx hb hml hown hts hKK hP hD hS hA (y_findHere l D k ([.ref Ma, .ref Mn, .int (iZ Mst), .long Mtp, .long Mbt, .ref Ms, .ref My, .ref Mt, .ref Mp, .ref Mx, .int (iZ Mtd), .int (iZ Msz), .int (iZ u_154.1.2.1), .int (iZ u_154.1.2.2.1), .int (iZ u_154.1.2.2.2.1), .int (iZ u_154.1.2.2.2.2), .int (iZ Mfk), .int (iZ Mfp), .int (iZ Mfs), .int (iZ Mse), .int (iZ Mlt), .ref Mo, .int (iZ Mdp), .int (iZ Mct), .ref Mk, .ref Ml, .ref Mb, .ref Mh, .ref Mc, .int (iZ Mdr), .int (iZ Mrs), .ref Mz, .ref Mr, .ref Mq, .int (iZ Mit), .int (iZ Mmk)]) hm Mx Mn Msz u_154.1.2.2.1 u_154.1.2.2.2.1 24 (gz Af 3560) (xEn (tX Xf Msz) cu) Xf Nf N rfl rfl rfl rfl rfl ⟨⟨by omega, by omega⟩, by omega, by omega⟩ ⟨by omega, tnn_163⟩ ⟨by omega, by omega⟩ ⟨by omega, by omega⟩ ⟨hns, nnn_163⟩) ci_X12_findHere qm_X12_181 ⟨Nat.le_of_ble_eq_true rfl, Nat.le_of_ble_eq_true rfl⟩ ⟨Nat.le_of_ble_eq_true rfl, Nat.le_of_ble_eq_true rfl⟩ [2, 3, 1] [0] rfl rfl rfl rfl rfl (dj rfl) 0 rfl rfl rfl hl.1 rfl (Nat.le_of_ble_eq_true rfl) dX12_aRock_54 (fun u_165 H locs hφ hP hD hS => ?_)
      obtain ⟨p_166, p_167⟩ : (u_165.1 = xFn N (gz Af 3560) (xNm (tX Xf Msz) (xEn (tX Xf Msz) cu))) ∧ (-1 ≤ u_165.1 ∧ (u_165.1 < (gz Af 3560) ∨ u_165.1 = -1)) := hφ
      refine W.eq (g2 := F0 m 57 ls [.int (iZ u_165.1)]) rfl ?_
      refine lv_iconst (v := iZ (-1)) hx hb dX12_aRock_57 rfl ?_
      refine lv_icmp_eq (tgt := 67) hx hb dX12_aRock_58 rfl (fun c_168 => ?_) (fun c_168 => ?_)
      ·
        have c_168 := (zeq (x := iZ u_165.1) (y := iZ (-1)) rfl rfl ⟨by omega, by omega⟩ wn_m1).mp c_168
        refine lv_aload_n hx hb dX12_aRock_67 rfl (lv_at hl 2 rfl) ?_
        refine va_get (D := D) (ci := 12) (v := .ref Mn) (C := RX12) (T := TX12) (N := 36) hx hb hts iX12 hown hK hP 1 rfl rfl 1 (bl rfl) (hts _ qf_X12_13) (fun _ h => h) rfl dX12_aRock_68 ?_
        refine lv_bipush (v := iZ 24) hx hb dX12_aRock_71 bip_24 ?_
        refine lv_iload_n hx hb dX12_aRock_73 rfl (lv_at hl 1 rfl) ?_
        refine lv_iadd hx hb dX12_aRock_74 ?_
        refine lv_topi (fun x_169 ex_169 => ?_)
        obtain rfl : x_169 = iZ (24 + (gz Af 3560)) := ex_169.trans (iZ_add 24 (gz Af 3560))
        refine lv_aload_n hx hb dX12_aRock_75 rfl (lv_at hl 2 rfl) ?_
        refine CWV (As := []) (rest := [.int (iZ (24 + (gz Af 3560))), .ref Mn]) (wc := _) (wr := [(Ma, .inl (k 1, 5340, .inl Af)), (Mn, .inl (k 2, 36, .inr (.inl Nf)))]) hx hb hml hown hts hKK hP hD hS hA (y_nameHere l D k ([.ref Ma, .ref Mn, .int (iZ Mst), .long Mtp, .long Mbt, .ref Ms, .ref My, .ref Mt, .ref Mp, .ref Mx, .int (iZ Mtd), .int (iZ Msz), .int (iZ u_154.1.2.1), .int (iZ u_154.1.2.2.1), .int (iZ u_154.1.2.2.2.1), .int (iZ u_154.1.2.2.2.2), .int (iZ Mfk), .int (iZ Mfp), .int (iZ Mfs), .int (iZ Mse), .int (iZ Mlt), .ref Mo, .int (iZ Mdp), .int (iZ Mct), .ref Mk, .ref Ml, .ref Mb, .ref Mh, .ref Mc, .int (iZ Mdr), .int (iZ Mrs), .ref Mz, .ref Mr, .ref Mq, .int (iZ Mit), .int (iZ Mmk)]) hm Mx Msz u_154.1.2.2.1 u_154.1.2.2.2.1 Xf rfl rfl rfl rfl ⟨⟨by omega, by omega⟩, by omega, by omega⟩ ⟨by omega, tnn_163⟩) ci_X12_nameHere qm_X12_171 ⟨Nat.le_of_ble_eq_true rfl, Nat.le_of_ble_eq_true rfl⟩ ⟨Nat.le_of_ble_eq_true rfl, Nat.le_of_ble_eq_true rfl⟩ [1, 2] [0, 3] rfl rfl rfl rfl rfl (dj rfl) 0 rfl rfl rfl hl.1 rfl (Nat.le_of_ble_eq_true rfl) dX12_aRock_76 (fun u_170 H locs hφ hP hD hS => ?_)
        have p_171 : u_170.2.1 = lZ (xN8 (tX Xf Msz) u_154.1.2.2.1 (u_154.1.2.2.2.1 - u_154.1.2.2.1).toNat) := hφ
        refine W.eq (g2 := F0 m 79 ls [.long u_170.2.1, .int (iZ (24 + (gz Af 3560))), .ref Mn]) rfl ?_
        refine va_last hx hb hK hP hD hS 1 2 rfl rfl (zin (e := (24 + (gz Af 3560))) (n := 36) ⟨by omega, by omega⟩ (bl rfl)) dX12_aRock_79 (fun H locs hP hD hS => ?_)
        obtain ⟨f_172, hf_172⟩ : ∃ gg9, gg9 = vp_updL Nf (iZ (24 + (gz Af 3560))).toNatClampNeg u_170.2.1 := ⟨_, rfl⟩
        rw [← hf_172] at hP hD
        have hN_173 := xNr.up hns (by omega) (by omega) (by omega) hf_172 (show xNR (xNm (tX Xf Msz) (xEn (tX Xf Msz) cu)) _ from ⟨tX Xf Msz, u_154.1.2.2.1, (u_154.1.2.2.2.1 - u_154.1.2.2.1).toNat, by omega, tnn_163, nnn_163, p_171⟩)
        have nf_174 := NFR.up hf_172 ⟨by omega, by omega⟩
        refine lv_aload_n hx hb dX12_aRock_80 rfl (lv_at hl 2 rfl) ?_
        refine CWV (As := []) (rest := []) (wc := _) (wr := [(Ma, .inl (k 1, 5340, .inl Af)), (Mn, .inl (k 2, 36, .inr (.inl f_172)))]) hx hb hml hown hts hKK hP hD hS hA (y_onward l D k hm Ma Mn Ms My Mt Mp Mx Mo Mk Ml Mb Mh Mc Mz Mr Mq Mst Mtd Msz u_154.1.2.1 u_154.1.2.2.1 u_154.1.2.2.2.1 u_154.1.2.2.2.2 Mfk Mfp Mfs Mse Mlt Mdp Mct Mdr Mrs Mit Mmk Mtp Mbt Xf ⟨⟨by omega, by omega⟩, by omega⟩) ci_X12_onward qm_X12_158 ⟨Nat.le_of_ble_eq_true rfl, Nat.le_of_ble_eq_true rfl⟩ ⟨Nat.le_of_ble_eq_true rfl, Nat.le_of_ble_eq_true rfl⟩ [2, 3] [0, 1] rfl rfl rfl rfl rfl (dj rfl) 0 rfl rfl rfl hl.1 rfl (Nat.le_of_ble_eq_true rfl) dX12_aRock_81 (fun u_175 H locs hφ hP hD hS => ?_)
        obtain ⟨p_176, p_177, p_178⟩ : (RFX (tX Xf Msz) u_154.1.2.2.2.1 u_175.1.2.2.1 u_175.1.2.2.2.1 u_175.1.2.1 u_175.1.2.2.2.2) ∧ ((0 ≤ (u_175.1.2.2.1 : Int) ∧ (u_175.1.2.2.1 : Int) ≤ u_175.1.2.2.2.1) ∧ ((u_175.1.2.2.2.1 : Int) ≤ Msz ∧ (Msz : Int) ≤ 900) ∧ (0 ≤ (u_175.1.2.1 : Int) ∧ (u_175.1.2.1 : Int) ≤ 4) ∧ ((u_175.1.2.1 : Int) ≤ 4 * (u_175.1.2.2.2.1 - u_175.1.2.2.1)) ∧ (-1 ≤ (u_175.1.2.2.2.2 : Int) ∧ (u_175.1.2.2.2.2 : Int) ≤ 100000)) ∧ (u_154.1.2.2.2.1 ≤ u_175.1.2.2.1) := hφ
        have rx_179 := RFX.nx rx_158 p_176
        obtain ⟨⟨ar_180, br_180⟩, cr_180, dr_180, er_180, gr_180, hr_180⟩ := id rx_179
        have kr_180 := tk_1 dr_180 (xKd_rg _ _)
        have wr_180 := xKw_rg (tX Xf Msz) (xEn (tX Xf Msz) (xEn (tX Xf Msz) cu))
        replace kr_180 : Unit → _ := fun _ => kr_180
        replace er_180 : Unit → _ := fun _ => er_180
        replace gr_180 : Unit → _ := fun _ => gr_180
        replace hr_180 : Unit → _ := fun _ => hr_180
        refine W.eq (g2 := F0 m 84 ls []) rfl ?_
        have hnn : xNn (tX Xf Msz) N (gz Af 3560) (xEn (tX Xf Msz) cu) = .inr (xEn (tX Xf Msz) (xEn (tX Xf Msz) cu)) := by unfold xNn; rw [if_pos it_162, if_pos (show xFn N (gz Af 3560) (xNm (tX Xf Msz) (xEn (tX Xf Msz) cu)) = -1 from (by omega))]
        refine lv_aload_n hx hb dX12_aRock_84 rfl (lv_at hl 2 rfl) ?_
        refine va_ldcS hx hb hown hRR dX12_aRock_85 ?_
        refine lv_iconst (v := iZ 3) hx hb dX12_aRock_87 rfl ?_
        refine CSV (As := [.ref sa, .int (iZ 3)]) (rest := []) (wc := _) (wr := [(Ma, .inl (k 1, 5340, .inl Af)), (Mn, .inl (k 2, 36, .inr (.inl f_172)))]) hx hb hml hown hts hKK hP hD hS hA hSY hRR (y_wantWord l D k sa sv hm Ma Mn Ms My Mt Mp Mx Mo Mk Ml Mb Mh Mc Mz Mr Mq Mst Mtd Msz u_175.1.2.1 u_175.1.2.2.1 u_175.1.2.2.2.1 u_175.1.2.2.2.2 Mfk Mfp Mfs Mse Mlt Mdp Mct Mdr Mrs Mit Mmk Mtp Mbt Xf 3 (xEn (tX Xf Msz) (xEn (tX Xf Msz) cu)) 1 (by first | with_reducible assumption | exact (by first | with_reducible assumption | exact ⟨⟨by omega, by omega⟩, ⟨by omega, by omega⟩, ⟨by omega, by omega⟩, by omega, by omega, by omega⟩)) (by omega) rx_179 ⟨by omega, by omega⟩ ⟨by decide, by decide⟩) ci_X12_wantWord qm_X12_184 ⟨Nat.le_of_ble_eq_true rfl, Nat.le_of_ble_eq_true rfl⟩ ⟨Nat.le_of_ble_eq_true rfl, Nat.le_of_ble_eq_true rfl⟩ [2, 3] [0, 1] rfl rfl rfl rfl rfl (dj rfl) 0 rfl rfl rfl hl.1 rfl (Nat.le_of_ble_eq_true rfl) dX12_aRock_88 (fun u_181 H locs hφ hP hD hS => ?_)
        obtain ⟨p_182, p_183, p_184⟩ : ((0 ≤ (u_181.1.2.2.1 : Int) ∧ (u_181.1.2.2.1 : Int) ≤ u_181.1.2.2.2.1) ∧ ((u_181.1.2.2.2.1 : Int) ≤ Msz ∧ (Msz : Int) ≤ 900) ∧ (0 ≤ (u_181.1.2.1 : Int) ∧ (u_181.1.2.1 : Int) ≤ 4) ∧ ((u_181.1.2.1 : Int) ≤ 4 * (u_181.1.2.2.2.1 - u_181.1.2.2.1)) ∧ (-1 ≤ (u_181.1.2.2.2.2.1 : Int) ∧ (u_181.1.2.2.2.2.1 : Int) ≤ 100000)) ∧ (0 ≤ (u_181.1.2.2.2.2.2.1 : Int) ∧ (u_181.1.2.2.2.2.2.1 : Int) ≤ 9) ∧ (((u_181.1.1 : Int) = 1 ∧ ∃ q9 : Int, xTw (tX Xf Msz) 1 (xEn (tX Xf Msz) (xEn (tX Xf Msz) cu)) = .inr q9 ∧ (xEn (tX Xf Msz) (xEn (tX Xf Msz) cu)) < q9 ∧ RFX (tX Xf Msz) q9 u_181.1.2.2.1 u_181.1.2.2.2.1 u_181.1.2.1 u_181.1.2.2.2.2.1 ∧ (u_181.1.2.2.2.2.2.1 : Int) = 0 ∧ u_181.1.2.2.2.2.2.2 = Mfp) ∨ ((u_181.1.1 : Int) = 0 ∧ xTw (tX Xf Msz) 1 (xEn (tX Xf Msz) (xEn (tX Xf Msz) cu)) = .inl (u_181.1.2.2.2.2.2.1, u_181.1.2.2.2.2.2.2) ∧ 1 ≤ (u_181.1.2.2.2.2.2.1 : Int))) := hφ
        refine W.eq (g2 := F0 m 91 ls [.int (iZ u_181.1.1)]) rfl ?_
        rcases p_184 with ⟨qt_185, cut_185, st_185, lt_185, xt_185, ut_185, vt_185⟩ | ⟨qt_185, st_185, bt_185⟩
        ·
          rw [qt_185]
          obtain ⟨⟨ar_186, br_186⟩, cr_186, dr_186, er_186, gr_186, hr_186⟩ := id xt_185
          have kr_186 := tk_1 dr_186 (xKd_rg _ _)
          have wr_186 := xKw_rg (tX Xf Msz) cut_185
          replace kr_186 : Unit → _ := fun _ => kr_186
          replace er_186 : Unit → _ := fun _ => er_186
          replace gr_186 : Unit → _ := fun _ => gr_186
          replace hr_186 : Unit → _ := fun _ => hr_186
          refine lv_if_eq (tgt := 151) hx hb dX12_aRock_91 rfl (fun c => absurd c (by decide)) (fun _ => ?_)
          refine lv_aload_n hx hb dX12_aRock_94 rfl (lv_at hl 2 rfl) ?_
          refine lv_iload_n hx hb dX12_aRock_95 rfl (lv_at hl 0 rfl) ?_
          refine lv_iconst (v := iZ 0) hx hb dX12_aRock_96 rfl ?_
          refine lv_bipush (v := iZ 20) hx hb dX12_aRock_97 bip_20 ?_
          refine CWV (As := [.int (iZ (3570 + (6 * (gz Af 3560)))), .int (iZ 0), .int (iZ 20)]) (rest := []) (wc := _) (wr := [(Mn, .inl (k 2, 36, .inr (.inl f_172)))]) hx hb hml hown hts hKK hP hD hS hA (y_number l D k hm Ma Mn Ms My Mt Mp Mx Mo Mk Ml Mb Mh Mc Mz Mr Mq Mst Mtd Msz u_181.1.2.1 u_181.1.2.2.1 u_181.1.2.2.2.1 u_181.1.2.2.2.2.1 Mfk u_181.1.2.2.2.2.2.2 u_181.1.2.2.2.2.2.1 Mse Mlt Mdp Mct Mdr Mrs Mit Mmk Mtp Mbt Xf Af (3570 + (6 * (gz Af 3560))) 0 20 cut_185 (by first | with_reducible assumption | exact (by first | with_reducible assumption | exact ⟨⟨by omega, by omega⟩, ⟨by omega, by omega⟩, ⟨by omega, by omega⟩, by omega, by omega, by omega⟩)) (by omega) xt_185 ⟨by omega, by omega⟩ ⟨by omega, by omega⟩ ⟨by omega, by omega⟩) ci_X12_number qm_X12_188 ⟨Nat.le_of_ble_eq_true rfl, Nat.le_of_ble_eq_true rfl⟩ ⟨Nat.le_of_ble_eq_true rfl, Nat.le_of_ble_eq_true rfl⟩ [2, 3, 0] [1] rfl rfl rfl rfl rfl (dj rfl) 0 rfl rfl rfl hl.1 rfl (Nat.le_of_ble_eq_true rfl) dX12_aRock_99 (fun u_188 H locs hφ hP hD hS => ?_)
          obtain ⟨p_189, p_190, p_191, p_192⟩ : ((0 ≤ (u_188.1.2.2.1 : Int) ∧ (u_188.1.2.2.1 : Int) ≤ u_188.1.2.2.2.1) ∧ ((u_188.1.2.2.2.1 : Int) ≤ Msz ∧ (Msz : Int) ≤ 900) ∧ (0 ≤ (u_188.1.2.1 : Int) ∧ (u_188.1.2.1 : Int) ≤ 4) ∧ ((u_188.1.2.1 : Int) ≤ 4 * (u_188.1.2.2.2.1 - u_188.1.2.2.1)) ∧ (-1 ≤ (u_188.1.2.2.2.2.1 : Int) ∧ (u_188.1.2.2.2.2.1 : Int) ≤ 100000)) ∧ (0 ≤ (u_188.1.2.2.2.2.2.1 : Int) ∧ (u_188.1.2.2.2.2.2.1 : Int) ≤ 9) ∧ (((u_188.1.1 : Int) = 1 ∧ ∃ (q9 v9 : Int), xTn (tX Xf Msz) 0 20 cut_185 = .inr (q9, v9) ∧ cut_185 < q9 ∧ RFX (tX Xf Msz) q9 u_188.1.2.2.1 u_188.1.2.2.2.1 u_188.1.2.1 u_188.1.2.2.2.2.1 ∧ (0 ≤ v9 ∧ v9 ≤ 20) ∧ u_188.2.2.1 = upd Af (iZ (3570 + (6 * (gz Af 3560)))).toNatClampNeg (iZ v9) ∧ (u_188.1.2.2.2.2.2.1 : Int) = 0 ∧ u_188.1.2.2.2.2.2.2 = u_181.1.2.2.2.2.2.2) ∨ ((u_188.1.1 : Int) = 0 ∧ xTn (tX Xf Msz) 0 20 cut_185 = .inl (u_188.1.2.2.2.2.2.1, u_188.1.2.2.2.2.2.2) ∧ 1 ≤ (u_188.1.2.2.2.2.2.1 : Int))) ∧ ((u_188.1.1 : Int) = 0 → u_188.2.2.1 = Af) := hφ
          refine W.eq (g2 := F0 m 102 ls [.int (iZ u_188.1.1)]) rfl ?_
          rcases p_191 with ⟨qt_193, cut_193, yt_193, st_193, lt_193, xt_193, rt_193, ht_193, ut_193, vt_193⟩ | ⟨qt_193, st_193, bt_193⟩
          ·
            rw [qt_193]
            obtain ⟨⟨ar_194, br_194⟩, cr_194, dr_194, er_194, gr_194, hr_194⟩ := id xt_193
            have kr_194 := tk_1 dr_194 (xKd_rg _ _)
            have wr_194 := xKw_rg (tX Xf Msz) cut_193
            replace kr_194 : Unit → _ := fun _ => kr_194
            replace er_194 : Unit → _ := fun _ => er_194
            replace gr_194 : Unit → _ := fun _ => gr_194
            replace hr_194 : Unit → _ := fun _ => hr_194
            clear p_192
            have kp_195 := KP.up ht_193 ⟨by omega, by omega⟩ ⟨by omega, by omega⟩
            have nk_196 : NSK _ _ 0 := NSK.up (w := 0) hnk ht_193 (by omega) (by omega)
            have ms_197 := MSX.upF (w := 0) hms ht_193 (by omega) (by omega) (by omega) (by omega) (by omega)
            refine lv_if_eq (tgt := 151) hx hb dX12_aRock_102 rfl (fun c => absurd c (by decide)) (fun _ => ?_)
            exact HJ105 u_188.1.2.1 u_188.1.2.2.1 u_188.1.2.2.2.1 u_188.1.2.2.2.2.1 u_188.1.2.2.2.2.2.1 u_188.1.2.2.2.2.2.2 u_188.2.2.1 f_172 cut_193 (xUp F (((gz Af 3560) * 6) + 0) yt_193) _ _ _ (show (0 ≤ (u_188.1.2.2.1 : Int) ∧ (u_188.1.2.2.1 : Int) ≤ u_188.1.2.2.2.1) ∧ ((u_188.1.2.2.2.1 : Int) ≤ Msz ∧ (Msz : Int) ≤ 900) ∧ (0 ≤ (u_188.1.2.1 : Int) ∧ (u_188.1.2.1 : Int) ≤ 4) ∧ ((u_188.1.2.1 : Int) ≤ 4 * (u_188.1.2.2.2.1 - u_188.1.2.2.1)) ∧ (-1 ≤ (u_188.1.2.2.2.2.1 : Int) ∧ (u_188.1.2.2.2.2.1 : Int) ≤ 100000) from (by first | with_reducible assumption | exact (by first | with_reducible assumption | exact ⟨⟨by omega, by omega⟩, ⟨by omega, by omega⟩, ⟨by omega, by omega⟩, by omega, by omega, by omega⟩))) (show (u_188.1.2.2.2.2.2.1 : Int) = 0 ∧ u_188.1.2.2.2.2.2.2 = Mfp from ⟨by omega, by omega⟩) (show KP u_188.2.2.1 Af from kp_195) (show RFX (tX Xf Msz) cut_193 u_188.1.2.2.1 u_188.1.2.2.2.1 u_188.1.2.1 u_188.1.2.2.2.2.1 from xt_193) (show cu < cut_193 from (by omega)) (show NSK u_188.2.2.1 (gz Af 3560) 0 from nk_196) (show MSX u_188.2.2.1 (gz Af 3560) (gz Af 3561) (gz Af 3562) (gz Af 3678) (xUp F (((gz Af 3560) * 6) + 0) yt_193) G from ms_197) (show xNr f_172 24 (xUp N (gz Af 3560) (xNm (tX Xf Msz) (xEn (tX Xf Msz) cu))) (gz Af 3560 + 1) from hN_173) (show xRock (tX Xf Msz) N (gz Af 3560) (gz Af 3678) F cu = xR1 (tX Xf Msz) (gz Af 3560) (gz Af 3678) cut_193 (xUp F (((gz Af 3560) * 6) + 0) yt_193) from (xRock_1 (show ¬ 6 ≤ gz Af 3560 from (by omega)) hnn (xFF_r st_185 st_193))) (show 0 ≤ gz Af 3560 ∧ gz Af 3560 < 6 from ⟨by omega, by omega⟩) (show NFR f_172 Nf from nf_174) (hP.sub [1, 2, 3, 0] rfl) (hD.sub [1, 2, 3, 0] rfl rfl) hS (lv_sub hl [0, 1, 2] rfl)
          ·
            rw [qt_193]
            replace p_192 := p_192 qt_193
            have kp_199 : KP u_188.2.2.1 Af := by rw [p_192]; exact KP.rf _
            refine lv_if_eq (tgt := 151) hx hb dX12_aRock_102 rfl (fun _ => ?_) (fun c => absurd (by decide) c)
            refine lv_iconst (v := iZ 0) hx hb dX12_aRock_151 rfl ?_
            exact EWz hx hb hr hlocks hS ((0, u_188.1.2.1, u_188.1.2.2.1, u_188.1.2.2.2.1, u_188.1.2.2.2.2.1, u_188.1.2.2.2.2.2.1, u_188.1.2.2.2.2.2.2), 0, u_188.2.2.1, f_172) rfl rfl ⟨(show (0 ≤ (u_188.1.2.2.1 : Int) ∧ (u_188.1.2.2.1 : Int) ≤ u_188.1.2.2.2.1) ∧ ((u_188.1.2.2.2.1 : Int) ≤ Msz ∧ (Msz : Int) ≤ 900) ∧ (0 ≤ (u_188.1.2.1 : Int) ∧ (u_188.1.2.1 : Int) ≤ 4) ∧ ((u_188.1.2.1 : Int) ≤ 4 * (u_188.1.2.2.2.1 - u_188.1.2.2.1)) ∧ (-1 ≤ (u_188.1.2.2.2.2.1 : Int) ∧ (u_188.1.2.2.2.2.1 : Int) ≤ 100000) from (by first | with_reducible assumption | exact (by first | with_reducible assumption | exact ⟨⟨by omega, by omega⟩, ⟨by omega, by omega⟩, ⟨by omega, by omega⟩, by omega, by omega, by omega⟩))), (show 0 ≤ (u_188.1.2.2.2.2.2.1 : Int) ∧ (u_188.1.2.2.2.2.2.1 : Int) ≤ 9 from (by omega)), (show KP u_188.2.2.1 Af from kp_199), (show ((0 : Int) = 1 ∧ ∃ (q9 : Int) (F9 : Int → Int), xRock (tX Xf Msz) N (gz Af 3560) (gz Af 3678) F cu = (xBn (xTs (tX Xf Msz) 59 q9) fun r9 => .inr (r9, gz u_188.2.2.1 3678, F9)) ∧ cu < q9 ∧ RFX (tX Xf Msz) q9 u_188.1.2.2.1 u_188.1.2.2.2.1 u_188.1.2.1 u_188.1.2.2.2.2.1 ∧ MSX u_188.2.2.1 (gz u_188.2.2.1 3560) (gz u_188.2.2.1 3561) (gz u_188.2.2.1 3562) (gz u_188.2.2.1 3678) F9 G ∧ xNr f_172 24 (xUp N (gz Af 3560) (xNm (tX Xf Msz) (xEn (tX Xf Msz) cu))) (gz u_188.2.2.1 3560) ∧ (gz u_188.2.2.1 3560 = gz Af 3560 + 1 ∧ gz u_188.2.2.1 3561 = gz Af 3561 ∧ gz u_188.2.2.1 3562 = gz Af 3562) ∧ NSZ u_188.2.2.1 ∧ (u_188.1.2.2.2.2.2.1 : Int) = 0 ∧ u_188.1.2.2.2.2.2.2 = Mfp) ∨ ((0 : Int) = 0 ∧ xRock (tX Xf Msz) N (gz Af 3560) (gz Af 3678) F cu = .inl (u_188.1.2.2.2.2.2.1, u_188.1.2.2.2.2.2.2) ∧ 1 ≤ (u_188.1.2.2.2.2.2.1 : Int)) from (Or.inr ⟨rfl, xRock_l1 (by omega) hnn (xFF_b st_185 st_193), by omega⟩)), (show NFR f_172 Nf from nf_174)⟩ (hP.sub [1, 2, 3, 0] rfl) (hD.sub [1, 2, 3, 0] rfl rfl) dX12_aRock_152
        ·
          rw [qt_185]
          refine lv_if_eq (tgt := 151) hx hb dX12_aRock_91 rfl (fun _ => ?_) (fun c => absurd (by decide) c)
          refine lv_iconst (v := iZ 0) hx hb dX12_aRock_151 rfl ?_
          exact EWz hx hb hr hlocks hS ((0, u_181.1.2.1, u_181.1.2.2.1, u_181.1.2.2.2.1, u_181.1.2.2.2.2.1, u_181.1.2.2.2.2.2.1, u_181.1.2.2.2.2.2.2), 0, Af, f_172) rfl rfl ⟨(show (0 ≤ (u_181.1.2.2.1 : Int) ∧ (u_181.1.2.2.1 : Int) ≤ u_181.1.2.2.2.1) ∧ ((u_181.1.2.2.2.1 : Int) ≤ Msz ∧ (Msz : Int) ≤ 900) ∧ (0 ≤ (u_181.1.2.1 : Int) ∧ (u_181.1.2.1 : Int) ≤ 4) ∧ ((u_181.1.2.1 : Int) ≤ 4 * (u_181.1.2.2.2.1 - u_181.1.2.2.1)) ∧ (-1 ≤ (u_181.1.2.2.2.2.1 : Int) ∧ (u_181.1.2.2.2.2.1 : Int) ≤ 100000) from (by first | with_reducible assumption | exact (by first | with_reducible assumption | exact ⟨⟨by omega, by omega⟩, ⟨by omega, by omega⟩, ⟨by omega, by omega⟩, by omega, by omega, by omega⟩))), (show 0 ≤ (u_181.1.2.2.2.2.2.1 : Int) ∧ (u_181.1.2.2.2.2.2.1 : Int) ≤ 9 from (by omega)), (show KP Af Af from (KP.rf Af)), (show ((0 : Int) = 1 ∧ ∃ (q9 : Int) (F9 : Int → Int), xRock (tX Xf Msz) N (gz Af 3560) (gz Af 3678) F cu = (xBn (xTs (tX Xf Msz) 59 q9) fun r9 => .inr (r9, gz Af 3678, F9)) ∧ cu < q9 ∧ RFX (tX Xf Msz) q9 u_181.1.2.2.1 u_181.1.2.2.2.1 u_181.1.2.1 u_181.1.2.2.2.2.1 ∧ MSX Af (gz Af 3560) (gz Af 3561) (gz Af 3562) (gz Af 3678) F9 G ∧ xNr f_172 24 (xUp N (gz Af 3560) (xNm (tX Xf Msz) (xEn (tX Xf Msz) cu))) (gz Af 3560) ∧ (gz Af 3560 = gz Af 3560 + 1 ∧ gz Af 3561 = gz Af 3561 ∧ gz Af 3562 = gz Af 3562) ∧ NSZ Af ∧ (u_181.1.2.2.2.2.2.1 : Int) = 0 ∧ u_181.1.2.2.2.2.2.2 = Mfp) ∨ ((0 : Int) = 0 ∧ xRock (tX Xf Msz) N (gz Af 3560) (gz Af 3678) F cu = .inl (u_181.1.2.2.2.2.2.1, u_181.1.2.2.2.2.2.2) ∧ 1 ≤ (u_181.1.2.2.2.2.2.1 : Int)) from (Or.inr ⟨rfl, xRock_l1 (by omega) hnn (xFF_a st_185), by omega⟩)), (show NFR f_172 Nf from nf_174)⟩ (hP.sub [2, 3, 0, 1] rfl) (hD.sub [2, 3, 0, 1] rfl rfl) dX12_aRock_152
      ·
        have c_168 := mt (zeq (x := iZ u_165.1) (y := iZ (-1)) rfl rfl ⟨by omega, by omega⟩ wn_m1).mpr c_168
        refine lv_aload_n hx hb dX12_aRock_61 rfl (lv_at hl 2 rfl) ?_
        refine lv_iconst (v := iZ 3) hx hb dX12_aRock_62 rfl ?_
        refine CWV (As := [.int (iZ 3)]) (rest := []) (wc := _) (wr := [(Ma, .inl (k 1, 5340, .inl Af)), (Mn, .inl (k 2, 36, .inr (.inl Nf)))]) hx hb hml hown hts hKK hP hD hS hA (y_fails l D k hm Ma Mn Ms My Mt Mp Mx Mo Mk Ml Mb Mh Mc Mz Mr Mq Mst Mtd Msz u_154.1.2.1 u_154.1.2.2.1 u_154.1.2.2.2.1 u_154.1.2.2.2.2 Mfk Mfp Mfs Mse Mlt Mdp Mct Mdr Mrs Mit Mmk Mtp Mbt Xf 3 (xEn (tX Xf Msz) cu) ⟨by omega, by omega⟩ (by omega) rx_158) ci_X12_fails qm_X12_164 ⟨Nat.le_of_ble_eq_true rfl, Nat.le_of_ble_eq_true rfl⟩ ⟨Nat.le_of_ble_eq_true rfl, Nat.le_of_ble_eq_true rfl⟩ [1, 2] [0, 3] rfl rfl rfl rfl rfl (dj rfl) 0 rfl rfl rfl hl.1 rfl (Nat.le_of_ble_eq_true rfl) dX12_aRock_63 (fun u_202 H locs hφ hP hD hS => ?_)
        obtain ⟨p_203, p_204⟩ : (u_202.1.2.1 = xFl (tX Xf Msz) (xEn (tX Xf Msz) cu) 3 ∧ u_202.1.2.2 = xPl (tX Xf Msz) (xEn (tX Xf Msz) cu)) ∧ (1 ≤ (u_202.1.2.1 : Int) ∧ (u_202.1.2.1 : Int) ≤ 9) := hφ
        refine W.eq (g2 := F0 m 66 ls [.int (iZ 0)]) rfl ?_
        exact EWz hx hb hr hlocks hS ((0, u_154.1.2.1, u_154.1.2.2.1, u_154.1.2.2.2.1, u_154.1.2.2.2.2, u_202.1.2.1, u_202.1.2.2), 0, Af, Nf) rfl rfl ⟨(show (0 ≤ (u_154.1.2.2.1 : Int) ∧ (u_154.1.2.2.1 : Int) ≤ u_154.1.2.2.2.1) ∧ ((u_154.1.2.2.2.1 : Int) ≤ Msz ∧ (Msz : Int) ≤ 900) ∧ (0 ≤ (u_154.1.2.1 : Int) ∧ (u_154.1.2.1 : Int) ≤ 4) ∧ ((u_154.1.2.1 : Int) ≤ 4 * (u_154.1.2.2.2.1 - u_154.1.2.2.1)) ∧ (-1 ≤ (u_154.1.2.2.2.2 : Int) ∧ (u_154.1.2.2.2.2 : Int) ≤ 100000) from (by first | with_reducible assumption | exact (by first | with_reducible assumption | exact ⟨⟨by omega, by omega⟩, ⟨by omega, by omega⟩, ⟨by omega, by omega⟩, by omega, by omega, by omega⟩))), (show 0 ≤ (u_202.1.2.1 : Int) ∧ (u_202.1.2.1 : Int) ≤ 9 from (by omega)), (show KP Af Af from (KP.rf Af)), (show ((0 : Int) = 1 ∧ ∃ (q9 : Int) (F9 : Int → Int), xRock (tX Xf Msz) N (gz Af 3560) (gz Af 3678) F cu = (xBn (xTs (tX Xf Msz) 59 q9) fun r9 => .inr (r9, gz Af 3678, F9)) ∧ cu < q9 ∧ RFX (tX Xf Msz) q9 u_154.1.2.2.1 u_154.1.2.2.2.1 u_154.1.2.1 u_154.1.2.2.2.2 ∧ MSX Af (gz Af 3560) (gz Af 3561) (gz Af 3562) (gz Af 3678) F9 G ∧ xNr Nf 24 (xUp N (gz Af 3560) (xNm (tX Xf Msz) (xEn (tX Xf Msz) cu))) (gz Af 3560) ∧ (gz Af 3560 = gz Af 3560 + 1 ∧ gz Af 3561 = gz Af 3561 ∧ gz Af 3562 = gz Af 3562) ∧ NSZ Af ∧ (u_202.1.2.1 : Int) = 0 ∧ u_202.1.2.2 = Mfp) ∨ ((0 : Int) = 0 ∧ xRock (tX Xf Msz) N (gz Af 3560) (gz Af 3678) F cu = .inl (u_202.1.2.1, u_202.1.2.2) ∧ 1 ≤ (u_202.1.2.1 : Int)) from (Or.inr ⟨rfl, xRock_l0 (by omega) (show xNn _ _ _ _ = .inl _ from (by unfold xNn xEr; rw [if_pos it_162, if_neg (show ¬ xFn N (gz Af 3560) (xNm (tX Xf Msz) (xEn (tX Xf Msz) cu)) = -1 from (by omega)), p_203.1, p_203.2])), by omega⟩)), (show NFR Nf Nf from (NFR.rf _))⟩ (hP.sub [2, 3, 0, 1] rfl) (hD.sub [2, 3, 0, 1] rfl rfl) dX12_aRock_66
    ·
      rw [qt_162]
      have hnk := NSZ.rock hNZ (by omega)
      refine lv_if_ne (tgt := 50) hx hb dX12_aRock_41 rfl (fun c => absurd (by decide) c) (fun _ => ?_)
      refine lv_aload_n hx hb dX12_aRock_44 rfl (lv_at hl 2 rfl) ?_
      refine lv_iconst (v := iZ 2) hx hb dX12_aRock_45 rfl ?_
      refine CWV (As := [.int (iZ 2)]) (rest := []) (wc := _) (wr := [(Ma, .inl (k 1, 5340, .inl Af)), (Mn, .inl (k 2, 36, .inr (.inl Nf)))]) hx hb hml hown hts hKK hP hD hS hA (y_fails l D k hm Ma Mn Ms My Mt Mp Mx Mo Mk Ml Mb Mh Mc Mz Mr Mq Mst Mtd Msz u_154.1.2.1 u_154.1.2.2.1 u_154.1.2.2.2.1 u_154.1.2.2.2.2 Mfk Mfp Mfs Mse Mlt Mdp Mct Mdr Mrs Mit Mmk Mtp Mbt Xf 2 (xEn (tX Xf Msz) cu) ⟨by omega, by omega⟩ (by omega) rx_158) ci_X12_fails qm_X12_164 ⟨Nat.le_of_ble_eq_true rfl, Nat.le_of_ble_eq_true rfl⟩ ⟨Nat.le_of_ble_eq_true rfl, Nat.le_of_ble_eq_true rfl⟩ [2, 3] [0, 1] rfl rfl rfl rfl rfl (dj rfl) 0 rfl rfl rfl hl.1 rfl (Nat.le_of_ble_eq_true rfl) dX12_aRock_46 (fun u_206 H locs hφ hP hD hS => ?_)
      obtain ⟨p_207, p_208⟩ : (u_206.1.2.1 = xFl (tX Xf Msz) (xEn (tX Xf Msz) cu) 2 ∧ u_206.1.2.2 = xPl (tX Xf Msz) (xEn (tX Xf Msz) cu)) ∧ (1 ≤ (u_206.1.2.1 : Int) ∧ (u_206.1.2.1 : Int) ≤ 9) := hφ
      refine W.eq (g2 := F0 m 49 ls [.int (iZ 0)]) rfl ?_
      exact EWz hx hb hr hlocks hS ((0, u_154.1.2.1, u_154.1.2.2.1, u_154.1.2.2.2.1, u_154.1.2.2.2.2, u_206.1.2.1, u_206.1.2.2), 0, Af, Nf) rfl rfl ⟨(show (0 ≤ (u_154.1.2.2.1 : Int) ∧ (u_154.1.2.2.1 : Int) ≤ u_154.1.2.2.2.1) ∧ ((u_154.1.2.2.2.1 : Int) ≤ Msz ∧ (Msz : Int) ≤ 900) ∧ (0 ≤ (u_154.1.2.1 : Int) ∧ (u_154.1.2.1 : Int) ≤ 4) ∧ ((u_154.1.2.1 : Int) ≤ 4 * (u_154.1.2.2.2.1 - u_154.1.2.2.1)) ∧ (-1 ≤ (u_154.1.2.2.2.2 : Int) ∧ (u_154.1.2.2.2.2 : Int) ≤ 100000) from (by first | with_reducible assumption | exact (by first | with_reducible assumption | exact ⟨⟨by omega, by omega⟩, ⟨by omega, by omega⟩, ⟨by omega, by omega⟩, by omega, by omega, by omega⟩))), (show 0 ≤ (u_206.1.2.1 : Int) ∧ (u_206.1.2.1 : Int) ≤ 9 from (by omega)), (show KP Af Af from (KP.rf Af)), (show ((0 : Int) = 1 ∧ ∃ (q9 : Int) (F9 : Int → Int), xRock (tX Xf Msz) N (gz Af 3560) (gz Af 3678) F cu = (xBn (xTs (tX Xf Msz) 59 q9) fun r9 => .inr (r9, gz Af 3678, F9)) ∧ cu < q9 ∧ RFX (tX Xf Msz) q9 u_154.1.2.2.1 u_154.1.2.2.2.1 u_154.1.2.1 u_154.1.2.2.2.2 ∧ MSX Af (gz Af 3560) (gz Af 3561) (gz Af 3562) (gz Af 3678) F9 G ∧ xNr Nf 24 (xUp N (gz Af 3560) (xNm (tX Xf Msz) (xEn (tX Xf Msz) cu))) (gz Af 3560) ∧ (gz Af 3560 = gz Af 3560 + 1 ∧ gz Af 3561 = gz Af 3561 ∧ gz Af 3562 = gz Af 3562) ∧ NSZ Af ∧ (u_206.1.2.1 : Int) = 0 ∧ u_206.1.2.2 = Mfp) ∨ ((0 : Int) = 0 ∧ xRock (tX Xf Msz) N (gz Af 3560) (gz Af 3678) F cu = .inl (u_206.1.2.1, u_206.1.2.2) ∧ 1 ≤ (u_206.1.2.1 : Int)) from (Or.inr ⟨rfl, xRock_l0 (by omega) (show xNn _ _ _ _ = .inl _ from (by unfold xNn xEr; rw [if_neg it_162, p_207.1, p_207.2])), by omega⟩)), (show NFR Nf Nf from (NFR.rf _))⟩ (hP.sub [2, 3, 0, 1] rfl) (hD.sub [2, 3, 0, 1] rfl rfl) dX12_aRock_49
  ·
    have c_153 := (zeq (x := iZ (gz Af 3560)) (y := iZ 6) rfl rfl (gz_rg Af 3560) wn_6).mp c_153
    refine lv_aload_n hx hb dX12_aRock_24 rfl (lv_at hl 2 rfl) ?_
    refine lv_bipush (v := iZ 6) hx hb dX12_aRock_25 bip_6 ?_
    refine CWV (As := [.int (iZ 6)]) (rest := []) (wc := _) (wr := [(Ma, .inl (k 1, 5340, .inl Af)), (Mn, .inl (k 2, 36, .inr (.inl Nf)))]) hx hb hml hown hts hKK hP hD hS hA (y_fails l D k hm Ma Mn Ms My Mt Mp Mx Mo Mk Ml Mb Mh Mc Mz Mr Mq Mst Mtd Msz Mtk Mfr Men Mva Mfk Mfp Mfs Mse Mlt Mdp Mct Mdr Mrs Mit Mmk Mtp Mbt Xf 6 cu ⟨by omega, by omega⟩ (by omega) hrf) ci_X12_fails qm_X12_164 ⟨Nat.le_of_ble_eq_true rfl, Nat.le_of_ble_eq_true rfl⟩ ⟨Nat.le_of_ble_eq_true rfl, Nat.le_of_ble_eq_true rfl⟩ [0, 1] [2, 3] rfl rfl rfl rfl rfl (dj rfl) 0 rfl rfl rfl hl.1 rfl (Nat.le_of_ble_eq_true rfl) dX12_aRock_27 (fun u_209 H locs hφ hP hD hS => ?_)
    obtain ⟨p_210, p_211⟩ : (u_209.1.2.1 = xFl (tX Xf Msz) cu 6 ∧ u_209.1.2.2 = xPl (tX Xf Msz) cu) ∧ (1 ≤ (u_209.1.2.1 : Int) ∧ (u_209.1.2.1 : Int) ≤ 9) := hφ
    refine W.eq (g2 := F0 m 30 ls [.int (iZ 0)]) rfl ?_
    exact EWz hx hb hr hlocks hS ((0, Mtk, Mfr, Men, Mva, u_209.1.2.1, u_209.1.2.2), 0, Af, Nf) rfl rfl ⟨(show (0 ≤ (Mfr : Int) ∧ (Mfr : Int) ≤ Men) ∧ ((Men : Int) ≤ Msz ∧ (Msz : Int) ≤ 900) ∧ (0 ≤ (Mtk : Int) ∧ (Mtk : Int) ≤ 4) ∧ ((Mtk : Int) ≤ 4 * (Men - Mfr)) ∧ (-1 ≤ (Mva : Int) ∧ (Mva : Int) ≤ 100000) from (by first | with_reducible assumption | exact (by first | with_reducible assumption | exact ⟨⟨by omega, by omega⟩, ⟨by omega, by omega⟩, ⟨by omega, by omega⟩, by omega, by omega, by omega⟩))), (show 0 ≤ (u_209.1.2.1 : Int) ∧ (u_209.1.2.1 : Int) ≤ 9 from (by omega)), (show KP Af Af from (KP.rf Af)), (show ((0 : Int) = 1 ∧ ∃ (q9 : Int) (F9 : Int → Int), xRock (tX Xf Msz) N (gz Af 3560) (gz Af 3678) F cu = (xBn (xTs (tX Xf Msz) 59 q9) fun r9 => .inr (r9, gz Af 3678, F9)) ∧ cu < q9 ∧ RFX (tX Xf Msz) q9 Mfr Men Mtk Mva ∧ MSX Af (gz Af 3560) (gz Af 3561) (gz Af 3562) (gz Af 3678) F9 G ∧ xNr Nf 24 (xUp N (gz Af 3560) (xNm (tX Xf Msz) (xEn (tX Xf Msz) cu))) (gz Af 3560) ∧ (gz Af 3560 = gz Af 3560 + 1 ∧ gz Af 3561 = gz Af 3561 ∧ gz Af 3562 = gz Af 3562) ∧ NSZ Af ∧ (u_209.1.2.1 : Int) = 0 ∧ u_209.1.2.2 = Mfp) ∨ ((0 : Int) = 0 ∧ xRock (tX Xf Msz) N (gz Af 3560) (gz Af 3678) F cu = .inl (u_209.1.2.1, u_209.1.2.2) ∧ 1 ≤ (u_209.1.2.1 : Int)) from (Or.inr ⟨rfl, xRock_6 (by omega) p_210, by omega⟩)), (show NFR Nf Nf from (NFR.rf _))⟩ (hP.sub [2, 3, 0, 1] rfl) (hD.sub [2, 3, 0, 1] rfl rfl) dX12_aRock_30
end
