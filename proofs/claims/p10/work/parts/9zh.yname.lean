set_option maxHeartbeats 4000000 in
set_option maxRecDepth 100000 in
theorem y_nameHere (l : Launch) (D : va_G) (k : Nat → ClassId) (fs : List Value) (hm : Nat) (Mx : Nat) (Msz : Int) (Mfr : Int) (Men : Int) (Xf : Nat → Int32) (f9 : fs[9]? = some (.ref Mx)) (f11 : fs[11]? = some (.int (iZ Msz))) (f13 : fs[13]? = some (.int (iZ Mfr))) (f14 : fs[14]? = some (.int (iZ Men))) (hnh : (0 ≤ Mfr ∧ Mfr ≤ Men) ∧ (Men ≤ Msz ∧ Msz ≤ 900)) (hn8 : Men - Mfr ≤ 8 ∧ xLet (tX Xf Msz) Mfr (Men - Mfr).toNat) : WD (σ := ((Nat → Int) × (Nat → Int64) × (Nat → Nat → Int32) × (Nat → Nat → Int64))) l yX12_nameHere cX12_nameHere 4 (some .long) 1 0 0 D k [.ref hm] [(hm, .inr (12, fs)), (Mx, .inl (k 0, 900, .inl Xf))] (fun u => some (.long (u.2.1 0))) (fun u => (u.2.1 0) = lZ (xN8 (tX Xf Msz) Mfr (Men - Mfr).toNat)) (fun u => [(hm, .inr (12, fs)), (Mx, .inl (k 0, 900, .inl Xf))]) := by
  refine MW (by decide) (Nat.le_of_ble_eq_true rfl) (fun p e s m below meth c ls A hx hb hml hr hlocks hin hts hown hKK hP hD hS hA hl => ?_)
  have hK := hKK.1
  have hl : lv_has ls 4 [(0, .ref hm)] := hl
  refine lv_lconst (v := 0) hx hb dX12_nameHere_0 rfl ?_
  refine lv_lstore_n (lv' := [(1, .long 0), (0, .ref hm)]) hx hb dX12_nameHere_1 rfl hl (by decide) rfl (fun ls hl => ?_)
  refine lv_aload_n hx hb dX12_nameHere_2 rfl (lv_at hl 1 rfl) ?_
  refine va_get (D := D) (ci := 12) (v := .int (iZ Mfr)) (C := RX12) (T := TX12) (N := 36) hx hb hts iX12 hown hK hP 0 rfl rfl 13 (by decide) (hts _ qf_X12_121) (fun _ h => h) f13 dX12_nameHere_3 ?_
  refine lv_istore_n (lv' := [(3, .int (iZ Mfr)), (1, .long 0), (0, .ref hm)]) hx hb dX12_nameHere_6 rfl hl (by decide) rfl (fun ls hl => ?_)
  have HL7 : ∀ (fu : Nat) (v1_7 : Int64) (v3_7 : Int) (H : Heap) (locs : List Loc) (ls : Array Slot), ((Men - 1) + 2 - v3_7) < (fu : Int) → ((Mfr ≤ v3_7 ∧ v3_7 ≤ (Men - 1) + 1)) → (v1_7 = lZ (xN8 (tX Xf Msz) Mfr (v3_7 - Mfr).toNat)) → va_P D vwCl [(hm, .inr (12, fs)), (Mx, .inl (k 0, 900, .inl Xf))] H → va_D A [(hm, .inr (12, fs)), (Mx, .inl (k 0, 900, .inl Xf))] → va_S A s.heap H locs → lv_has ls 4 [(3, .int (iZ v3_7)), (1, .long v1_7), (0, .ref hm)] → W p l e (rj 1 0 0) s m [.ref hm].toArray below meth c H locs 0 0 (MQ below (QW (σ := ((Nat → Int) × (Nat → Int64) × (Nat → Nat → Int32) × (Nat → Nat → Int64))) (fun u => some (.long (u.2.1 0))) (fun u => (u.2.1 0) = lZ (xN8 (tX Xf Msz) Mfr (Men - Mfr).toNat)) (fun u => [(hm, .inr (12, fs)), (Mx, .inl (k 0, 900, .inl Xf))]) D A) [.ref hm].toArray s 0 0 A) (F0 m 7 ls []) := by
    intro fu
    induction fu with
    | zero => intro v1_7 v3_7 H locs ls hμ7 hi7 hv7 hP hD hS hl; exact absurd hμ7 (by omega)
    | succ fu ih7 =>
      intro v1_7 v3_7 H locs ls hμ7 hi7 hv7 hP hD hS hl
      refine lv_iload_n hx hb dX12_nameHere_7 rfl (lv_at hl 0 rfl) ?_
      refine lv_aload_n hx hb dX12_nameHere_8 rfl (lv_at hl 2 rfl) ?_
      refine va_get (D := D) (ci := 12) (v := .int (iZ Men)) (C := RX12) (T := TX12) (N := 36) hx hb hts iX12 hown hK hP 0 rfl rfl 14 (by decide) (hts _ qf_X12_115) (fun _ h => h) f14 dX12_nameHere_9 ?_
      refine lv_icmp_ge (tgt := 33) hx hb dX12_nameHere_12 (by decide) (fun c_1 => ?_) (fun c_1 => ?_)
      ·
        have c_1 := (zle (x := iZ Men) (y := iZ v3_7) rfl rfl ⟨by omega, by omega⟩ ⟨by omega, by omega⟩).mp c_1
        refine lv_lload_n hx hb dX12_nameHere_33 rfl (lv_at hl 1 rfl) ?_
        exact EWl hx hb hr hlocks hS (fun i => [0].getD i 0, fun i => [v1_7].getD i 0, fun i => [].getD i (fun _ => 0), fun i => [].getD i (fun _ => 0)) rfl (show v1_7 = lZ (xN8 (tX Xf Msz) Mfr (Men - Mfr).toNat) from (by rw [show Men = v3_7 from (by omega)]; exact hv7)) (hP.sub [0, 1] rfl) (hD.sub [0, 1] rfl rfl) dX12_nameHere_34
      ·
        have c_1 := mt (zle (x := iZ Men) (y := iZ v3_7) rfl rfl ⟨by omega, by omega⟩ ⟨by omega, by omega⟩).mpr c_1
        have hsm := hn8.2 v3_7 (by omega) (by omega)
        have hsm : 97 ≤ tX Xf Msz v3_7 ∧ tX Xf Msz v3_7 ≤ 122 := hsm
        refine lv_lload_n hx hb dX12_nameHere_15 rfl (lv_at hl 1 rfl) ?_
        refine lv_bipush (v := iZ 8) hx hb dX12_nameHere_16 (by decide) ?_
        refine lv_lshl (v := _) hx hb dX12_nameHere_18 rfl ?_
        refine lv_topl (fun y_2 ey_2 => ?_)
        refine lv_aload_n hx hb dX12_nameHere_19 rfl (lv_at hl 2 rfl) ?_
        refine lv_iload_n hx hb dX12_nameHere_20 rfl (lv_at hl 0 rfl) ?_
        refine CRV (As := [.int (iZ v3_7)]) (rest := [.long y_2]) hx hb hml hown hts hKK hP (y_byteAt l D k fs hm Mx Msz Xf v3_7 f9 f11 ⟨by omega, by omega⟩ ⟨by omega, by omega⟩) ci_X12_byteAt qm_X12_118 ⟨Nat.le_of_ble_eq_true rfl, Nat.le_of_ble_eq_true rfl⟩ ⟨Nat.le_of_ble_eq_true rfl, Nat.le_of_ble_eq_true rfl⟩ 0 rfl rfl rfl hl.1 rfl (Nat.le_of_ble_eq_true rfl) dX12_nameHere_21 ?_
        have hb_h_3 := tX_rg Xf Msz v3_7 (by omega)
        refine lv_i2l (v := (iZ (tX Xf Msz v3_7)).toInt64) hx hb dX12_nameHere_24 rfl ?_
        refine lv_lor hx hb dX12_nameHere_25 ?_
        refine lv_topl (fun y_4 ey_4 => ?_)
        refine lv_lstore_n (lv' := [(1, .long y_4), (3, .int (iZ v3_7)), (0, .ref hm)]) hx hb dX12_nameHere_26 rfl hl (by decide) rfl (fun ls hl => ?_)
        refine lv_iinc (v := iZ (v3_7 + 1)) (lv' := [(3, .int (iZ (v3_7 + 1))), (1, .long y_4), (0, .ref hm)]) hx hb dX12_nameHere_27 hl (k := 1) rfl (iZ_add v3_7 1) (by decide) rfl (fun ls hl => ?_)
        refine lv_goto (tgt := 7) hx hb dX12_nameHere_30 (by decide) ?_
        exact ih7  y_4 (v3_7 + 1) _ _ _ (by omega) (show (Mfr ≤ (v3_7 + 1) ∧ (v3_7 + 1) ≤ (Men - 1) + 1) from ⟨by omega, by omega⟩) (show y_4 = lZ (xN8 (tX Xf Msz) Mfr ((v3_7 + 1) - Mfr).toNat) from (by rw [ey_4, ey_2, hv7, sh8_z (xN8_7 (by omega) (fun j h1 h2 => hn8.2 j h1 (by omega))) ⟨by omega, by omega⟩, xN8_step (T := tX Xf Msz) (by omega) rfl])) (hP.sub [0, 1] rfl) (hD.sub [0, 1] rfl rfl) hS (lv_sub hl [0, 1, 2] rfl)
  exact HL7 904 0 Mfr _ _ _ (by omega) (show (Mfr ≤ Mfr ∧ Mfr ≤ (Men - 1) + 1) from ⟨by omega, by omega⟩) (show 0 = lZ (xN8 (tX Xf Msz) Mfr (Mfr - Mfr).toNat) from (by rw [xN8_0]; rfl)) (hP.sub [0, 1] rfl) (hD.sub [0, 1] rfl rfl) hS (lv_sub hl [0, 1, 2] rfl)
set_option maxHeartbeats 4000000 in
set_option maxRecDepth 100000 in
theorem y_findHere (l : Launch) (D : va_G) (k : Nat → ClassId) (fs : List Value) (hm : Nat) (Mx : Nat) (Mn : Nat) (Msz : Int) (Mfr : Int) (Men : Int) (x : Int) (y : Int) (cu : Int) (Xf : Nat → Int32) (Nf : Nat → Int64) (N : Int → Int) (f9 : fs[9]? = some (.ref Mx)) (f11 : fs[11]? = some (.int (iZ Msz))) (f13 : fs[13]? = some (.int (iZ Mfr))) (f14 : fs[14]? = some (.int (iZ Men))) (f1 : fs[1]? = some (.ref Mn)) (hnh : (0 ≤ Mfr ∧ Mfr ≤ Men) ∧ (Men ≤ Msz ∧ Msz ≤ 900)) (hn8 : Men - Mfr ≤ 8 ∧ xLet (tX Xf Msz) Mfr (Men - Mfr).toNat) (h9x : 0 ≤ x ∧ x ≤ 30) (h9y : 0 ≤ y ∧ y ≤ 6) (hnr : xNr Nf x N y ∧ xNm (tX Xf Msz) cu = xCd (tX Xf Msz) Mfr (Men - Mfr).toNat) : WD (σ := ((Nat → Int) × (Nat → Int64) × (Nat → Nat → Int32) × (Nat → Nat → Int64))) l yX12_findHere cX12_findHere 4 (some .int) 2 0 0 D k [.ref hm, .int (iZ x), .int (iZ y)] [(hm, .inr (12, fs)), (Mx, .inl (k 0, 900, .inl Xf)), (Mn, .inl (k 2, 36, .inr (.inl Nf)))] (fun u => some (.int (iZ (u.1 0)))) (fun u => ((u.1 0) = xFn N y (xNm (tX Xf Msz) cu)) ∧ (-1 ≤ (u.1 0) ∧ ((u.1 0) < y ∨ (u.1 0) = -1))) (fun u => [(hm, .inr (12, fs)), (Mx, .inl (k 0, 900, .inl Xf)), (Mn, .inl (k 2, 36, .inr (.inl Nf)))]) := by
  refine MW (by decide) (Nat.le_of_ble_eq_true rfl) (fun p e s m below meth c ls A hx hb hml hr hlocks hin hts hown hKK hP hD hS hA hl => ?_)
  have hK := hKK.1
  have hl : lv_has ls 4 [(0, .ref hm), (1, .int (iZ x)), (2, .int (iZ y))] := hl
  refine lv_iconst (v := iZ 0) hx hb dX12_findHere_0 (by decide) ?_
  refine lv_istore_n (lv' := [(3, .int (iZ 0)), (0, .ref hm), (1, .int (iZ x)), (2, .int (iZ y))]) hx hb dX12_findHere_1 rfl hl (by decide) rfl (fun ls hl => ?_)
  have HL2 : ∀ (fu : Nat) (v3_2 : Int) (H : Heap) (locs : List Loc) (ls : Array Slot), ((y - 1) + 2 - v3_2) < (fu : Int) → ((0 ≤ v3_2 ∧ v3_2 ≤ (y - 1) + 1)) → (∀ j : Int, 0 ≤ j → j < v3_2 → ¬ N j = xNm (tX Xf Msz) cu) → va_P D vwCl [(hm, .inr (12, fs)), (Mx, .inl (k 0, 900, .inl Xf)), (Mn, .inl (k 2, 36, .inr (.inl Nf)))] H → va_D A [(hm, .inr (12, fs)), (Mx, .inl (k 0, 900, .inl Xf)), (Mn, .inl (k 2, 36, .inr (.inl Nf)))] → va_S A s.heap H locs → lv_has ls 4 [(3, .int (iZ v3_2)), (0, .ref hm), (1, .int (iZ x)), (2, .int (iZ y))] → W p l e (rj 2 0 0) s m [.ref hm, .int (iZ x), .int (iZ y)].toArray below meth c H locs 0 0 (MQ below (QW (σ := ((Nat → Int) × (Nat → Int64) × (Nat → Nat → Int32) × (Nat → Nat → Int64))) (fun u => some (.int (iZ (u.1 0)))) (fun u => ((u.1 0) = xFn N y (xNm (tX Xf Msz) cu)) ∧ (-1 ≤ (u.1 0) ∧ ((u.1 0) < y ∨ (u.1 0) = -1))) (fun u => [(hm, .inr (12, fs)), (Mx, .inl (k 0, 900, .inl Xf)), (Mn, .inl (k 2, 36, .inr (.inl Nf)))]) D A) [.ref hm, .int (iZ x), .int (iZ y)].toArray s 0 0 A) (F0 m 2 ls []) := by
    intro fu
    induction fu with
    | zero => intro v3_2 H locs ls hμ2 hi2 hj2 hP hD hS hl; exact absurd hμ2 (by omega)
    | succ fu ih2 =>
      intro v3_2 H locs ls hμ2 hi2 hj2 hP hD hS hl
      refine lv_iload_n hx hb dX12_findHere_2 rfl (lv_at hl 0 rfl) ?_
      refine lv_iload_n hx hb dX12_findHere_3 rfl (lv_at hl 3 rfl) ?_
      refine lv_icmp_ge (tgt := 31) hx hb dX12_findHere_4 (by decide) (fun c_1 => ?_) (fun c_1 => ?_)
      ·
        have c_1 := (zle (x := iZ y) (y := iZ v3_2) rfl rfl ⟨by omega, by omega⟩ ⟨by omega, by omega⟩).mp c_1
        refine lv_iconst (v := iZ (-1)) hx hb dX12_findHere_31 (by decide) ?_
        exact EWi hx hb hr hlocks hS (fun i => [(-1)].getD i 0, fun i => [0].getD i 0, fun i => [].getD i (fun _ => 0), fun i => [].getD i (fun _ => 0)) rfl ⟨(show (-1) = xFn N y (xNm (tX Xf Msz) cu) from (xFn_eq (Or.inl ⟨rfl, fun j h1 h2 => hj2 j h1 (by omega)⟩))), (show -1 ≤ (-1) ∧ ((-1) < y ∨ (-1) = -1) from (by omega))⟩ (hP.sub [0, 1, 2] rfl) (hD.sub [0, 1, 2] rfl rfl) dX12_findHere_32
      ·
        have c_1 := mt (zle (x := iZ y) (y := iZ v3_2) rfl rfl ⟨by omega, by omega⟩ ⟨by omega, by omega⟩).mpr c_1
        refine lv_aload_n hx hb dX12_findHere_7 rfl (lv_at hl 1 rfl) ?_
        refine va_get (D := D) (ci := 12) (v := .ref Mn) (C := RX12) (T := TX12) (N := 36) hx hb hts iX12 hown hK hP 0 rfl rfl 1 (by decide) (hts _ qf_X12_13) (fun _ h => h) f1 dX12_findHere_8 ?_
        refine lv_iload_n hx hb dX12_findHere_11 rfl (lv_at hl 2 rfl) ?_
        refine lv_iload_n hx hb dX12_findHere_12 rfl (lv_at hl 0 rfl) ?_
        refine lv_iadd hx hb dX12_findHere_13 ?_
        refine lv_topi (fun x_2 ex_2 => ?_)
        obtain rfl : x_2 = iZ (x + v3_2) := ex_2.trans (iZ_add x v3_2)
        refine va_lald hx hb hK hP 2 2 rfl rfl (zin (e := (x + v3_2)) (n := 36) ⟨by omega, by omega⟩ (by decide)) dX12_findHere_14 ?_
        refine lv_topl (fun y_3 ey_3 => ?_)
        refine lv_aload_n hx hb dX12_findHere_15 rfl (lv_at hl 1 rfl) ?_
        refine CWV (As := []) (rest := [.long y_3]) (wc := [(hm, .inr (12, fs)), (Mx, .inl (k 0, 900, .inl Xf))]) (wr := [(Mn, .inl (k 2, 36, .inr (.inl Nf)))]) hx hb hml hown hts hKK hP hD hS hA (y_nameHere l D k fs hm Mx Msz Mfr Men Xf f9 f11 f13 f14 ⟨⟨by omega, by omega⟩, by omega, by omega⟩ hn8) ci_X12_nameHere qm_X12_171 ⟨Nat.le_of_ble_eq_true rfl, Nat.le_of_ble_eq_true rfl⟩ ⟨Nat.le_of_ble_eq_true rfl, Nat.le_of_ble_eq_true rfl⟩ [0, 1] [2] rfl rfl rfl rfl rfl (by decide) 0 rfl rfl rfl hl.1 rfl (Nat.le_of_ble_eq_true rfl) dX12_findHere_16 (fun u_4 H locs hφ hP hD hS => ?_)
        obtain ⟨I_5, L_6, F_7, G_8⟩ := u_4
        have p_10 : (L_6 0) = lZ (xN8 (tX Xf Msz) Mfr (Men - Mfr).toNat) := hφ
        refine W.eq (g2 := F0 m 19 ls [.long (L_6 0), .long y_3]) rfl ?_
        have hq : N v3_2 = xNm (tX Xf Msz) cu ↔ y_3 = (L_6 0) := (hnr.1 v3_2 (by omega) (by omega)).eq ⟨tX Xf Msz, Mfr, (Men - Mfr).toNat, by omega, hn8.2, hnr.2, rfl⟩ |>.trans (by rw [ey_3, zcl ⟨by omega, by omega⟩, p_10])
        refine W.lcmp hx hb dX12_findHere_19 ?_
        refine lv_if_ne (tgt := 25) hx hb dX12_findHere_20 (by decide) (fun c_11 => ?_) (fun c_11 => ?_)
        ·
          refine lv_iinc (v := iZ (v3_2 + 1)) (lv' := [(3, .int (iZ (v3_2 + 1))), (0, .ref hm), (1, .int (iZ x)), (2, .int (iZ y))]) hx hb dX12_findHere_25 hl (k := 0) rfl (iZ_add v3_2 1) (by decide) rfl (fun ls hl => ?_)
          refine lv_goto (tgt := 2) hx hb dX12_findHere_28 (by decide) ?_
          exact ih2  (v3_2 + 1) _ _ _ (by omega) (show (0 ≤ (v3_2 + 1) ∧ (v3_2 + 1) ≤ (y - 1) + 1) from ⟨by omega, by omega⟩) (show ∀ j : Int, 0 ≤ j → j < (v3_2 + 1) → ¬ N j = xNm (tX Xf Msz) cu from (fun j h1 h2 => by rcases Int.lt_or_eq_of_le (show j ≤ v3_2 by omega) with h3 | h3; exact hj2 j h1 h3; rw [h3]; exact fun h4 => c_11 (lgc_eq.mpr (hq.mp h4)))) (hP.sub [1, 2, 0] rfl) (hD.sub [1, 2, 0] rfl rfl) hS (lv_sub hl [0, 1, 2, 3] rfl)
        ·
          refine lv_iload_n hx hb dX12_findHere_23 rfl (lv_at hl 0 rfl) ?_
          exact EWi hx hb hr hlocks hS (fun i => [v3_2].getD i 0, fun i => [0].getD i 0, fun i => [].getD i (fun _ => 0), fun i => [].getD i (fun _ => 0)) rfl ⟨(show v3_2 = xFn N y (xNm (tX Xf Msz) cu) from (xFn_eq (Or.inr ⟨by omega, by omega, hq.mpr (lgc_eq.mp c_11), hj2⟩))), (show -1 ≤ v3_2 ∧ (v3_2 < y ∨ v3_2 = -1) from (by omega))⟩ (hP.sub [1, 2, 0] rfl) (hD.sub [1, 2, 0] rfl rfl) dX12_findHere_24
  exact HL2 9 0 _ _ _ (by omega) (show (0 ≤ 0 ∧ 0 ≤ (y - 1) + 1) from ⟨by omega, by omega⟩) (show ∀ j : Int, 0 ≤ j → j < 0 → ¬ N j = xNm (tX Xf Msz) cu from (fun j h1 h2 => absurd h1 (by omega))) (hP.sub [0, 1, 2] rfl) (hD.sub [0, 1, 2] rfl rfl) hS (lv_sub hl [0, 1, 2, 3] rfl)
set_option maxHeartbeats 4000000 in
set_option maxRecDepth 100000 in
theorem y_oldOne (l : Launch) (D : va_G) (k : Nat → ClassId) (sa sv : Nat) (hm : Nat) (Ma : Nat) (Mn : Nat) (Ms : Nat) (My : Nat) (Mt : Nat) (Mp : Nat) (Mx : Nat) (Mo : Nat) (Mk : Nat) (Ml : Nat) (Mb : Nat) (Mh : Nat) (Mc : Nat) (Mz : Nat) (Mr : Nat) (Mq : Nat) (Mst : Int) (Mtd : Int) (Msz : Int) (Mtk : Int) (Mfr : Int) (Men : Int) (Mva : Int) (Mfk : Int) (Mfp : Int) (Mfs : Int) (Mse : Int) (Mlt : Int) (Mdp : Int) (Mct : Int) (Mdr : Int) (Mrs : Int) (Mit : Int) (Mmk : Int) (Mtp : Int64) (Mbt : Int64) (Xf : Nat → Int32) (Af : Nat → Int32) (Nf : Nat → Int64) (x : Int) (y : Int) (w : Int) (cu : Int) (N : Int → Int) (hTI : (0 ≤ (Mfr : Int) ∧ (Mfr : Int) ≤ Men) ∧ ((Men : Int) ≤ Msz ∧ (Msz : Int) ≤ 900) ∧ (0 ≤ (Mtk : Int) ∧ (Mtk : Int) ≤ 4) ∧ ((Mtk : Int) = 0 ∨ (Mfr : Int) < Men) ∧ (-1 ≤ (Mva : Int) ∧ (Mva : Int) ≤ 100000)) (hf0 : Mfs = 0) (hrf : RFX (tX Xf Msz) cu Mfr Men Mtk Mva) (h9x : 0 ≤ x ∧ x ≤ 30) (h9y : 0 ≤ y ∧ y ≤ 6) (h9w : 3560 ≤ w ∧ w < 5340) (hnr : xNr Nf x N y) : SD (σ := ((Nat → Int) × (Nat → Int64) × (Nat → Nat → Int32) × (Nat → Nat → Int64))) sa sv l yX12_oldOne cX12_oldOne 4 (some .boolean) 6 D k [.ref hm, .int (iZ x), .int (iZ y), .int (iZ w)] [(hm, .inr (12, [.ref Ma, .ref Mn, .int (iZ Mst), .long Mtp, .long Mbt, .ref Ms, .ref My, .ref Mt, .ref Mp, .ref Mx, .int (iZ Mtd), .int (iZ Msz), .int (iZ Mtk), .int (iZ Mfr), .int (iZ Men), .int (iZ Mva), .int (iZ Mfk), .int (iZ Mfp), .int (iZ Mfs), .int (iZ Mse), .int (iZ Mlt), .ref Mo, .int (iZ Mdp), .int (iZ Mct), .ref Mk, .ref Ml, .ref Mb, .ref Mh, .ref Mc, .int (iZ Mdr), .int (iZ Mrs), .ref Mz, .ref Mr, .ref Mq, .int (iZ Mit), .int (iZ Mmk)])), (Mx, .inl (k 0, 900, .inl Xf)), (Ma, .inl (k 1, 5340, .inl Af)), (Mn, .inl (k 2, 36, .inr (.inl Nf)))] (fun u => some (.int (iZ (u.1 0)))) (fun u => ((0 ≤ ((u.1 2) : Int) ∧ ((u.1 2) : Int) ≤ (u.1 3)) ∧ (((u.1 3) : Int) ≤ Msz ∧ (Msz : Int) ≤ 900) ∧ (0 ≤ ((u.1 1) : Int) ∧ ((u.1 1) : Int) ≤ 4) ∧ (((u.1 1) : Int) = 0 ∨ ((u.1 2) : Int) < (u.1 3)) ∧ (-1 ≤ ((u.1 4) : Int) ∧ ((u.1 4) : Int) ≤ 100000)) ∧ (0 ≤ ((u.1 5) : Int) ∧ ((u.1 5) : Int) ≤ 9) ∧ ((((u.1 0) : Int) = 1 ∧ ∃ (q9 v9 : Int), xTr (tX Xf Msz) N y (-1) cu = .inr (q9, v9) ∧ cu < q9 ∧ RFX (tX Xf Msz) q9 (u.1 2) (u.1 3) (u.1 1) (u.1 4) ∧ (0 ≤ v9 ∧ v9 < y) ∧ (u.2.2.1 0) = upd Af (iZ w).toNatClampNeg (iZ v9) ∧ ((u.1 5) : Int) = 0 ∧ (u.1 6) = Mfp) ∨ (((u.1 0) : Int) = 0 ∧ xTr (tX Xf Msz) N y (-1) cu = .inl ((u.1 5), (u.1 6)) ∧ 1 ≤ ((u.1 5) : Int))) ∧ (((u.1 0) : Int) = 0 → KP (u.2.2.1 0) Af)) (fun u => [(hm, .inr (12, [.ref Ma, .ref Mn, .int (iZ Mst), .long Mtp, .long Mbt, .ref Ms, .ref My, .ref Mt, .ref Mp, .ref Mx, .int (iZ Mtd), .int (iZ Msz), .int (iZ (u.1 1)), .int (iZ (u.1 2)), .int (iZ (u.1 3)), .int (iZ (u.1 4)), .int (iZ Mfk), .int (iZ (u.1 6)), .int (iZ (u.1 5)), .int (iZ Mse), .int (iZ Mlt), .ref Mo, .int (iZ Mdp), .int (iZ Mct), .ref Mk, .ref Ml, .ref Mb, .ref Mh, .ref Mc, .int (iZ Mdr), .int (iZ Mrs), .ref Mz, .ref Mr, .ref Mq, .int (iZ Mit), .int (iZ Mmk)])), (Mx, .inl (k 0, 900, .inl Xf)), (Ma, .inl (k 1, 5340, .inl (u.2.2.1 0))), (Mn, .inl (k 2, 36, .inr (.inl Nf)))]) := by
  refine MSS (by decide) (Nat.le_of_ble_eq_true rfl) (fun p e s m below meth c ls A hx hb hml hr hlocks hin hts hown hKK hP hD hS hA hSY hRR hl => ?_)
  have hK := hKK.1
  have hl : lv_has ls 4 [(0, .ref hm), (1, .int (iZ x)), (2, .int (iZ y)), (3, .int (iZ w))] := hl
  obtain ⟨⟨ar_1, br_1⟩, cr_1, dr_1, er_1, gr_1, hr_1⟩ := id hrf
  have kr_1 := tk_1 dr_1 (xKd_rg _ _)
  have wr_1 := xKw_rg (tX Xf Msz) cu
  refine lv_aload_n hx hb dX12_oldOne_0 rfl (lv_at hl 0 rfl) ?_
  refine va_ldcS hx hb hown hRR dX12_oldOne_1 ?_
  refine CSV (As := [.ref sa]) (rest := []) (wc := [(hm, .inr (12, [.ref Ma, .ref Mn, .int (iZ Mst), .long Mtp, .long Mbt, .ref Ms, .ref My, .ref Mt, .ref Mp, .ref Mx, .int (iZ Mtd), .int (iZ Msz), .int (iZ Mtk), .int (iZ Mfr), .int (iZ Men), .int (iZ Mva), .int (iZ Mfk), .int (iZ Mfp), .int (iZ Mfs), .int (iZ Mse), .int (iZ Mlt), .ref Mo, .int (iZ Mdp), .int (iZ Mct), .ref Mk, .ref Ml, .ref Mb, .ref Mh, .ref Mc, .int (iZ Mdr), .int (iZ Mrs), .ref Mz, .ref Mr, .ref Mq, .int (iZ Mit), .int (iZ Mmk)])), (Mx, .inl (k 0, 900, .inl Xf))]) (wr := [(Ma, .inl (k 1, 5340, .inl Af)), (Mn, .inl (k 2, 36, .inr (.inl Nf)))]) hx hb hml hown hts hKK hP hD hS hA hSY hRR (y_isName l D k sa sv ([.ref Ma, .ref Mn, .int (iZ Mst), .long Mtp, .long Mbt, .ref Ms, .ref My, .ref Mt, .ref Mp, .ref Mx, .int (iZ Mtd), .int (iZ Msz), .int (iZ Mtk), .int (iZ Mfr), .int (iZ Men), .int (iZ Mva), .int (iZ Mfk), .int (iZ Mfp), .int (iZ Mfs), .int (iZ Mse), .int (iZ Mlt), .ref Mo, .int (iZ Mdp), .int (iZ Mct), .ref Mk, .ref Ml, .ref Mb, .ref Mh, .ref Mc, .int (iZ Mdr), .int (iZ Mrs), .ref Mz, .ref Mr, .ref Mq, .int (iZ Mit), .int (iZ Mmk)]) hm Mx Msz Mtk Mfr Men Xf cu rfl rfl rfl rfl rfl ⟨⟨⟨by omega, by omega⟩, by omega, by omega⟩, by omega, by omega⟩ ⟨⟨br_1, cr_1⟩, dr_1, gr_1⟩) ci_X12_isName qm_X12_177 ⟨Nat.le_of_ble_eq_true rfl, Nat.le_of_ble_eq_true rfl⟩ ⟨Nat.le_of_ble_eq_true rfl, Nat.le_of_ble_eq_true rfl⟩ [0, 1] [2, 3] rfl rfl rfl rfl rfl (by decide) 0 rfl rfl rfl hl.1 rfl (Nat.le_of_ble_eq_true rfl) dX12_oldOne_3 (fun u_2 H locs hφ hP hD hS => ?_)
  obtain ⟨I_3, L_4, F_5, G_6⟩ := u_2
  have p_8 : (((I_3 0) : Int) = 1 ∧ xIn (tX Xf Msz) cu) ∨ (((I_3 0) : Int) = 0 ∧ ¬ xIn (tX Xf Msz) cu) := hφ
  refine W.eq (g2 := F0 m 6 ls [.int (iZ (I_3 0))]) rfl ?_
  rcases p_8 with ⟨qt_9, it_9⟩ | ⟨qt_9, it_9⟩
  ·
    rw [qt_9]
    have lnn_10 := mt (xNm_m1 (T := (tX Xf Msz)) (p := cu) (gr_1 (by have := it_9.1; omega)) (by omega)).mpr it_9.2.2
    have tnn_10 : xLet (tX Xf Msz) Mfr (Men - Mfr).toNat := by have h9 := gr_1 (by have := it_9.1; omega); unfold xLn at h9; rw [← br_1, ← cr_1] at h9; exact h9
    have nnn_10 : xNm (tX Xf Msz) cu = xCd (tX Xf Msz) Mfr (Men - Mfr).toNat := by unfold xNm xCw; rw [if_pos (by omega), ← br_1, ← cr_1]
    refine lv_if_ne (tgt := 15) hx hb dX12_oldOne_6 (by decide) (fun _ => ?_) (fun c => absurd c (by decide))
    refine lv_aload_n hx hb dX12_oldOne_15 rfl (lv_at hl 0 rfl) ?_
    refine va_get (D := D) (ci := 12) (v := .ref Ma) (C := RX12) (T := TX12) (N := 36) hx hb hts iX12 hown hK hP 2 rfl rfl 0 (by decide) (hts _ qf_X12_7) (fun _ h => h) rfl dX12_oldOne_16 ?_
    refine lv_iload_n hx hb dX12_oldOne_19 rfl (lv_at hl 3 rfl) ?_
    refine lv_aload_n hx hb dX12_oldOne_20 rfl (lv_at hl 0 rfl) ?_
    refine lv_iload_n hx hb dX12_oldOne_21 rfl (lv_at hl 1 rfl) ?_
    refine lv_iload_n hx hb dX12_oldOne_22 rfl (lv_at hl 2 rfl) ?_
    refine CWV (As := [.int (iZ x), .int (iZ y)]) (rest := [.int (iZ w), .ref Ma]) (wc := [(hm, .inr (12, [.ref Ma, .ref Mn, .int (iZ Mst), .long Mtp, .long Mbt, .ref Ms, .ref My, .ref Mt, .ref Mp, .ref Mx, .int (iZ Mtd), .int (iZ Msz), .int (iZ Mtk), .int (iZ Mfr), .int (iZ Men), .int (iZ Mva), .int (iZ Mfk), .int (iZ Mfp), .int (iZ Mfs), .int (iZ Mse), .int (iZ Mlt), .ref Mo, .int (iZ Mdp), .int (iZ Mct), .ref Mk, .ref Ml, .ref Mb, .ref Mh, .ref Mc, .int (iZ Mdr), .int (iZ Mrs), .ref Mz, .ref Mr, .ref Mq, .int (iZ Mit), .int (iZ Mmk)])), (Mx, .inl (k 0, 900, .inl Xf)), (Mn, .inl (k 2, 36, .inr (.inl Nf)))]) (wr := [(Ma, .inl (k 1, 5340, .inl Af))]) hx hb hml hown hts hKK hP hD hS hA (y_findHere l D k ([.ref Ma, .ref Mn, .int (iZ Mst), .long Mtp, .long Mbt, .ref Ms, .ref My, .ref Mt, .ref Mp, .ref Mx, .int (iZ Mtd), .int (iZ Msz), .int (iZ Mtk), .int (iZ Mfr), .int (iZ Men), .int (iZ Mva), .int (iZ Mfk), .int (iZ Mfp), .int (iZ Mfs), .int (iZ Mse), .int (iZ Mlt), .ref Mo, .int (iZ Mdp), .int (iZ Mct), .ref Mk, .ref Ml, .ref Mb, .ref Mh, .ref Mc, .int (iZ Mdr), .int (iZ Mrs), .ref Mz, .ref Mr, .ref Mq, .int (iZ Mit), .int (iZ Mmk)]) hm Mx Mn Msz Mfr Men x y cu Xf Nf N rfl rfl rfl rfl rfl ⟨⟨by omega, by omega⟩, by omega, by omega⟩ ⟨by omega, tnn_10⟩ ⟨by omega, by omega⟩ ⟨by omega, by omega⟩ ⟨hnr, nnn_10⟩) ci_X12_findHere qm_X12_181 ⟨Nat.le_of_ble_eq_true rfl, Nat.le_of_ble_eq_true rfl⟩ ⟨Nat.le_of_ble_eq_true rfl, Nat.le_of_ble_eq_true rfl⟩ [2, 3, 1] [0] rfl rfl rfl rfl rfl (by decide) 0 rfl rfl rfl hl.1 rfl (Nat.le_of_ble_eq_true rfl) dX12_oldOne_23 (fun u_12 H locs hφ hP hD hS => ?_)
    obtain ⟨I_13, L_14, F_15, G_16⟩ := u_12
    obtain ⟨p_18, p_19⟩ : ((I_13 0) = xFn N y (xNm (tX Xf Msz) cu)) ∧ (-1 ≤ (I_13 0) ∧ ((I_13 0) < y ∨ (I_13 0) = -1)) := hφ
    refine W.eq (g2 := F0 m 26 ls [.int (iZ (I_13 0)), .int (iZ w), .ref Ma]) rfl ?_
    refine va_iast hx hb hK hP hD hS 0 1 rfl rfl (zin (e := w) (n := 5340) ⟨by omega, by omega⟩ (by decide)) dX12_oldOne_26 (fun H locs hP hD hS => ?_)
    obtain ⟨f_20, hf_20⟩ : ∃ gg9, gg9 = upd Af (iZ w).toNatClampNeg (iZ (I_13 0)) := ⟨_, rfl⟩
    rw [← hf_20] at hP hD
    refine lv_aload_n hx hb dX12_oldOne_27 rfl (lv_at hl 0 rfl) ?_
    refine va_get (D := D) (ci := 12) (v := .ref Ma) (C := RX12) (T := TX12) (N := 36) hx hb hts iX12 hown hK hP 1 rfl rfl 0 (by decide) (hts _ qf_X12_7) (fun _ h => h) rfl dX12_oldOne_28 ?_
    refine lv_iload_n hx hb dX12_oldOne_31 rfl (lv_at hl 3 rfl) ?_
    refine va_iald hx hb hK hP 0 1 rfl rfl (zin (e := w) (n := 5340) ⟨by omega, by omega⟩ (by decide)) dX12_oldOne_32 ?_
    refine lv_topi (fun x_21 ex_21 => ?_)
    obtain rfl : x_21 = iZ (gz f_20 w) := ex_21.trans (gz_eq ⟨by omega, by omega⟩)
    have h_22 := gz_rg f_20 w
    have uh_22 := gz_up hf_20 ⟨by omega, by omega⟩ ⟨by omega, by omega⟩ (j := w) (by omega)
    rw [if_pos rfl] at uh_22
    refine lv_iconst (v := iZ (-1)) hx hb dX12_oldOne_33 (by decide) ?_
    refine lv_icmp_ne (tgt := 43) hx hb dX12_oldOne_34 (by decide) (fun c_23 => ?_) (fun c_23 => ?_)
    ·
      have c_23 := mt (zeq (x := iZ (gz f_20 w)) (y := iZ (-1)) rfl rfl ⟨by omega, by omega⟩ ⟨by omega, by omega⟩).mpr c_23
      refine lv_aload_n hx hb dX12_oldOne_43 rfl (lv_at hl 0 rfl) ?_
      refine CWV (As := []) (rest := []) (wc := [(hm, .inr (12, [.ref Ma, .ref Mn, .int (iZ Mst), .long Mtp, .long Mbt, .ref Ms, .ref My, .ref Mt, .ref Mp, .ref Mx, .int (iZ Mtd), .int (iZ Msz), .int (iZ Mtk), .int (iZ Mfr), .int (iZ Men), .int (iZ Mva), .int (iZ Mfk), .int (iZ Mfp), .int (iZ Mfs), .int (iZ Mse), .int (iZ Mlt), .ref Mo, .int (iZ Mdp), .int (iZ Mct), .ref Mk, .ref Ml, .ref Mb, .ref Mh, .ref Mc, .int (iZ Mdr), .int (iZ Mrs), .ref Mz, .ref Mr, .ref Mq, .int (iZ Mit), .int (iZ Mmk)])), (Mx, .inl (k 0, 900, .inl Xf))]) (wr := [(Ma, .inl (k 1, 5340, .inl f_20)), (Mn, .inl (k 2, 36, .inr (.inl Nf)))]) hx hb hml hown hts hKK hP hD hS hA (y_onward l D k hm Ma Mn Ms My Mt Mp Mx Mo Mk Ml Mb Mh Mc Mz Mr Mq Mst Mtd Msz Mtk Mfr Men Mva Mfk Mfp Mfs Mse Mlt Mdp Mct Mdr Mrs Mit Mmk Mtp Mbt Xf ⟨⟨by omega, by omega⟩, by omega⟩) ci_X12_onward qm_X12_158 ⟨Nat.le_of_ble_eq_true rfl, Nat.le_of_ble_eq_true rfl⟩ ⟨Nat.le_of_ble_eq_true rfl, Nat.le_of_ble_eq_true rfl⟩ [1, 2] [0, 3] rfl rfl rfl rfl rfl (by decide) 0 rfl rfl rfl hl.1 rfl (Nat.le_of_ble_eq_true rfl) dX12_oldOne_44 (fun u_24 H locs hφ hP hD hS => ?_)
      obtain ⟨I_25, L_26, F_27, G_28⟩ := u_24
      obtain ⟨p_30, p_31, p_32⟩ : (RFX (tX Xf Msz) Men (I_25 2) (I_25 3) (I_25 1) (I_25 4)) ∧ ((0 ≤ ((I_25 2) : Int) ∧ ((I_25 2) : Int) ≤ (I_25 3)) ∧ (((I_25 3) : Int) ≤ Msz ∧ (Msz : Int) ≤ 900) ∧ (0 ≤ ((I_25 1) : Int) ∧ ((I_25 1) : Int) ≤ 4) ∧ (((I_25 1) : Int) = 0 ∨ ((I_25 2) : Int) < (I_25 3)) ∧ (-1 ≤ ((I_25 4) : Int) ∧ ((I_25 4) : Int) ≤ 100000)) ∧ (Men ≤ (I_25 2)) := hφ
      have rx_33 := RFX.nx hrf p_30
      obtain ⟨⟨ar_34, br_34⟩, cr_34, dr_34, er_34, gr_34, hr_34⟩ := id rx_33
      have kr_34 := tk_1 dr_34 (xKd_rg _ _)
      have wr_34 := xKw_rg (tX Xf Msz) (xEn (tX Xf Msz) cu)
      refine W.eq (g2 := F0 m 47 ls []) rfl ?_
      refine lv_iconst (v := iZ 1) hx hb dX12_oldOne_47 (by decide) ?_
      have hrk : xRk (tX Xf Msz) N y cu = (I_13 0) := by unfold xRk; rw [if_pos it_9]; exact p_18.symm
      exact EWz hx hb hr hlocks hS (fun i => [1, (I_25 1), (I_25 2), (I_25 3), (I_25 4), Mfs, Mfp].getD i 0, fun i => [0].getD i 0, fun i => [f_20].getD i (fun _ => 0), fun i => [].getD i (fun _ => 0)) rfl rfl ⟨(show (0 ≤ ((I_25 2) : Int) ∧ ((I_25 2) : Int) ≤ (I_25 3)) ∧ (((I_25 3) : Int) ≤ Msz ∧ (Msz : Int) ≤ 900) ∧ (0 ≤ ((I_25 1) : Int) ∧ ((I_25 1) : Int) ≤ 4) ∧ (((I_25 1) : Int) = 0 ∨ ((I_25 2) : Int) < (I_25 3)) ∧ (-1 ≤ ((I_25 4) : Int) ∧ ((I_25 4) : Int) ≤ 100000) from ⟨⟨by omega, by omega⟩, ⟨by omega, by omega⟩, ⟨by omega, by omega⟩, by omega, by omega, by omega⟩), (show 0 ≤ (Mfs : Int) ∧ (Mfs : Int) ≤ 9 from (by omega)), (show ((1 : Int) = 1 ∧ ∃ (q9 v9 : Int), xTr (tX Xf Msz) N y (-1) cu = .inr (q9, v9) ∧ cu < q9 ∧ RFX (tX Xf Msz) q9 (I_25 2) (I_25 3) (I_25 1) (I_25 4) ∧ (0 ≤ v9 ∧ v9 < y) ∧ f_20 = upd Af (iZ w).toNatClampNeg (iZ v9) ∧ (Mfs : Int) = 0 ∧ Mfp = Mfp) ∨ ((1 : Int) = 0 ∧ xTr (tX Xf Msz) N y (-1) cu = .inl (Mfs, Mfp) ∧ 1 ≤ (Mfs : Int)) from (Or.inl ⟨rfl, xEn (tX Xf Msz) cu, (I_13 0), by unfold xTr; rw [if_neg (show ¬ xRk (tX Xf Msz) N y cu = -1 from (by omega)), if_neg (show ¬ xRk (tX Xf Msz) N y cu = -1 from (by omega)), hrk], by have := it_9.1; omega, rx_33, ⟨by omega, by omega⟩, hf_20, by omega, rfl⟩)), (show (1 : Int) = 0 → KP f_20 Af from (fun h => absurd (show (1 : Int) = 0 from h) (by decide)))⟩ (hP.sub [2, 3, 0, 1] rfl) (hD.sub [2, 3, 0, 1] rfl rfl) dX12_oldOne_48
    ·
      have c_23 := (zeq (x := iZ (gz f_20 w)) (y := iZ (-1)) rfl rfl ⟨by omega, by omega⟩ ⟨by omega, by omega⟩).mp c_23
      refine lv_aload_n hx hb dX12_oldOne_37 rfl (lv_at hl 0 rfl) ?_
      refine lv_iconst (v := iZ 3) hx hb dX12_oldOne_38 (by decide) ?_
      refine CWV (As := [.int (iZ 3)]) (rest := []) (wc := [(hm, .inr (12, [.ref Ma, .ref Mn, .int (iZ Mst), .long Mtp, .long Mbt, .ref Ms, .ref My, .ref Mt, .ref Mp, .ref Mx, .int (iZ Mtd), .int (iZ Msz), .int (iZ Mtk), .int (iZ Mfr), .int (iZ Men), .int (iZ Mva), .int (iZ Mfk), .int (iZ Mfp), .int (iZ Mfs), .int (iZ Mse), .int (iZ Mlt), .ref Mo, .int (iZ Mdp), .int (iZ Mct), .ref Mk, .ref Ml, .ref Mb, .ref Mh, .ref Mc, .int (iZ Mdr), .int (iZ Mrs), .ref Mz, .ref Mr, .ref Mq, .int (iZ Mit), .int (iZ Mmk)])), (Mx, .inl (k 0, 900, .inl Xf))]) (wr := [(Ma, .inl (k 1, 5340, .inl f_20)), (Mn, .inl (k 2, 36, .inr (.inl Nf)))]) hx hb hml hown hts hKK hP hD hS hA (y_fails l D k hm Ma Mn Ms My Mt Mp Mx Mo Mk Ml Mb Mh Mc Mz Mr Mq Mst Mtd Msz Mtk Mfr Men Mva Mfk Mfp Mfs Mse Mlt Mdp Mct Mdr Mrs Mit Mmk Mtp Mbt Xf 3 cu ⟨by omega, by omega⟩ (by omega) hrf) ci_X12_fails qm_X12_164 ⟨Nat.le_of_ble_eq_true rfl, Nat.le_of_ble_eq_true rfl⟩ ⟨Nat.le_of_ble_eq_true rfl, Nat.le_of_ble_eq_true rfl⟩ [1, 2] [0, 3] rfl rfl rfl rfl rfl (by decide) 0 rfl rfl rfl hl.1 rfl (Nat.le_of_ble_eq_true rfl) dX12_oldOne_39 (fun u_35 H locs hφ hP hD hS => ?_)
      obtain ⟨I_36, L_37, F_38, G_39⟩ := u_35
      obtain ⟨p_41, p_42⟩ : ((I_36 1) = xFl (tX Xf Msz) cu 3 ∧ (I_36 2) = xPl (tX Xf Msz) cu) ∧ (1 ≤ ((I_36 1) : Int) ∧ ((I_36 1) : Int) ≤ 9) := hφ
      refine W.eq (g2 := F0 m 42 ls [.int (iZ 0)]) rfl ?_
      have hrk : xRk (tX Xf Msz) N y cu = -1 := by unfold xRk; rw [if_pos it_9, ← p_18]; omega
      exact EWz hx hb hr hlocks hS (fun i => [0, Mtk, Mfr, Men, Mva, (I_36 1), (I_36 2)].getD i 0, fun i => [0].getD i 0, fun i => [f_20].getD i (fun _ => 0), fun i => [].getD i (fun _ => 0)) rfl rfl ⟨(show (0 ≤ (Mfr : Int) ∧ (Mfr : Int) ≤ Men) ∧ ((Men : Int) ≤ Msz ∧ (Msz : Int) ≤ 900) ∧ (0 ≤ (Mtk : Int) ∧ (Mtk : Int) ≤ 4) ∧ ((Mtk : Int) = 0 ∨ (Mfr : Int) < Men) ∧ (-1 ≤ (Mva : Int) ∧ (Mva : Int) ≤ 100000) from ⟨⟨by omega, by omega⟩, ⟨by omega, by omega⟩, ⟨by omega, by omega⟩, by omega, by omega, by omega⟩), (show 0 ≤ ((I_36 1) : Int) ∧ ((I_36 1) : Int) ≤ 9 from (by omega)), (show ((0 : Int) = 1 ∧ ∃ (q9 v9 : Int), xTr (tX Xf Msz) N y (-1) cu = .inr (q9, v9) ∧ cu < q9 ∧ RFX (tX Xf Msz) q9 Mfr Men Mtk Mva ∧ (0 ≤ v9 ∧ v9 < y) ∧ f_20 = upd Af (iZ w).toNatClampNeg (iZ v9) ∧ ((I_36 1) : Int) = 0 ∧ (I_36 2) = Mfp) ∨ ((0 : Int) = 0 ∧ xTr (tX Xf Msz) N y (-1) cu = .inl ((I_36 1), (I_36 2)) ∧ 1 ≤ ((I_36 1) : Int)) from (Or.inr ⟨rfl, by unfold xTr xEr; rw [if_pos hrk, if_pos it_9, p_41.1, p_41.2], by omega⟩)), (show (0 : Int) = 0 → KP f_20 Af from (fun _ => KP.up hf_20 ⟨by omega, by omega⟩ ⟨by omega, by omega⟩))⟩ (hP.sub [2, 3, 0, 1] rfl) (hD.sub [2, 3, 0, 1] rfl rfl) dX12_oldOne_42
  ·
    rw [qt_9]
    refine lv_if_ne (tgt := 15) hx hb dX12_oldOne_6 (by decide) (fun c => absurd (by decide) c) (fun _ => ?_)
    refine lv_aload_n hx hb dX12_oldOne_9 rfl (lv_at hl 0 rfl) ?_
    refine lv_iconst (v := iZ 2) hx hb dX12_oldOne_10 (by decide) ?_
    refine CWV (As := [.int (iZ 2)]) (rest := []) (wc := [(hm, .inr (12, [.ref Ma, .ref Mn, .int (iZ Mst), .long Mtp, .long Mbt, .ref Ms, .ref My, .ref Mt, .ref Mp, .ref Mx, .int (iZ Mtd), .int (iZ Msz), .int (iZ Mtk), .int (iZ Mfr), .int (iZ Men), .int (iZ Mva), .int (iZ Mfk), .int (iZ Mfp), .int (iZ Mfs), .int (iZ Mse), .int (iZ Mlt), .ref Mo, .int (iZ Mdp), .int (iZ Mct), .ref Mk, .ref Ml, .ref Mb, .ref Mh, .ref Mc, .int (iZ Mdr), .int (iZ Mrs), .ref Mz, .ref Mr, .ref Mq, .int (iZ Mit), .int (iZ Mmk)])), (Mx, .inl (k 0, 900, .inl Xf))]) (wr := [(Ma, .inl (k 1, 5340, .inl Af)), (Mn, .inl (k 2, 36, .inr (.inl Nf)))]) hx hb hml hown hts hKK hP hD hS hA (y_fails l D k hm Ma Mn Ms My Mt Mp Mx Mo Mk Ml Mb Mh Mc Mz Mr Mq Mst Mtd Msz Mtk Mfr Men Mva Mfk Mfp Mfs Mse Mlt Mdp Mct Mdr Mrs Mit Mmk Mtp Mbt Xf 2 cu ⟨by omega, by omega⟩ (by omega) hrf) ci_X12_fails qm_X12_164 ⟨Nat.le_of_ble_eq_true rfl, Nat.le_of_ble_eq_true rfl⟩ ⟨Nat.le_of_ble_eq_true rfl, Nat.le_of_ble_eq_true rfl⟩ [2, 3] [0, 1] rfl rfl rfl rfl rfl (by decide) 0 rfl rfl rfl hl.1 rfl (Nat.le_of_ble_eq_true rfl) dX12_oldOne_11 (fun u_44 H locs hφ hP hD hS => ?_)
    obtain ⟨I_45, L_46, F_47, G_48⟩ := u_44
    obtain ⟨p_50, p_51⟩ : ((I_45 1) = xFl (tX Xf Msz) cu 2 ∧ (I_45 2) = xPl (tX Xf Msz) cu) ∧ (1 ≤ ((I_45 1) : Int) ∧ ((I_45 1) : Int) ≤ 9) := hφ
    refine W.eq (g2 := F0 m 14 ls [.int (iZ 0)]) rfl ?_
    exact EWz hx hb hr hlocks hS (fun i => [0, Mtk, Mfr, Men, Mva, (I_45 1), (I_45 2)].getD i 0, fun i => [0].getD i 0, fun i => [Af].getD i (fun _ => 0), fun i => [].getD i (fun _ => 0)) rfl rfl ⟨(show (0 ≤ (Mfr : Int) ∧ (Mfr : Int) ≤ Men) ∧ ((Men : Int) ≤ Msz ∧ (Msz : Int) ≤ 900) ∧ (0 ≤ (Mtk : Int) ∧ (Mtk : Int) ≤ 4) ∧ ((Mtk : Int) = 0 ∨ (Mfr : Int) < Men) ∧ (-1 ≤ (Mva : Int) ∧ (Mva : Int) ≤ 100000) from ⟨⟨by omega, by omega⟩, ⟨by omega, by omega⟩, ⟨by omega, by omega⟩, by omega, by omega, by omega⟩), (show 0 ≤ ((I_45 1) : Int) ∧ ((I_45 1) : Int) ≤ 9 from (by omega)), (show ((0 : Int) = 1 ∧ ∃ (q9 v9 : Int), xTr (tX Xf Msz) N y (-1) cu = .inr (q9, v9) ∧ cu < q9 ∧ RFX (tX Xf Msz) q9 Mfr Men Mtk Mva ∧ (0 ≤ v9 ∧ v9 < y) ∧ Af = upd Af (iZ w).toNatClampNeg (iZ v9) ∧ ((I_45 1) : Int) = 0 ∧ (I_45 2) = Mfp) ∨ ((0 : Int) = 0 ∧ xTr (tX Xf Msz) N y (-1) cu = .inl ((I_45 1), (I_45 2)) ∧ 1 ≤ ((I_45 1) : Int)) from (Or.inr ⟨rfl, by unfold xTr xEr; rw [if_pos (show xRk (tX Xf Msz) N y cu = -1 from (by unfold xRk; rw [if_neg it_9])), if_neg it_9, p_50.1, p_50.2], by omega⟩)), (show (0 : Int) = 0 → KP Af Af from (fun _ => KP.rf _))⟩ (hP.sub [2, 3, 0, 1] rfl) (hD.sub [2, 3, 0, 1] rfl rfl) dX12_oldOne_14
