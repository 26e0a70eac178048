section
set_option maxHeartbeats 4000000 in
set_option maxRecDepth 100000 in
theorem y_inWords (l : Launch) (D : va_G) (k : Nat → ClassId) (sa sv : Nat) (fs : List Value) (hm : Nat) (Mx : Nat) (Msz : Int) (Mtk : Int) (Mfr : Int) (Men : Int) (Xf : Nat → Int32) (cu : Int) (f12 : fs[12]? = some (.int (iZ Mtk))) (f13 : fs[13]? = some (.int (iZ Mfr))) (f14 : fs[14]? = some (.int (iZ Men))) (f9 : fs[9]? = some (.ref Mx)) (f11 : fs[11]? = some (.int (iZ Msz))) (hiw : ((0 ≤ Mfr ∧ Mfr ≤ Men) ∧ (Men ≤ Msz ∧ Msz ≤ 900)) ∧ (0 ≤ Mtk ∧ Mtk ≤ 4)) (hiw2 : (Mfr = xPl (tX Xf Msz) cu ∧ Men = xEn (tX Xf Msz) cu) ∧ Mtk = tkm (xKd (tX Xf Msz) cu) ∧ (Mtk = 2 → xLet (tX Xf Msz) (xPl (tX Xf Msz) cu) (xLn (tX Xf Msz) cu))) : SD (σ := ((Int) × (Int64) × (Unit) × (Unit))) sa sv l yX12_inWords cX12_inWords 7 (some .int) 4 D k [.ref hm, .ref sa] [(hm, .inr (12, fs)), (Mx, .inl (k 0, 900, .inl Xf))] (fun u => some (.int (iZ u.1))) (fun u => u.1 = xPm (xKw (tX Xf Msz) cu)) (fun u => [(hm, .inr (12, fs)), (Mx, .inl (k 0, 900, .inl Xf))]) := by
  refine MSS (by decide) (Nat.le_of_ble_eq_true rfl) (fun p e s m below meth c ls A hx hb hml hr hlocks hin hts hown hKK hP hD hS hA hSY hRR hl => ?_)
  have hK := hKK.1
  have hl : lv_has ls 7 [(0, .ref hm), (1, .ref sa)] := hl
  obtain ⟨⟨hfr, hen⟩, htk, hlt⟩ := id hiw2
  have hkt := tk_1 htk (xKd_rg _ _)
  refine lv_aload_n hx hb dX12_inWords_0 rfl (lv_at hl 0 rfl) ?_
  refine va_get (D := D) (ci := 12) (v := .int (iZ Mtk)) (C := RX12) (T := TX12) (N := 36) hx hb hts iX12 hown hK hP 0 rfl rfl 12 (bl rfl) (hts _ qf_X12_127) (fun _ h => h) f12 dX12_inWords_1 ?_
  refine lv_iconst (v := iZ 2) hx hb dX12_inWords_4 rfl ?_
  refine lv_icmp_eq (tgt := 10) hx hb dX12_inWords_5 rfl (fun c_1 => ?_) (fun c_1 => ?_)
  ·
    have c_1 := (zeq (x := iZ Mtk) (y := iZ 2) rfl rfl ⟨by omega, by omega⟩ wn_2).mp c_1
    refine lv_iconst (v := iZ 0) hx hb dX12_inWords_10 rfl ?_
    refine lv_istore_n (lv' := [(2, .int (iZ 0)), (0, .ref hm), (1, .ref sa)]) hx hb dX12_inWords_11 rfl hl (bl rfl) rfl (fun ls hl => ?_)
    refine lv_iconst (v := iZ 1) hx hb dX12_inWords_12 rfl ?_
    refine lv_istore_n (lv' := [(3, .int (iZ 1)), (2, .int (iZ 0)), (0, .ref hm), (1, .ref sa)]) hx hb dX12_inWords_13 rfl hl (bl rfl) rfl (fun ls hl => ?_)
    have HL14 : ∀ (fu : Nat) (v2_14 : Int) (v3_14 : Int) (H : Heap) (locs : List Loc) (ls : Array Slot), ((124) + 2 - v3_14) < (fu : Int) → ((1 ≤ v3_14 ∧ v3_14 ≤ (124) + 1)) → (0 ≤ v2_14 ∧ v2_14 ≤ 25 ∧ v3_14 = kS v2_14) → (∀ w : Int, 0 ≤ w → w < v2_14 → ¬ xMt (tX Xf Msz) Mfr Men w) → va_P D vwCl [(hm, .inr (12, fs)), (Mx, .inl (k 0, 900, .inl Xf))] H → va_D A [(hm, .inr (12, fs)), (Mx, .inl (k 0, 900, .inl Xf))] → va_S A s.heap H locs → lv_has ls 7 [(3, .int (iZ v3_14)), (2, .int (iZ v2_14)), (0, .ref hm), (1, .ref sa)] → W p l e (rj 4 0 0) s m [.ref hm, .ref sa].toArray below meth c H locs 0 0 (MQ below (QW (σ := ((Int) × (Int64) × (Unit) × (Unit))) (fun u => some (.int (iZ u.1))) (fun u => u.1 = xPm (xKw (tX Xf Msz) cu)) (fun u => [(hm, .inr (12, fs)), (Mx, .inl (k 0, 900, .inl Xf))]) D A) [.ref hm, .ref sa].toArray s 0 0 A) (F0 m 14 ls []) := by
      intro fu
      induction fu with
      | zero => intro v2_14 v3_14 H locs ls hμ14 hi14 hn14 hm14 hP hD hS hl; exact absurd hμ14 (by omega)
      | succ fu ih14 =>
        intro v2_14 v3_14 H locs ls hμ14 hi14 hn14 hm14 hP hD hS hl
        refine lv_iload_n hx hb dX12_inWords_14 rfl (lv_at hl 0 rfl) ?_
        refine lv_aload_n hx hb dX12_inWords_15 rfl (lv_at hl 3 rfl) ?_
        refine W.callR (rwV (As := []) (rest := [.int (iZ v3_14)]) hx hb hml hown hts ((hSY.kept hS.2.1).narrow (fun _ h => h.elim)) (jm_length l sa sv keyF) ci_J0_length_8abf5 rfl qm_X12_142 ⟨Nat.le_of_ble_eq_true rfl, Nat.le_of_ble_eq_true rfl⟩ ⟨Nat.le_of_ble_eq_true rfl, Nat.le_of_ble_eq_true rfl⟩ rfl hl.1 rfl (Nat.le_of_ble_eq_true rfl) dX12_inWords_16) ?_
        refine W.eq (g2 := F0 m 19 ls [.int (iZ 125), .int (iZ v3_14)]) rfl ?_
        refine lv_icmp_ge (tgt := 133) hx hb dX12_inWords_19 rfl (fun c_2 => ?_) (fun c_2 => ?_)
        ·
          have c_2 := (zle (x := iZ 125) (y := iZ v3_14) rfl rfl wn_125 ⟨by omega, by omega⟩).mp c_2
          have h25 : v2_14 = 25 := by rcases Int.lt_or_eq_of_le hn14.2.1 with h9 | h9; have h8 := kk_a ⟨hn14.1, h9⟩; omega; exact h9
          refine lv_iconst (v := iZ (-1)) hx hb dX12_inWords_133 rfl ?_
          exact EWi hx hb hr hlocks hS ((-1), 0, (), ()) rfl (show (-1) = xPm (xKw (tX Xf Msz) cu) from (xMt_no (fun h => hlt (by omega)) (by omega) (fun _ w h1 h2 => by rw [← hfr, ← hen]; exact hm14 w h1 (by omega))).symm) (hP.sub [0, 1] rfl) (hD.sub [0, 1] rfl rfl) dX12_inWords_134
        ·
          have c_2 := mt (zle (x := iZ 125) (y := iZ v3_14) rfl rfl wn_125 ⟨by omega, by omega⟩).mpr c_2
          have h25 : v2_14 < 25 := by rcases Int.lt_or_eq_of_le hn14.2.1 with h9 | h9; exact h9; have h8 := hn14.2.2; rw [h9, kS25] at h8; omega
          obtain ⟨ka1, ka2, ka3, ka4, ka5, ka6, ka7, ka8⟩ := kk_a ⟨hn14.1, h25⟩
          refine lv_iload_n hx hb dX12_inWords_22 rfl (lv_at hl 0 rfl) ?_
          refine lv_istore (lv' := [(4, .int (iZ v3_14)), (3, .int (iZ v3_14)), (2, .int (iZ v2_14)), (0, .ref hm), (1, .ref sa)]) hx hb dX12_inWords_23 hl (bl rfl) rfl (fun ls hl => ?_)
          have HL25 : ∀ (fu : Nat) (v4_25 : Int) (H : Heap) (locs : List Loc) (ls : Array Slot), ((123) + 2 - v4_25) < (fu : Int) → ((1 ≤ v4_25 ∧ v4_25 ≤ (123) + 1)) → (v3_14 ≤ v4_25) → (v3_14 ≤ v4_25 ∧ v4_25 ≤ kE v2_14) → va_P D vwCl [(hm, .inr (12, fs)), (Mx, .inl (k 0, 900, .inl Xf))] H → va_D A [(hm, .inr (12, fs)), (Mx, .inl (k 0, 900, .inl Xf))] → va_S A s.heap H locs → lv_has ls 7 [(4, .int (iZ v4_25)), (3, .int (iZ v3_14)), (2, .int (iZ v2_14)), (0, .ref hm), (1, .ref sa)] → W p l e (rj 4 0 0) s m [.ref hm, .ref sa].toArray below meth c H locs 0 0 (MQ below (QW (σ := ((Int) × (Int64) × (Unit) × (Unit))) (fun u => some (.int (iZ u.1))) (fun u => u.1 = xPm (xKw (tX Xf Msz) cu)) (fun u => [(hm, .inr (12, fs)), (Mx, .inl (k 0, 900, .inl Xf))]) D A) [.ref hm, .ref sa].toArray s 0 0 A) (F0 m 25 ls []) := by
            intro fu
            induction fu with
            | zero => intro v4_25 H locs ls hμ25 hi25 hf0_25 he25 hP hD hS hl; exact absurd hμ25 (by omega)
            | succ fu ih25 =>
              intro v4_25 H locs ls hμ25 hi25 hf0_25 he25 hP hD hS hl
              refine lv_aload_n hx hb dX12_inWords_25 rfl (lv_at hl 4 rfl) ?_
              refine lv_iload hx hb dX12_inWords_26 (lv_at hl 0 rfl) ?_
              refine W.callR (rwV (As := [.int (iZ v4_25)]) (rest := []) hx hb hml hown hts ((hSY.kept hS.2.1).narrow (fun _ h => h.elim)) (jm_charZ l sa sv v4_25 ⟨by omega, by omega⟩) ci_J0_charAt_5068e rfl qm_X12_148 ⟨Nat.le_of_ble_eq_true rfl, Nat.le_of_ble_eq_true rfl⟩ ⟨Nat.le_of_ble_eq_true rfl, Nat.le_of_ble_eq_true rfl⟩ rfl hl.1 rfl (Nat.le_of_ble_eq_true rfl) dX12_inWords_28) ?_
              have hk_h_3 := key_rg v4_25 ⟨by omega, by omega⟩
              refine W.eq (g2 := F0 m 31 ls [.int (iZ (gz keyF v4_25))]) rfl ?_
              refine lv_bipush (v := iZ 32) hx hb dX12_inWords_31 bip_32 ?_
              refine lv_icmp_eq (tgt := 42) hx hb dX12_inWords_33 rfl (fun c_4 => ?_) (fun c_4 => ?_)
              ·
                have c_4 := (zeq (x := iZ (gz keyF v4_25)) (y := iZ 32) rfl rfl (gz_rg keyF v4_25) wn_32).mp c_4
                have hE : v4_25 = kE v2_14 := by rcases Int.lt_or_eq_of_le he25.2 with h9 | h9; have h8 := kk_b ⟨hn14.1, h25⟩ (show kS v2_14 ≤ v4_25 by omega) h9; omega; exact h9
                refine lv_iload hx hb dX12_inWords_42 (lv_at hl 0 rfl) ?_
                refine lv_iload_n hx hb dX12_inWords_44 rfl (lv_at hl 1 rfl) ?_
                refine lv_isub hx hb dX12_inWords_45 ?_
                refine lv_topi (fun x_5 ex_5 => ?_)
                obtain rfl : x_5 = iZ (v4_25 - v3_14) := ex_5.trans (iZ_sub v4_25 v3_14)
                refine lv_aload_n hx hb dX12_inWords_46 rfl (lv_at hl 3 rfl) ?_
                refine va_get (D := D) (ci := 12) (v := .int (iZ Men)) (C := RX12) (T := TX12) (N := 36) hx hb hts iX12 hown hK hP 0 rfl rfl 14 (bl rfl) (hts _ qf_X12_115) (fun _ h => h) f14 dX12_inWords_47 ?_
                refine lv_aload_n hx hb dX12_inWords_50 rfl (lv_at hl 3 rfl) ?_
                refine va_get (D := D) (ci := 12) (v := .int (iZ Mfr)) (C := RX12) (T := TX12) (N := 36) hx hb hts iX12 hown hK hP 0 rfl rfl 13 (bl rfl) (hts _ qf_X12_121) (fun _ h => h) f13 dX12_inWords_51 ?_
                refine lv_isub hx hb dX12_inWords_54 ?_
                refine lv_topi (fun x_6 ex_6 => ?_)
                obtain rfl : x_6 = iZ (Men - Mfr) := ex_6.trans (iZ_sub Men Mfr)
                refine lv_icmp_ne (tgt := 62) hx hb dX12_inWords_55 rfl (fun c_7 => ?_) (fun c_7 => ?_)
                ·
                  have c_7 := mt (zeq (x := iZ (v4_25 - v3_14)) (y := iZ (Men - Mfr)) rfl rfl ⟨by omega, by omega⟩ ⟨by omega, by omega⟩).mpr c_7
                  refine lv_iconst (v := iZ 0) hx hb dX12_inWords_62 rfl ?_
                  refine lv_istore (lv' := [(5, .int (iZ 0)), (4, .int (iZ v4_25)), (3, .int (iZ v3_14)), (2, .int (iZ v2_14)), (0, .ref hm), (1, .ref sa)]) hx hb dX12_inWords_63 hl (bl rfl) rfl (fun ls hl => ?_)
                  refine lv_iload_n hx hb dX12_inWords_65 rfl (lv_at hl 2 rfl) ?_
                  refine lv_istore (lv' := [(6, .int (iZ v3_14)), (5, .int (iZ 0)), (4, .int (iZ v4_25)), (3, .int (iZ v3_14)), (2, .int (iZ v2_14)), (0, .ref hm), (1, .ref sa)]) hx hb dX12_inWords_66 hl (bl rfl) rfl (fun ls hl => ?_)
                  have HL68 : ∀ (fu : Nat) (v5_68 : Int) (v6_68 : Int) (H : Heap) (locs : List Loc) (ls : Array Slot), ((124) + 2 - v6_68) < (fu : Int) → ((1 ≤ v6_68 ∧ v6_68 ≤ (124) + 1)) → (v3_14 ≤ v6_68) → (0 ≤ v5_68 ∧ v5_68 ≤ 1) → ((v5_68 = 1 → kE v2_14 - kS v2_14 = Men - Mfr ∧ ∀ j : Int, kS v2_14 ≤ j → j < v6_68 → gz keyF j = tX Xf Msz (Mfr + (j - kS v2_14))) ∧ (v5_68 = 0 → ¬ xMt (tX Xf Msz) Mfr Men v2_14)) → va_P D vwCl [(hm, .inr (12, fs)), (Mx, .inl (k 0, 900, .inl Xf))] H → va_D A [(hm, .inr (12, fs)), (Mx, .inl (k 0, 900, .inl Xf))] → va_S A s.heap H locs → lv_has ls 7 [(6, .int (iZ v6_68)), (5, .int (iZ v5_68)), (4, .int (iZ v4_25)), (3, .int (iZ v3_14)), (2, .int (iZ v2_14)), (0, .ref hm), (1, .ref sa)] → W p l e (rj 4 0 0) s m [.ref hm, .ref sa].toArray below meth c H locs 0 0 (MQ below (QW (σ := ((Int) × (Int64) × (Unit) × (Unit))) (fun u => some (.int (iZ u.1))) (fun u => u.1 = xPm (xKw (tX Xf Msz) cu)) (fun u => [(hm, .inr (12, fs)), (Mx, .inl (k 0, 900, .inl Xf))]) D A) [.ref hm, .ref sa].toArray s 0 0 A) (F0 m 68 ls []) := by
                    intro fu
                    induction fu with
                    | zero => intro v5_68 v6_68 H locs ls hμ68 hi68 hf0_68 hf1_68 hl68 hP hD hS hl; exact absurd hμ68 (by omega)
                    | succ fu ih68 =>
                      intro v5_68 v6_68 H locs ls hμ68 hi68 hf0_68 hf1_68 hl68 hP hD hS hl
                      refine lv_iload hx hb dX12_inWords_68 (lv_at hl 0 rfl) ?_
                      refine lv_iload hx hb dX12_inWords_70 (lv_at hl 2 rfl) ?_
                      refine lv_icmp_ge (tgt := 115) hx hb dX12_inWords_72 rfl (fun c_8 => ?_) (fun c_8 => ?_)
                      ·
                        have c_8 := (zle (x := iZ v4_25) (y := iZ v6_68) rfl rfl ⟨by omega, by omega⟩ ⟨by omega, by omega⟩).mp c_8
                        refine lv_iload hx hb dX12_inWords_115 (lv_at hl 1 rfl) ?_
                        refine lv_if_eq (tgt := 122) hx hb dX12_inWords_117 rfl (fun c_9 => ?_) (fun c_9 => ?_)
                        ·
                          have c_9 := (zeq (x := iZ v5_68) (y := iZ 0) rfl rfl ⟨by omega, by omega⟩ wn_0).mp c_9
                          refine lv_iinc (v := iZ (v2_14 + 1)) (lv' := [(2, .int (iZ (v2_14 + 1))), (6, .int (iZ v6_68)), (5, .int (iZ v5_68)), (4, .int (iZ v4_25)), (3, .int (iZ v3_14)), (0, .ref hm), (1, .ref sa)]) hx hb dX12_inWords_122 hl (k := 4) rfl (iZ_add v2_14 1) (by decide) rfl (fun ls hl => ?_)
                          refine lv_iload hx hb dX12_inWords_125 (lv_at hl 3 rfl) ?_
                          refine lv_iconst (v := iZ 1) hx hb dX12_inWords_127 rfl ?_
                          refine lv_iadd hx hb dX12_inWords_128 ?_
                          refine lv_topi (fun x_10 ex_10 => ?_)
                          obtain rfl : x_10 = iZ (v4_25 + 1) := ex_10.trans (iZ_add v4_25 1)
                          refine lv_istore_n (lv' := [(3, .int (iZ (v4_25 + 1))), (2, .int (iZ (v2_14 + 1))), (6, .int (iZ v6_68)), (5, .int (iZ v5_68)), (4, .int (iZ v4_25)), (0, .ref hm), (1, .ref sa)]) hx hb dX12_inWords_129 rfl hl (bl rfl) rfl (fun ls hl => ?_)
                          refine lv_goto (tgt := 14) hx hb dX12_inWords_130 rfl ?_
                          exact ih14  (v2_14 + 1) (v4_25 + 1) _ _ _ (by omega) (show (1 ≤ (v4_25 + 1) ∧ (v4_25 + 1) ≤ (124) + 1) from ⟨by omega, by omega⟩) (show 0 ≤ (v2_14 + 1) ∧ (v2_14 + 1) ≤ 25 ∧ (v4_25 + 1) = kS (v2_14 + 1) from ⟨by omega, by omega, by rw [ka5]; omega⟩) (show ∀ w : Int, 0 ≤ w → w < (v2_14 + 1) → ¬ xMt (tX Xf Msz) Mfr Men w from (fun w h1 h2 => by rcases Int.lt_or_eq_of_le (show w ≤ v2_14 by omega) with h3 | h3; exact hm14 w h1 h3; rw [h3]; exact hl68.2 (by omega))) (hP.sub [0, 1] rfl) (hD.sub [0, 1] rfl rfl) hS (lv_sub hl [0, 1, 5, 6] rfl)
                        ·
                          have c_9 := mt (zeq (x := iZ v5_68) (y := iZ 0) rfl rfl ⟨by omega, by omega⟩ wn_0).mpr c_9
                          refine lv_iload_n hx hb dX12_inWords_120 rfl (lv_at hl 4 rfl) ?_
                          have hmt : xMt (tX Xf Msz) Mfr Men v2_14 := ⟨(hl68.1 (by omega)).1, fun i hi => by have h9 := (hl68.1 (by omega)).2 (kS v2_14 + i) (by omega) (by have := (hl68.1 (by omega)).1; omega); rw [show Mfr + (kS v2_14 + (i : Int) - kS v2_14) = Mfr + (i : Int) by omega] at h9; exact h9⟩
                          rw [hfr, hen] at hmt
                          exact EWi hx hb hr hlocks hS (v2_14, 0, (), ()) rfl (show v2_14 = xPm (xKw (tX Xf Msz) cu) from (xMt_kw ⟨by omega, by omega⟩ (by omega) (by omega) hmt).symm) (hP.sub [0, 1] rfl) (hD.sub [0, 1] rfl rfl) dX12_inWords_121
                      ·
                        have c_8 := mt (zle (x := iZ v4_25) (y := iZ v6_68) rfl rfl ⟨by omega, by omega⟩ ⟨by omega, by omega⟩).mpr c_8
                        refine lv_iload hx hb dX12_inWords_75 (lv_at hl 1 rfl) ?_
                        refine lv_if_eq (tgt := 115) hx hb dX12_inWords_77 rfl (fun c_11 => ?_) (fun c_11 => ?_)
                        ·
                          have c_11 := (zeq (x := iZ v5_68) (y := iZ 0) rfl rfl ⟨by omega, by omega⟩ wn_0).mp c_11
                          refine lv_iload hx hb dX12_inWords_115 (lv_at hl 1 rfl) ?_
                          refine lv_if_eq (tgt := 122) hx hb dX12_inWords_117 rfl (fun c_12 => ?_) (fun c_12 => ?_)
                          ·
                            have c_12 := (zeq (x := iZ v5_68) (y := iZ 0) rfl rfl ⟨by omega, by omega⟩ wn_0).mp c_12
                            refine lv_iinc (v := iZ (v2_14 + 1)) (lv' := [(2, .int (iZ (v2_14 + 1))), (6, .int (iZ v6_68)), (5, .int (iZ v5_68)), (4, .int (iZ v4_25)), (3, .int (iZ v3_14)), (0, .ref hm), (1, .ref sa)]) hx hb dX12_inWords_122 hl (k := 4) rfl (iZ_add v2_14 1) (by decide) rfl (fun ls hl => ?_)
                            refine lv_iload hx hb dX12_inWords_125 (lv_at hl 3 rfl) ?_
                            refine lv_iconst (v := iZ 1) hx hb dX12_inWords_127 rfl ?_
                            refine lv_iadd hx hb dX12_inWords_128 ?_
                            refine lv_topi (fun x_13 ex_13 => ?_)
                            obtain rfl : x_13 = iZ (v4_25 + 1) := ex_13.trans (iZ_add v4_25 1)
                            refine lv_istore_n (lv' := [(3, .int (iZ (v4_25 + 1))), (2, .int (iZ (v2_14 + 1))), (6, .int (iZ v6_68)), (5, .int (iZ v5_68)), (4, .int (iZ v4_25)), (0, .ref hm), (1, .ref sa)]) hx hb dX12_inWords_129 rfl hl (bl rfl) rfl (fun ls hl => ?_)
                            refine lv_goto (tgt := 14) hx hb dX12_inWords_130 rfl ?_
                            exact ih14  (v2_14 + 1) (v4_25 + 1) _ _ _ (by omega) (show (1 ≤ (v4_25 + 1) ∧ (v4_25 + 1) ≤ (124) + 1) from ⟨by omega, by omega⟩) (show 0 ≤ (v2_14 + 1) ∧ (v2_14 + 1) ≤ 25 ∧ (v4_25 + 1) = kS (v2_14 + 1) from ⟨by omega, by omega, by rw [ka5]; omega⟩) (show ∀ w : Int, 0 ≤ w → w < (v2_14 + 1) → ¬ xMt (tX Xf Msz) Mfr Men w from (fun w h1 h2 => by rcases Int.lt_or_eq_of_le (show w ≤ v2_14 by omega) with h3 | h3; exact hm14 w h1 h3; rw [h3]; exact hl68.2 (by omega))) (hP.sub [0, 1] rfl) (hD.sub [0, 1] rfl rfl) hS (lv_sub hl [0, 1, 5, 6] rfl)
                          ·
                            have c_12 := mt (zeq (x := iZ v5_68) (y := iZ 0) rfl rfl ⟨by omega, by omega⟩ wn_0).mpr c_12
                            exact absurd c_12 (by omega)
                        ·
                          have c_11 := mt (zeq (x := iZ v5_68) (y := iZ 0) rfl rfl ⟨by omega, by omega⟩ wn_0).mpr c_11
                          refine lv_aload_n hx hb dX12_inWords_80 rfl (lv_at hl 6 rfl) ?_
                          refine lv_iload hx hb dX12_inWords_81 (lv_at hl 0 rfl) ?_
                          refine W.callR (rwV (As := [.int (iZ v6_68)]) (rest := []) hx hb hml hown hts ((hSY.kept hS.2.1).narrow (fun _ h => h.elim)) (jm_charZ l sa sv v6_68 ⟨by omega, by omega⟩) ci_J0_charAt_5068e rfl qm_X12_148 ⟨Nat.le_of_ble_eq_true rfl, Nat.le_of_ble_eq_true rfl⟩ ⟨Nat.le_of_ble_eq_true rfl, Nat.le_of_ble_eq_true rfl⟩ rfl hl.1 rfl (Nat.le_of_ble_eq_true rfl) dX12_inWords_83) ?_
                          have hk_h_14 := key_rg v6_68 ⟨by omega, by omega⟩
                          refine W.eq (g2 := F0 m 86 ls [.int (iZ (gz keyF v6_68))]) rfl ?_
                          refine lv_aload_n hx hb dX12_inWords_86 rfl (lv_at hl 5 rfl) ?_
                          refine lv_aload_n hx hb dX12_inWords_87 rfl (lv_at hl 5 rfl) ?_
                          refine va_get (D := D) (ci := 12) (v := .int (iZ Mfr)) (C := RX12) (T := TX12) (N := 36) hx hb hts iX12 hown hK hP 0 rfl rfl 13 (bl rfl) (hts _ qf_X12_121) (fun _ h => h) f13 dX12_inWords_88 ?_
                          refine lv_iload hx hb dX12_inWords_91 (lv_at hl 0 rfl) ?_
                          refine lv_iadd hx hb dX12_inWords_93 ?_
                          refine lv_topi (fun x_15 ex_15 => ?_)
                          obtain rfl : x_15 = iZ (Mfr + v6_68) := ex_15.trans (iZ_add Mfr v6_68)
                          refine lv_iload_n hx hb dX12_inWords_94 rfl (lv_at hl 3 rfl) ?_
                          refine lv_isub hx hb dX12_inWords_95 ?_
                          refine lv_topi (fun x_16 ex_16 => ?_)
                          obtain rfl : x_16 = iZ ((Mfr + v6_68) - v3_14) := ex_16.trans (iZ_sub (Mfr + v6_68) v3_14)
                          refine CRV (As := [.int (iZ ((Mfr + v6_68) - v3_14))]) (rest := [.int (iZ (gz keyF v6_68))]) hx hb hml hown hts hKK hP (y_byteAt l D k fs hm Mx Msz Xf ((Mfr + v6_68) - v3_14) f9 f11 ⟨by omega, by omega⟩ ⟨by omega, by omega⟩) ci_X12_byteAt qm_X12_118 ⟨Nat.le_of_ble_eq_true rfl, Nat.le_of_ble_eq_true rfl⟩ ⟨Nat.le_of_ble_eq_true rfl, Nat.le_of_ble_eq_true rfl⟩ 0 rfl rfl rfl hl.1 rfl (Nat.le_of_ble_eq_true rfl) dX12_inWords_96 ?_
                          have hb_h_17 := tX_rg Xf Msz ((Mfr + v6_68) - v3_14) (by omega)
                          refine lv_icmp_ne (tgt := 106) hx hb dX12_inWords_99 rfl (fun c_18 => ?_) (fun c_18 => ?_)
                          ·
                            have c_18 := mt (zeq (x := iZ (gz keyF v6_68)) (y := iZ (tX Xf Msz ((Mfr + v6_68) - v3_14))) rfl rfl (gz_rg keyF v6_68) ⟨by omega, by omega⟩).mpr c_18
                            refine lv_iconst (v := iZ 0) hx hb dX12_inWords_106 rfl ?_
                            refine lv_istore (lv' := [(5, .int (iZ 0)), (6, .int (iZ v6_68)), (4, .int (iZ v4_25)), (3, .int (iZ v3_14)), (2, .int (iZ v2_14)), (0, .ref hm), (1, .ref sa)]) hx hb dX12_inWords_107 hl (bl rfl) rfl (fun ls hl => ?_)
                            refine lv_iinc (v := iZ (v6_68 + 1)) (lv' := [(6, .int (iZ (v6_68 + 1))), (5, .int (iZ 0)), (4, .int (iZ v4_25)), (3, .int (iZ v3_14)), (2, .int (iZ v2_14)), (0, .ref hm), (1, .ref sa)]) hx hb dX12_inWords_109 hl (k := 1) rfl (iZ_add v6_68 1) (by decide) rfl (fun ls hl => ?_)
                            refine lv_goto (tgt := 68) hx hb dX12_inWords_112 rfl ?_
                            exact ih68  0 (v6_68 + 1) _ _ _ (by omega) (show (1 ≤ (v6_68 + 1) ∧ (v6_68 + 1) ≤ (124) + 1) from ⟨by omega, by omega⟩) (show v3_14 ≤ (v6_68 + 1) from (by omega)) (show 0 ≤ 0 ∧ 0 ≤ 1 from (by omega)) (show (0 = 1 → kE v2_14 - kS v2_14 = Men - Mfr ∧ ∀ j : Int, kS v2_14 ≤ j → j < (v6_68 + 1) → gz keyF j = tX Xf Msz (Mfr + (j - kS v2_14))) ∧ (0 = 0 → ¬ xMt (tX Xf Msz) Mfr Men v2_14) from ⟨fun h => absurd (show (0 : Int) = 1 from h) (by decide), fun _ h => by have h9 := h.2 (v6_68 - kS v2_14).toNat (by have := (hl68.1 (by omega)).1; omega); rw [show kS v2_14 + ((v6_68 - kS v2_14).toNat : Int) = v6_68 by omega, show Mfr + ((v6_68 - kS v2_14).toNat : Int) = (Mfr + v6_68) - v3_14 by omega] at h9; omega⟩) (hP.sub [0, 1] rfl) (hD.sub [0, 1] rfl rfl) hS (lv_sub hl [0, 1, 2, 3, 4, 5, 6] rfl)
                          ·
                            have c_18 := (zeq (x := iZ (gz keyF v6_68)) (y := iZ (tX Xf Msz ((Mfr + v6_68) - v3_14))) rfl rfl (gz_rg keyF v6_68) ⟨by omega, by omega⟩).mp c_18
                            refine lv_iconst (v := iZ 1) hx hb dX12_inWords_102 rfl ?_
                            refine lv_goto (tgt := 107) hx hb dX12_inWords_103 rfl ?_
                            refine lv_istore (lv' := [(5, .int (iZ 1)), (6, .int (iZ v6_68)), (4, .int (iZ v4_25)), (3, .int (iZ v3_14)), (2, .int (iZ v2_14)), (0, .ref hm), (1, .ref sa)]) hx hb dX12_inWords_107 hl (bl rfl) rfl (fun ls hl => ?_)
                            refine lv_iinc (v := iZ (v6_68 + 1)) (lv' := [(6, .int (iZ (v6_68 + 1))), (5, .int (iZ 1)), (4, .int (iZ v4_25)), (3, .int (iZ v3_14)), (2, .int (iZ v2_14)), (0, .ref hm), (1, .ref sa)]) hx hb dX12_inWords_109 hl (k := 1) rfl (iZ_add v6_68 1) (by decide) rfl (fun ls hl => ?_)
                            refine lv_goto (tgt := 68) hx hb dX12_inWords_112 rfl ?_
                            exact ih68  1 (v6_68 + 1) _ _ _ (by omega) (show (1 ≤ (v6_68 + 1) ∧ (v6_68 + 1) ≤ (124) + 1) from ⟨by omega, by omega⟩) (show v3_14 ≤ (v6_68 + 1) from (by omega)) (show 0 ≤ 1 ∧ 1 ≤ 1 from (by omega)) (show (1 = 1 → kE v2_14 - kS v2_14 = Men - Mfr ∧ ∀ j : Int, kS v2_14 ≤ j → j < (v6_68 + 1) → gz keyF j = tX Xf Msz (Mfr + (j - kS v2_14))) ∧ (1 = 0 → ¬ xMt (tX Xf Msz) Mfr Men v2_14) from ⟨fun _ => ⟨(hl68.1 (by omega)).1, fun j h1 h2 => by rcases Int.lt_or_eq_of_le (show j ≤ v6_68 by omega) with h3 | h3; exact (hl68.1 (by omega)).2 j h1 h3; rw [h3, show Mfr + (v6_68 - kS v2_14) = (Mfr + v6_68) - v3_14 by omega]; omega⟩, fun h => absurd (show (1 : Int) = 0 from h) (by decide)⟩) (hP.sub [0, 1] rfl) (hD.sub [0, 1] rfl rfl) hS (lv_sub hl [0, 1, 2, 3, 4, 5, 6] rfl)
                  exact HL68 130 0 v3_14 _ _ _ (by omega) (show (1 ≤ v3_14 ∧ v3_14 ≤ (124) + 1) from ⟨by omega, by omega⟩) (show v3_14 ≤ v3_14 from (by omega)) (show 0 ≤ 0 ∧ 0 ≤ 1 from (by omega)) (show (0 = 1 → kE v2_14 - kS v2_14 = Men - Mfr ∧ ∀ j : Int, kS v2_14 ≤ j → j < v3_14 → gz keyF j = tX Xf Msz (Mfr + (j - kS v2_14))) ∧ (0 = 0 → ¬ xMt (tX Xf Msz) Mfr Men v2_14) from ⟨fun h => absurd (show (0 : Int) = 1 from h) (by decide), fun _ h => absurd h.1 (by omega)⟩) (hP.sub [0, 1] rfl) (hD.sub [0, 1] rfl rfl) hS (lv_sub hl [0, 1, 2, 3, 4, 5, 6] rfl)
                ·
                  have c_7 := (zeq (x := iZ (v4_25 - v3_14)) (y := iZ (Men - Mfr)) rfl rfl ⟨by omega, by omega⟩ ⟨by omega, by omega⟩).mp c_7
                  refine lv_iconst (v := iZ 1) hx hb dX12_inWords_58 rfl ?_
                  refine lv_goto (tgt := 63) hx hb dX12_inWords_59 rfl ?_
                  refine lv_istore (lv' := [(5, .int (iZ 1)), (4, .int (iZ v4_25)), (3, .int (iZ v3_14)), (2, .int (iZ v2_14)), (0, .ref hm), (1, .ref sa)]) hx hb dX12_inWords_63 hl (bl rfl) rfl (fun ls hl => ?_)
                  refine lv_iload_n hx hb dX12_inWords_65 rfl (lv_at hl 2 rfl) ?_
                  refine lv_istore (lv' := [(6, .int (iZ v3_14)), (5, .int (iZ 1)), (4, .int (iZ v4_25)), (3, .int (iZ v3_14)), (2, .int (iZ v2_14)), (0, .ref hm), (1, .ref sa)]) hx hb dX12_inWords_66 hl (bl rfl) rfl (fun ls hl => ?_)
                  have HL68 : ∀ (fu : Nat) (v5_68 : Int) (v6_68 : Int) (H : Heap) (locs : List Loc) (ls : Array Slot), ((124) + 2 - v6_68) < (fu : Int) → ((1 ≤ v6_68 ∧ v6_68 ≤ (124) + 1)) → (v3_14 ≤ v6_68) → (0 ≤ v5_68 ∧ v5_68 ≤ 1) → ((v5_68 = 1 → kE v2_14 - kS v2_14 = Men - Mfr ∧ ∀ j : Int, kS v2_14 ≤ j → j < v6_68 → gz keyF j = tX Xf Msz (Mfr + (j - kS v2_14))) ∧ (v5_68 = 0 → ¬ xMt (tX Xf Msz) Mfr Men v2_14)) → va_P D vwCl [(hm, .inr (12, fs)), (Mx, .inl (k 0, 900, .inl Xf))] H → va_D A [(hm, .inr (12, fs)), (Mx, .inl (k 0, 900, .inl Xf))] → va_S A s.heap H locs → lv_has ls 7 [(6, .int (iZ v6_68)), (5, .int (iZ v5_68)), (4, .int (iZ v4_25)), (3, .int (iZ v3_14)), (2, .int (iZ v2_14)), (0, .ref hm), (1, .ref sa)] → W p l e (rj 4 0 0) s m [.ref hm, .ref sa].toArray below meth c H locs 0 0 (MQ below (QW (σ := ((Int) × (Int64) × (Unit) × (Unit))) (fun u => some (.int (iZ u.1))) (fun u => u.1 = xPm (xKw (tX Xf Msz) cu)) (fun u => [(hm, .inr (12, fs)), (Mx, .inl (k 0, 900, .inl Xf))]) D A) [.ref hm, .ref sa].toArray s 0 0 A) (F0 m 68 ls []) := by
                    intro fu
                    induction fu with
                    | zero => intro v5_68 v6_68 H locs ls hμ68 hi68 hf0_68 hf1_68 hl68 hP hD hS hl; exact absurd hμ68 (by omega)
                    | succ fu ih68 =>
                      intro v5_68 v6_68 H locs ls hμ68 hi68 hf0_68 hf1_68 hl68 hP hD hS hl
                      refine lv_iload hx hb dX12_inWords_68 (lv_at hl 0 rfl) ?_
                      refine lv_iload hx hb dX12_inWords_70 (lv_at hl 2 rfl) ?_
                      refine lv_icmp_ge (tgt := 115) hx hb dX12_inWords_72 rfl (fun c_19 => ?_) (fun c_19 => ?_)
                      ·
                        have c_19 := (zle (x := iZ v4_25) (y := iZ v6_68) rfl rfl ⟨by omega, by omega⟩ ⟨by omega, by omega⟩).mp c_19
                        refine lv_iload hx hb dX12_inWords_115 (lv_at hl 1 rfl) ?_
                        refine lv_if_eq (tgt := 122) hx hb dX12_inWords_117 rfl (fun c_20 => ?_) (fun c_20 => ?_)
                        ·
                          have c_20 := (zeq (x := iZ v5_68) (y := iZ 0) rfl rfl ⟨by omega, by omega⟩ wn_0).mp c_20
                          refine lv_iinc (v := iZ (v2_14 + 1)) (lv' := [(2, .int (iZ (v2_14 + 1))), (6, .int (iZ v6_68)), (5, .int (iZ v5_68)), (4, .int (iZ v4_25)), (3, .int (iZ v3_14)), (0, .ref hm), (1, .ref sa)]) hx hb dX12_inWords_122 hl (k := 4) rfl (iZ_add v2_14 1) (by decide) rfl (fun ls hl => ?_)
                          refine lv_iload hx hb dX12_inWords_125 (lv_at hl 3 rfl) ?_
                          refine lv_iconst (v := iZ 1) hx hb dX12_inWords_127 rfl ?_
                          refine lv_iadd hx hb dX12_inWords_128 ?_
                          refine lv_topi (fun x_21 ex_21 => ?_)
                          obtain rfl : x_21 = iZ (v4_25 + 1) := ex_21.trans (iZ_add v4_25 1)
                          refine lv_istore_n (lv' := [(3, .int (iZ (v4_25 + 1))), (2, .int (iZ (v2_14 + 1))), (6, .int (iZ v6_68)), (5, .int (iZ v5_68)), (4, .int (iZ v4_25)), (0, .ref hm), (1, .ref sa)]) hx hb dX12_inWords_129 rfl hl (bl rfl) rfl (fun ls hl => ?_)
                          refine lv_goto (tgt := 14) hx hb dX12_inWords_130 rfl ?_
                          exact ih14  (v2_14 + 1) (v4_25 + 1) _ _ _ (by omega) (show (1 ≤ (v4_25 + 1) ∧ (v4_25 + 1) ≤ (124) + 1) from ⟨by omega, by omega⟩) (show 0 ≤ (v2_14 + 1) ∧ (v2_14 + 1) ≤ 25 ∧ (v4_25 + 1) = kS (v2_14 + 1) from ⟨by omega, by omega, by rw [ka5]; omega⟩) (show ∀ w : Int, 0 ≤ w → w < (v2_14 + 1) → ¬ xMt (tX Xf Msz) Mfr Men w from (fun w h1 h2 => by rcases Int.lt_or_eq_of_le (show w ≤ v2_14 by omega) with h3 | h3; exact hm14 w h1 h3; rw [h3]; exact hl68.2 (by omega))) (hP.sub [0, 1] rfl) (hD.sub [0, 1] rfl rfl) hS (lv_sub hl [0, 1, 5, 6] rfl)
                        ·
                          have c_20 := mt (zeq (x := iZ v5_68) (y := iZ 0) rfl rfl ⟨by omega, by omega⟩ wn_0).mpr c_20
                          refine lv_iload_n hx hb dX12_inWords_120 rfl (lv_at hl 4 rfl) ?_
                          have hmt : xMt (tX Xf Msz) Mfr Men v2_14 := ⟨(hl68.1 (by omega)).1, fun i hi => by have h9 := (hl68.1 (by omega)).2 (kS v2_14 + i) (by omega) (by have := (hl68.1 (by omega)).1; omega); rw [show Mfr + (kS v2_14 + (i : Int) - kS v2_14) = Mfr + (i : Int) by omega] at h9; exact h9⟩
                          rw [hfr, hen] at hmt
                          exact EWi hx hb hr hlocks hS (v2_14, 0, (), ()) rfl (show v2_14 = xPm (xKw (tX Xf Msz) cu) from (xMt_kw ⟨by omega, by omega⟩ (by omega) (by omega) hmt).symm) (hP.sub [0, 1] rfl) (hD.sub [0, 1] rfl rfl) dX12_inWords_121
                      ·
                        have c_19 := mt (zle (x := iZ v4_25) (y := iZ v6_68) rfl rfl ⟨by omega, by omega⟩ ⟨by omega, by omega⟩).mpr c_19
                        refine lv_iload hx hb dX12_inWords_75 (lv_at hl 1 rfl) ?_
                        refine lv_if_eq (tgt := 115) hx hb dX12_inWords_77 rfl (fun c_22 => ?_) (fun c_22 => ?_)
                        ·
                          have c_22 := (zeq (x := iZ v5_68) (y := iZ 0) rfl rfl ⟨by omega, by omega⟩ wn_0).mp c_22
                          refine lv_iload hx hb dX12_inWords_115 (lv_at hl 1 rfl) ?_
                          refine lv_if_eq (tgt := 122) hx hb dX12_inWords_117 rfl (fun c_23 => ?_) (fun c_23 => ?_)
                          ·
                            have c_23 := (zeq (x := iZ v5_68) (y := iZ 0) rfl rfl ⟨by omega, by omega⟩ wn_0).mp c_23
                            refine lv_iinc (v := iZ (v2_14 + 1)) (lv' := [(2, .int (iZ (v2_14 + 1))), (6, .int (iZ v6_68)), (5, .int (iZ v5_68)), (4, .int (iZ v4_25)), (3, .int (iZ v3_14)), (0, .ref hm), (1, .ref sa)]) hx hb dX12_inWords_122 hl (k := 4) rfl (iZ_add v2_14 1) (by decide) rfl (fun ls hl => ?_)
                            refine lv_iload hx hb dX12_inWords_125 (lv_at hl 3 rfl) ?_
                            refine lv_iconst (v := iZ 1) hx hb dX12_inWords_127 rfl ?_
                            refine lv_iadd hx hb dX12_inWords_128 ?_
                            refine lv_topi (fun x_24 ex_24 => ?_)
                            obtain rfl : x_24 = iZ (v4_25 + 1) := ex_24.trans (iZ_add v4_25 1)
                            refine lv_istore_n (lv' := [(3, .int (iZ (v4_25 + 1))), (2, .int (iZ (v2_14 + 1))), (6, .int (iZ v6_68)), (5, .int (iZ v5_68)), (4, .int (iZ v4_25)), (0, .ref hm), (1, .ref sa)]) hx hb dX12_inWords_129 rfl hl (bl rfl) rfl (fun ls hl => ?_)
                            refine lv_goto (tgt := 14) hx hb dX12_inWords_130 rfl ?_
                            exact ih14  (v2_14 + 1) (v4_25 + 1) _ _ _ (by omega) (show (1 ≤ (v4_25 + 1) ∧ (v4_25 + 1) ≤ (124) + 1) from ⟨by omega, by omega⟩) (show 0 ≤ (v2_14 + 1) ∧ (v2_14 + 1) ≤ 25 ∧ (v4_25 + 1) = kS (v2_14 + 1) from ⟨by omega, by omega, by rw [ka5]; omega⟩) (show ∀ w : Int, 0 ≤ w → w < (v2_14 + 1) → ¬ xMt (tX Xf Msz) Mfr Men w from (fun w h1 h2 => by rcases Int.lt_or_eq_of_le (show w ≤ v2_14 by omega) with h3 | h3; exact hm14 w h1 h3; rw [h3]; exact hl68.2 (by omega))) (hP.sub [0, 1] rfl) (hD.sub [0, 1] rfl rfl) hS (lv_sub hl [0, 1, 5, 6] rfl)
                          ·
                            have c_23 := mt (zeq (x := iZ v5_68) (y := iZ 0) rfl rfl ⟨by omega, by omega⟩ wn_0).mpr c_23
                            exact absurd c_23 (by omega)
                        ·
                          have c_22 := mt (zeq (x := iZ v5_68) (y := iZ 0) rfl rfl ⟨by omega, by omega⟩ wn_0).mpr c_22
                          refine lv_aload_n hx hb dX12_inWords_80 rfl (lv_at hl 6 rfl) ?_
                          refine lv_iload hx hb dX12_inWords_81 (lv_at hl 0 rfl) ?_
                          refine W.callR (rwV (As := [.int (iZ v6_68)]) (rest := []) hx hb hml hown hts ((hSY.kept hS.2.1).narrow (fun _ h => h.elim)) (jm_charZ l sa sv v6_68 ⟨by omega, by omega⟩) ci_J0_charAt_5068e rfl qm_X12_148 ⟨Nat.le_of_ble_eq_true rfl, Nat.le_of_ble_eq_true rfl⟩ ⟨Nat.le_of_ble_eq_true rfl, Nat.le_of_ble_eq_true rfl⟩ rfl hl.1 rfl (Nat.le_of_ble_eq_true rfl) dX12_inWords_83) ?_
                          have hk_h_25 := key_rg v6_68 ⟨by omega, by omega⟩
                          refine W.eq (g2 := F0 m 86 ls [.int (iZ (gz keyF v6_68))]) rfl ?_
                          refine lv_aload_n hx hb dX12_inWords_86 rfl (lv_at hl 5 rfl) ?_
                          refine lv_aload_n hx hb dX12_inWords_87 rfl (lv_at hl 5 rfl) ?_
                          refine va_get (D := D) (ci := 12) (v := .int (iZ Mfr)) (C := RX12) (T := TX12) (N := 36) hx hb hts iX12 hown hK hP 0 rfl rfl 13 (bl rfl) (hts _ qf_X12_121) (fun _ h => h) f13 dX12_inWords_88 ?_
                          refine lv_iload hx hb dX12_inWords_91 (lv_at hl 0 rfl) ?_
                          refine lv_iadd hx hb dX12_inWords_93 ?_
                          refine lv_topi (fun x_26 ex_26 => ?_)
                          obtain rfl : x_26 = iZ (Mfr + v6_68) := ex_26.trans (iZ_add Mfr v6_68)
                          refine lv_iload_n hx hb dX12_inWords_94 rfl (lv_at hl 3 rfl) ?_
                          refine lv_isub hx hb dX12_inWords_95 ?_
                          refine lv_topi (fun x_27 ex_27 => ?_)
                          obtain rfl : x_27 = iZ ((Mfr + v6_68) - v3_14) := ex_27.trans (iZ_sub (Mfr + v6_68) v3_14)
                          refine CRV (As := [.int (iZ ((Mfr + v6_68) - v3_14))]) (rest := [.int (iZ (gz keyF v6_68))]) hx hb hml hown hts hKK hP (y_byteAt l D k fs hm Mx Msz Xf ((Mfr + v6_68) - v3_14) f9 f11 ⟨by omega, by omega⟩ ⟨by omega, by omega⟩) ci_X12_byteAt qm_X12_118 ⟨Nat.le_of_ble_eq_true rfl, Nat.le_of_ble_eq_true rfl⟩ ⟨Nat.le_of_ble_eq_true rfl, Nat.le_of_ble_eq_true rfl⟩ 0 rfl rfl rfl hl.1 rfl (Nat.le_of_ble_eq_true rfl) dX12_inWords_96 ?_
                          have hb_h_28 := tX_rg Xf Msz ((Mfr + v6_68) - v3_14) (by omega)
                          refine lv_icmp_ne (tgt := 106) hx hb dX12_inWords_99 rfl (fun c_29 => ?_) (fun c_29 => ?_)
                          ·
                            have c_29 := mt (zeq (x := iZ (gz keyF v6_68)) (y := iZ (tX Xf Msz ((Mfr + v6_68) - v3_14))) rfl rfl (gz_rg keyF v6_68) ⟨by omega, by omega⟩).mpr c_29
                            refine lv_iconst (v := iZ 0) hx hb dX12_inWords_106 rfl ?_
                            refine lv_istore (lv' := [(5, .int (iZ 0)), (6, .int (iZ v6_68)), (4, .int (iZ v4_25)), (3, .int (iZ v3_14)), (2, .int (iZ v2_14)), (0, .ref hm), (1, .ref sa)]) hx hb dX12_inWords_107 hl (bl rfl) rfl (fun ls hl => ?_)
                            refine lv_iinc (v := iZ (v6_68 + 1)) (lv' := [(6, .int (iZ (v6_68 + 1))), (5, .int (iZ 0)), (4, .int (iZ v4_25)), (3, .int (iZ v3_14)), (2, .int (iZ v2_14)), (0, .ref hm), (1, .ref sa)]) hx hb dX12_inWords_109 hl (k := 1) rfl (iZ_add v6_68 1) (by decide) rfl (fun ls hl => ?_)
                            refine lv_goto (tgt := 68) hx hb dX12_inWords_112 rfl ?_
                            exact ih68  0 (v6_68 + 1) _ _ _ (by omega) (show (1 ≤ (v6_68 + 1) ∧ (v6_68 + 1) ≤ (124) + 1) from ⟨by omega, by omega⟩) (show v3_14 ≤ (v6_68 + 1) from (by omega)) (show 0 ≤ 0 ∧ 0 ≤ 1 from (by omega)) (show (0 = 1 → kE v2_14 - kS v2_14 = Men - Mfr ∧ ∀ j : Int, kS v2_14 ≤ j → j < (v6_68 + 1) → gz keyF j = tX Xf Msz (Mfr + (j - kS v2_14))) ∧ (0 = 0 → ¬ xMt (tX Xf Msz) Mfr Men v2_14) from ⟨fun h => absurd (show (0 : Int) = 1 from h) (by decide), fun _ h => by have h9 := h.2 (v6_68 - kS v2_14).toNat (by have := (hl68.1 (by omega)).1; omega); rw [show kS v2_14 + ((v6_68 - kS v2_14).toNat : Int) = v6_68 by omega, show Mfr + ((v6_68 - kS v2_14).toNat : Int) = (Mfr + v6_68) - v3_14 by omega] at h9; omega⟩) (hP.sub [0, 1] rfl) (hD.sub [0, 1] rfl rfl) hS (lv_sub hl [0, 1, 2, 3, 4, 5, 6] rfl)
                          ·
                            have c_29 := (zeq (x := iZ (gz keyF v6_68)) (y := iZ (tX Xf Msz ((Mfr + v6_68) - v3_14))) rfl rfl (gz_rg keyF v6_68) ⟨by omega, by omega⟩).mp c_29
                            refine lv_iconst (v := iZ 1) hx hb dX12_inWords_102 rfl ?_
                            refine lv_goto (tgt := 107) hx hb dX12_inWords_103 rfl ?_
                            refine lv_istore (lv' := [(5, .int (iZ 1)), (6, .int (iZ v6_68)), (4, .int (iZ v4_25)), (3, .int (iZ v3_14)), (2, .int (iZ v2_14)), (0, .ref hm), (1, .ref sa)]) hx hb dX12_inWords_107 hl (bl rfl) rfl (fun ls hl => ?_)
                            refine lv_iinc (v := iZ (v6_68 + 1)) (lv' := [(6, .int (iZ (v6_68 + 1))), (5, .int (iZ 1)), (4, .int (iZ v4_25)), (3, .int (iZ v3_14)), (2, .int (iZ v2_14)), (0, .ref hm), (1, .ref sa)]) hx hb dX12_inWords_109 hl (k := 1) rfl (iZ_add v6_68 1) (by decide) rfl (fun ls hl => ?_)
                            refine lv_goto (tgt := 68) hx hb dX12_inWords_112 rfl ?_
                            exact ih68  1 (v6_68 + 1) _ _ _ (by omega) (show (1 ≤ (v6_68 + 1) ∧ (v6_68 + 1) ≤ (124) + 1) from ⟨by omega, by omega⟩) (show v3_14 ≤ (v6_68 + 1) from (by omega)) (show 0 ≤ 1 ∧ 1 ≤ 1 from (by omega)) (show (1 = 1 → kE v2_14 - kS v2_14 = Men - Mfr ∧ ∀ j : Int, kS v2_14 ≤ j → j < (v6_68 + 1) → gz keyF j = tX Xf Msz (Mfr + (j - kS v2_14))) ∧ (1 = 0 → ¬ xMt (tX Xf Msz) Mfr Men v2_14) from ⟨fun _ => ⟨(hl68.1 (by omega)).1, fun j h1 h2 => by rcases Int.lt_or_eq_of_le (show j ≤ v6_68 by omega) with h3 | h3; exact (hl68.1 (by omega)).2 j h1 h3; rw [h3, show Mfr + (v6_68 - kS v2_14) = (Mfr + v6_68) - v3_14 by omega]; omega⟩, fun h => absurd (show (1 : Int) = 0 from h) (by decide)⟩) (hP.sub [0, 1] rfl) (hD.sub [0, 1] rfl rfl) hS (lv_sub hl [0, 1, 2, 3, 4, 5, 6] rfl)
                  exact HL68 130 1 v3_14 _ _ _ (by omega) (show (1 ≤ v3_14 ∧ v3_14 ≤ (124) + 1) from ⟨by omega, by omega⟩) (show v3_14 ≤ v3_14 from (by omega)) (show 0 ≤ 1 ∧ 1 ≤ 1 from (by omega)) (show (1 = 1 → kE v2_14 - kS v2_14 = Men - Mfr ∧ ∀ j : Int, kS v2_14 ≤ j → j < v3_14 → gz keyF j = tX Xf Msz (Mfr + (j - kS v2_14))) ∧ (1 = 0 → ¬ xMt (tX Xf Msz) Mfr Men v2_14) from ⟨fun _ => ⟨by omega, fun j h1 h2 => absurd h1 (by omega)⟩, fun h => absurd (show (1 : Int) = 0 from h) (by decide)⟩) (hP.sub [0, 1] rfl) (hD.sub [0, 1] rfl rfl) hS (lv_sub hl [0, 1, 2, 3, 4, 5, 6] rfl)
              ·
                have c_4 := mt (zeq (x := iZ (gz keyF v4_25)) (y := iZ 32) rfl rfl (gz_rg keyF v4_25) wn_32).mpr c_4
                have hla : v4_25 = kE v2_14 → gz keyF v4_25 = 32 := fun h => by rw [h]; exact ka1
                refine lv_iinc (v := iZ (v4_25 + 1)) (lv' := [(4, .int (iZ (v4_25 + 1))), (3, .int (iZ v3_14)), (2, .int (iZ v2_14)), (0, .ref hm), (1, .ref sa)]) hx hb dX12_inWords_36 hl (k := 0) rfl (iZ_add v4_25 1) (by decide) rfl (fun ls hl => ?_)
                refine lv_goto (tgt := 25) hx hb dX12_inWords_39 rfl ?_
                exact ih25  (v4_25 + 1) _ _ _ (by omega) (show (1 ≤ (v4_25 + 1) ∧ (v4_25 + 1) ≤ (123) + 1) from ⟨by omega, by omega⟩) (show v3_14 ≤ (v4_25 + 1) from (by omega)) (show v3_14 ≤ (v4_25 + 1) ∧ (v4_25 + 1) ≤ kE v2_14 from ⟨by omega, by omega⟩) (hP.sub [0, 1] rfl) (hD.sub [0, 1] rfl rfl) hS (lv_sub hl [0, 1, 2, 3, 4] rfl)
          exact HL25 130 v3_14 _ _ _ (by omega) (show (1 ≤ v3_14 ∧ v3_14 ≤ (123) + 1) from ⟨by omega, by omega⟩) (show v3_14 ≤ v3_14 from (by omega)) (show v3_14 ≤ v3_14 ∧ v3_14 ≤ kE v2_14 from ⟨by omega, by omega⟩) (hP.sub [0, 1] rfl) (hD.sub [0, 1] rfl rfl) hS (lv_sub hl [0, 1, 2, 3, 4] rfl)
    exact HL14 130 0 1 _ _ _ (by omega) (show (1 ≤ 1 ∧ 1 ≤ (124) + 1) from ⟨by omega, by omega⟩) (show 0 ≤ 0 ∧ 0 ≤ 25 ∧ 1 = kS 0 from ⟨by omega, by omega, rfl⟩) (show ∀ w : Int, 0 ≤ w → w < 0 → ¬ xMt (tX Xf Msz) Mfr Men w from (fun w h1 h2 => absurd h1 (by omega))) (hP.sub [0, 1] rfl) (hD.sub [0, 1] rfl rfl) hS (lv_sub hl [0, 1, 2, 3] rfl)
  ·
    have c_1 := mt (zeq (x := iZ Mtk) (y := iZ 2) rfl rfl ⟨by omega, by omega⟩ wn_2).mpr c_1
    refine lv_iconst (v := iZ (-1)) hx hb dX12_inWords_8 rfl ?_
    exact EWi hx hb hr hlocks hS ((-1), 0, (), ()) rfl (show (-1) = xPm (xKw (tX Xf Msz) cu) from (xMt_no (fun h => hlt (by omega)) (by omega) (fun h => absurd h (by omega))).symm) (hP.sub [0, 1] rfl) (hD.sub [0, 1] rfl rfl) dX12_inWords_9
end

section
set_option maxHeartbeats 4000000 in
set_option maxRecDepth 100000 in
theorem y_wantWord (l : Launch) (D : va_G) (k : Nat → ClassId) (sa sv : Nat) (hm : Nat) (Ma : Nat) (Mn : Nat) (Ms : Nat) (My : Nat) (Mt : Nat) (Mp : Nat) (Mx : Nat) (Mo : Nat) (Mk : Nat) (Ml : Nat) (Mb : Nat) (Mh : Nat) (Mc : Nat) (Mz : Nat) (Mr : Nat) (Mq : Nat) (Mst : Int) (Mtd : Int) (Msz : Int) (Mtk : Int) (Mfr : Int) (Men : Int) (Mva : Int) (Mfk : Int) (Mfp : Int) (Mfs : Int) (Mse : Int) (Mlt : Int) (Mdp : Int) (Mct : Int) (Mdr : Int) (Mrs : Int) (Mit : Int) (Mmk : Int) (Mtp : Int64) (Mbt : Int64) (Xf : Nat → Int32) (x : Int) (cu : Int) (w : Int) (hTI : (0 ≤ (Mfr : Int) ∧ (Mfr : Int) ≤ Men) ∧ ((Men : Int) ≤ Msz ∧ (Msz : Int) ≤ 900) ∧ (0 ≤ (Mtk : Int) ∧ (Mtk : Int) ≤ 4) ∧ ((Mtk : Int) ≤ 4 * (Men - Mfr)) ∧ (-1 ≤ (Mva : Int) ∧ (Mva : Int) ≤ 100000)) (hf0 : Mfs = 0) (hrf : RFX (tX Xf Msz) cu Mfr Men Mtk Mva) (h9x : -2147483648 ≤ x ∧ x < 2147483648) (hwk : (0 ≤ w ∧ w ≤ 24) ∧ xPm w = x) : SD (σ := ((Int × Int × Int × Int × Int × Int × Int) × (Int64) × (Unit) × (Unit))) sa sv l yX12_wantWord cX12_wantWord 3 (some .boolean) 5 D k [.ref hm, .ref sa, .int (iZ x)] [(hm, .inr (12, [.ref Ma, .ref Mn, .int (iZ Mst), .long Mtp, .long Mbt, .ref Ms, .ref My, .ref Mt, .ref Mp, .ref Mx, .int (iZ Mtd), .int (iZ Msz), .int (iZ Mtk), .int (iZ Mfr), .int (iZ Men), .int (iZ Mva), .int (iZ Mfk), .int (iZ Mfp), .int (iZ Mfs), .int (iZ Mse), .int (iZ Mlt), .ref Mo, .int (iZ Mdp), .int (iZ Mct), .ref Mk, .ref Ml, .ref Mb, .ref Mh, .ref Mc, .int (iZ Mdr), .int (iZ Mrs), .ref Mz, .ref Mr, .ref Mq, .int (iZ Mit), .int (iZ Mmk)])), (Mx, .inl (k 0, 900, .inl Xf))] (fun u => some (.int (iZ u.1.1))) (fun u => ((0 ≤ (u.1.2.2.1 : Int) ∧ (u.1.2.2.1 : Int) ≤ u.1.2.2.2.1) ∧ ((u.1.2.2.2.1 : Int) ≤ Msz ∧ (Msz : Int) ≤ 900) ∧ (0 ≤ (u.1.2.1 : Int) ∧ (u.1.2.1 : Int) ≤ 4) ∧ ((u.1.2.1 : Int) ≤ 4 * (u.1.2.2.2.1 - u.1.2.2.1)) ∧ (-1 ≤ (u.1.2.2.2.2.1 : Int) ∧ (u.1.2.2.2.2.1 : Int) ≤ 100000)) ∧ (0 ≤ (u.1.2.2.2.2.2.1 : Int) ∧ (u.1.2.2.2.2.2.1 : Int) ≤ 9) ∧ (((u.1.1 : Int) = 1 ∧ ∃ q9 : Int, xTw (tX Xf Msz) w cu = .inr q9 ∧ cu < q9 ∧ RFX (tX Xf Msz) q9 u.1.2.2.1 u.1.2.2.2.1 u.1.2.1 u.1.2.2.2.2.1 ∧ (u.1.2.2.2.2.2.1 : Int) = 0 ∧ u.1.2.2.2.2.2.2 = Mfp) ∨ ((u.1.1 : Int) = 0 ∧ xTw (tX Xf Msz) w cu = .inl (u.1.2.2.2.2.2.1, u.1.2.2.2.2.2.2) ∧ 1 ≤ (u.1.2.2.2.2.2.1 : Int)))) (fun u => [(hm, .inr (12, [.ref Ma, .ref Mn, .int (iZ Mst), .long Mtp, .long Mbt, .ref Ms, .ref My, .ref Mt, .ref Mp, .ref Mx, .int (iZ Mtd), .int (iZ Msz), .int (iZ u.1.2.1), .int (iZ u.1.2.2.1), .int (iZ u.1.2.2.2.1), .int (iZ u.1.2.2.2.2.1), .int (iZ Mfk), .int (iZ u.1.2.2.2.2.2.2), .int (iZ u.1.2.2.2.2.2.1), .int (iZ Mse), .int (iZ Mlt), .ref Mo, .int (iZ Mdp), .int (iZ Mct), .ref Mk, .ref Ml, .ref Mb, .ref Mh, .ref Mc, .int (iZ Mdr), .int (iZ Mrs), .ref Mz, .ref Mr, .ref Mq, .int (iZ Mit), .int (iZ Mmk)])), (Mx, .inl (k 0, 900, .inl Xf))]) := by
  refine MSS (by decide) (Nat.le_of_ble_eq_true rfl) (fun p e s m below meth c ls A hx hb hml hr hlocks hin hts hown hKK hP hD hS hA hSY hRR hl => ?_)
  have hK := hKK.1
  have hl : lv_has ls 3 [(0, .ref hm), (1, .ref sa), (2, .int (iZ x))] := hl
  obtain ⟨⟨ar_1, br_1⟩, cr_1, dr_1, er_1, gr_1, hr_1⟩ := id hrf
  have kr_1 := tk_1 dr_1 (xKd_rg _ _)
  have wr_1 := xKw_rg (tX Xf Msz) cu
  refine lv_aload_n hx hb dX12_wantWord_0 rfl (lv_at hl 0 rfl) ?_
  refine lv_aload_n hx hb dX12_wantWord_1 rfl (lv_at hl 1 rfl) ?_
  refine CSV (As := [.ref sa]) (rest := []) (wc := _) (wr := []) hx hb hml hown hts hKK hP hD hS hA hSY hRR (y_inWords l D k sa sv ([.ref Ma, .ref Mn, .int (iZ Mst), .long Mtp, .long Mbt, .ref Ms, .ref My, .ref Mt, .ref Mp, .ref Mx, .int (iZ Mtd), .int (iZ Msz), .int (iZ Mtk), .int (iZ Mfr), .int (iZ Men), .int (iZ Mva), .int (iZ Mfk), .int (iZ Mfp), .int (iZ Mfs), .int (iZ Mse), .int (iZ Mlt), .ref Mo, .int (iZ Mdp), .int (iZ Mct), .ref Mk, .ref Ml, .ref Mb, .ref Mh, .ref Mc, .int (iZ Mdr), .int (iZ Mrs), .ref Mz, .ref Mr, .ref Mq, .int (iZ Mit), .int (iZ Mmk)]) hm Mx Msz Mtk Mfr Men Xf cu rfl rfl rfl rfl rfl ⟨⟨⟨by omega, by omega⟩, by omega, by omega⟩, by omega, by omega⟩ ⟨⟨br_1, cr_1⟩, dr_1, gr_1⟩) ci_X12_inWords qm_X12_167 ⟨Nat.le_of_ble_eq_true rfl, Nat.le_of_ble_eq_true rfl⟩ ⟨Nat.le_of_ble_eq_true rfl, Nat.le_of_ble_eq_true rfl⟩ [0, 1] [] rfl rfl rfl rfl rfl (dj rfl) 0 rfl rfl rfl hl.1 rfl (Nat.le_of_ble_eq_true rfl) dX12_wantWord_2 (fun u_2 H locs hφ hP hD hS => ?_)
  have p_3 : u_2.1 = xPm (xKw (tX Xf Msz) cu) := hφ
  have pm_4 := xPm_rg (xKw_rg (tX Xf Msz) cu)
  refine W.eq (g2 := F0 m 5 ls [.int (iZ u_2.1)]) rfl ?_
  refine lv_iload_n hx hb dX12_wantWord_5 rfl (lv_at hl 2 rfl) ?_
  refine lv_icmp_eq (tgt := 15) hx hb dX12_wantWord_6 rfl (fun c_5 => ?_) (fun c_5 => ?_)
  ·
    have c_5 := (zeq (x := iZ u_2.1) (y := iZ x) rfl rfl ⟨by omega, by omega⟩ ⟨by omega, by omega⟩).mp c_5
    refine lv_aload_n hx hb dX12_wantWord_15 rfl (lv_at hl 0 rfl) ?_
    refine CWV (As := []) (rest := []) (wc := _) (wr := []) hx hb hml hown hts hKK hP hD hS hA (y_onward l D k hm Ma Mn Ms My Mt Mp Mx Mo Mk Ml Mb Mh Mc Mz Mr Mq Mst Mtd Msz Mtk Mfr Men Mva Mfk Mfp Mfs Mse Mlt Mdp Mct Mdr Mrs Mit Mmk Mtp Mbt Xf ⟨⟨by omega, by omega⟩, by omega⟩) ci_X12_onward qm_X12_158 ⟨Nat.le_of_ble_eq_true rfl, Nat.le_of_ble_eq_true rfl⟩ ⟨Nat.le_of_ble_eq_true rfl, Nat.le_of_ble_eq_true rfl⟩ [0, 1] [] rfl rfl rfl rfl rfl (dj rfl) 0 rfl rfl rfl hl.1 rfl (Nat.le_of_ble_eq_true rfl) dX12_wantWord_16 (fun u_6 H locs hφ hP hD hS => ?_)
    obtain ⟨p_7, p_8, p_9⟩ : (RFX (tX Xf Msz) Men u_6.1.2.2.1 u_6.1.2.2.2.1 u_6.1.2.1 u_6.1.2.2.2.2) ∧ ((0 ≤ (u_6.1.2.2.1 : Int) ∧ (u_6.1.2.2.1 : Int) ≤ u_6.1.2.2.2.1) ∧ ((u_6.1.2.2.2.1 : Int) ≤ Msz ∧ (Msz : Int) ≤ 900) ∧ (0 ≤ (u_6.1.2.1 : Int) ∧ (u_6.1.2.1 : Int) ≤ 4) ∧ ((u_6.1.2.1 : Int) ≤ 4 * (u_6.1.2.2.2.1 - u_6.1.2.2.1)) ∧ (-1 ≤ (u_6.1.2.2.2.2 : Int) ∧ (u_6.1.2.2.2.2 : Int) ≤ 100000)) ∧ (Men ≤ u_6.1.2.2.1) := hφ
    have rx_10 := RFX.nx hrf p_7
    obtain ⟨⟨ar_11, br_11⟩, cr_11, dr_11, er_11, gr_11, hr_11⟩ := id rx_10
    have kr_11 := tk_1 dr_11 (xKd_rg _ _)
    have wr_11 := xKw_rg (tX Xf Msz) (xEn (tX Xf Msz) cu)
    refine W.eq (g2 := F0 m 19 ls []) rfl ?_
    refine lv_iconst (v := iZ 1) hx hb dX12_wantWord_19 rfl ?_
    have hyes : xKw (tX Xf Msz) cu = w := (by have h9 := xPm_inj (a := xKw (tX Xf Msz) cu) (b := w) (by omega) (by omega); have h8 : (xPm (xKw (tX Xf Msz) cu) = xPm w) ↔ (xKw (tX Xf Msz) cu = w) := h9; exact h8.mp (by omega))
    have hkd := kw_kd (T := tX Xf Msz) (p := cu) (by omega)
    exact EWz hx hb hr hlocks hS ((1, u_6.1.2.1, u_6.1.2.2.1, u_6.1.2.2.2.1, u_6.1.2.2.2.2, Mfs, Mfp), 0, (), ()) rfl rfl ⟨(show (0 ≤ (u_6.1.2.2.1 : Int) ∧ (u_6.1.2.2.1 : Int) ≤ u_6.1.2.2.2.1) ∧ ((u_6.1.2.2.2.1 : Int) ≤ Msz ∧ (Msz : Int) ≤ 900) ∧ (0 ≤ (u_6.1.2.1 : Int) ∧ (u_6.1.2.1 : Int) ≤ 4) ∧ ((u_6.1.2.1 : Int) ≤ 4 * (u_6.1.2.2.2.1 - u_6.1.2.2.1)) ∧ (-1 ≤ (u_6.1.2.2.2.2 : Int) ∧ (u_6.1.2.2.2.2 : Int) ≤ 100000) from (by first | with_reducible assumption | exact ⟨⟨by omega, by omega⟩, ⟨by omega, by omega⟩, ⟨by omega, by omega⟩, by omega, by omega, by omega⟩)), (show 0 ≤ (Mfs : Int) ∧ (Mfs : Int) ≤ 9 from (by omega)), (show ((1 : Int) = 1 ∧ ∃ q9 : Int, xTw (tX Xf Msz) w cu = .inr q9 ∧ cu < q9 ∧ RFX (tX Xf Msz) q9 u_6.1.2.2.1 u_6.1.2.2.2.1 u_6.1.2.1 u_6.1.2.2.2.2 ∧ (Mfs : Int) = 0 ∧ Mfp = Mfp) ∨ ((1 : Int) = 0 ∧ xTw (tX Xf Msz) w cu = .inl (Mfs, Mfp) ∧ 1 ≤ (Mfs : Int)) from (Or.inl ⟨rfl, xEn (tX Xf Msz) cu, by unfold xTw; rw [if_pos hyes], by omega, rx_10, by omega, rfl⟩))⟩ (hP.sub [0, 1] rfl) (hD.sub [0, 1] rfl rfl) dX12_wantWord_20
  ·
    have c_5 := mt (zeq (x := iZ u_2.1) (y := iZ x) rfl rfl ⟨by omega, by omega⟩ ⟨by omega, by omega⟩).mpr c_5
    refine lv_aload_n hx hb dX12_wantWord_9 rfl (lv_at hl 0 rfl) ?_
    refine lv_iconst (v := iZ 2) hx hb dX12_wantWord_10 rfl ?_
    refine CWV (As := [.int (iZ 2)]) (rest := []) (wc := _) (wr := []) hx hb hml hown hts hKK hP hD hS hA (y_fails l D k hm Ma Mn Ms My Mt Mp Mx Mo Mk Ml Mb Mh Mc Mz Mr Mq Mst Mtd Msz Mtk Mfr Men Mva Mfk Mfp Mfs Mse Mlt Mdp Mct Mdr Mrs Mit Mmk Mtp Mbt Xf 2 cu ⟨by omega, by omega⟩ (by omega) hrf) ci_X12_fails qm_X12_164 ⟨Nat.le_of_ble_eq_true rfl, Nat.le_of_ble_eq_true rfl⟩ ⟨Nat.le_of_ble_eq_true rfl, Nat.le_of_ble_eq_true rfl⟩ [0, 1] [] rfl rfl rfl rfl rfl (dj rfl) 0 rfl rfl rfl hl.1 rfl (Nat.le_of_ble_eq_true rfl) dX12_wantWord_11 (fun u_12 H locs hφ hP hD hS => ?_)
    obtain ⟨p_13, p_14⟩ : (u_12.1.2.1 = xFl (tX Xf Msz) cu 2 ∧ u_12.1.2.2 = xPl (tX Xf Msz) cu) ∧ (1 ≤ (u_12.1.2.1 : Int) ∧ (u_12.1.2.1 : Int) ≤ 9) := hφ
    refine W.eq (g2 := F0 m 14 ls [.int (iZ 0)]) rfl ?_
    have hno : ¬ xKw (tX Xf Msz) cu = w := (by have h9 := xPm_inj (a := xKw (tX Xf Msz) cu) (b := w) (by omega) (by omega); have h8 : (xPm (xKw (tX Xf Msz) cu) = xPm w) ↔ (xKw (tX Xf Msz) cu = w) := h9; intro h7; have h6 := h8.mpr h7; omega)
    exact EWz hx hb hr hlocks hS ((0, Mtk, Mfr, Men, Mva, u_12.1.2.1, u_12.1.2.2), 0, (), ()) rfl rfl ⟨(show (0 ≤ (Mfr : Int) ∧ (Mfr : Int) ≤ Men) ∧ ((Men : Int) ≤ Msz ∧ (Msz : Int) ≤ 900) ∧ (0 ≤ (Mtk : Int) ∧ (Mtk : Int) ≤ 4) ∧ ((Mtk : Int) ≤ 4 * (Men - Mfr)) ∧ (-1 ≤ (Mva : Int) ∧ (Mva : Int) ≤ 100000) from (by first | with_reducible assumption | exact ⟨⟨by omega, by omega⟩, ⟨by omega, by omega⟩, ⟨by omega, by omega⟩, by omega, by omega, by omega⟩)), (show 0 ≤ (u_12.1.2.1 : Int) ∧ (u_12.1.2.1 : Int) ≤ 9 from (by omega)), (show ((0 : Int) = 1 ∧ ∃ q9 : Int, xTw (tX Xf Msz) w cu = .inr q9 ∧ cu < q9 ∧ RFX (tX Xf Msz) q9 Mfr Men Mtk Mva ∧ (u_12.1.2.1 : Int) = 0 ∧ u_12.1.2.2 = Mfp) ∨ ((0 : Int) = 0 ∧ xTw (tX Xf Msz) w cu = .inl (u_12.1.2.1, u_12.1.2.2) ∧ 1 ≤ (u_12.1.2.1 : Int)) from (Or.inr ⟨rfl, by unfold xTw xEr; rw [if_neg hno, p_13.1, p_13.2], by omega⟩))⟩ (hP.sub [0, 1] rfl) (hD.sub [0, 1] rfl rfl) dX12_wantWord_14
set_option maxHeartbeats 4000000 in
set_option maxRecDepth 100000 in
theorem y_isThere (l : Launch) (D : va_G) (k : Nat → ClassId) (sa sv : Nat) (hm : Nat) (Ma : Nat) (Mn : Nat) (Ms : Nat) (My : Nat) (Mt : Nat) (Mp : Nat) (Mx : Nat) (Mo : Nat) (Mk : Nat) (Ml : Nat) (Mb : Nat) (Mh : Nat) (Mc : Nat) (Mz : Nat) (Mr : Nat) (Mq : Nat) (Mst : Int) (Mtd : Int) (Msz : Int) (Mtk : Int) (Mfr : Int) (Men : Int) (Mva : Int) (Mfk : Int) (Mfp : Int) (Mfs : Int) (Mse : Int) (Mlt : Int) (Mdp : Int) (Mct : Int) (Mdr : Int) (Mrs : Int) (Mit : Int) (Mmk : Int) (Mtp : Int64) (Mbt : Int64) (Xf : Nat → Int32) (x : Int) (cu : Int) (w : Int) (hTI : (0 ≤ (Mfr : Int) ∧ (Mfr : Int) ≤ Men) ∧ ((Men : Int) ≤ Msz ∧ (Msz : Int) ≤ 900) ∧ (0 ≤ (Mtk : Int) ∧ (Mtk : Int) ≤ 4) ∧ ((Mtk : Int) ≤ 4 * (Men - Mfr)) ∧ (-1 ≤ (Mva : Int) ∧ (Mva : Int) ≤ 100000)) (hrf : RFX (tX Xf Msz) cu Mfr Men Mtk Mva) (h9x : -2147483648 ≤ x ∧ x < 2147483648) (hwk : (0 ≤ w ∧ w ≤ 24) ∧ xPm w = x) : SD (σ := ((Int × Int × Int × Int × Int) × (Int64) × (Unit) × (Unit))) sa sv l yX12_isThere cX12_isThere 2 (some .boolean) 5 D k [.ref hm, .int (iZ x)] [(hm, .inr (12, [.ref Ma, .ref Mn, .int (iZ Mst), .long Mtp, .long Mbt, .ref Ms, .ref My, .ref Mt, .ref Mp, .ref Mx, .int (iZ Mtd), .int (iZ Msz), .int (iZ Mtk), .int (iZ Mfr), .int (iZ Men), .int (iZ Mva), .int (iZ Mfk), .int (iZ Mfp), .int (iZ Mfs), .int (iZ Mse), .int (iZ Mlt), .ref Mo, .int (iZ Mdp), .int (iZ Mct), .ref Mk, .ref Ml, .ref Mb, .ref Mh, .ref Mc, .int (iZ Mdr), .int (iZ Mrs), .ref Mz, .ref Mr, .ref Mq, .int (iZ Mit), .int (iZ Mmk)])), (Mx, .inl (k 0, 900, .inl Xf))] (fun u => some (.int (iZ u.1.1))) (fun u => ((0 ≤ (u.1.2.2.1 : Int) ∧ (u.1.2.2.1 : Int) ≤ u.1.2.2.2.1) ∧ ((u.1.2.2.2.1 : Int) ≤ Msz ∧ (Msz : Int) ≤ 900) ∧ (0 ≤ (u.1.2.1 : Int) ∧ (u.1.2.1 : Int) ≤ 4) ∧ ((u.1.2.1 : Int) ≤ 4 * (u.1.2.2.2.1 - u.1.2.2.1)) ∧ (-1 ≤ (u.1.2.2.2.2 : Int) ∧ (u.1.2.2.2.2 : Int) ≤ 100000)) ∧ (((u.1.1 : Int) = 1 ∧ xKw (tX Xf Msz) cu = w ∧ ∃ q9 : Int, q9 = xEn (tX Xf Msz) cu ∧ cu < q9 ∧ RFX (tX Xf Msz) q9 u.1.2.2.1 u.1.2.2.2.1 u.1.2.1 u.1.2.2.2.2) ∨ ((u.1.1 : Int) = 0 ∧ ¬ xKw (tX Xf Msz) cu = w ∧ RFX (tX Xf Msz) cu u.1.2.2.1 u.1.2.2.2.1 u.1.2.1 u.1.2.2.2.2))) (fun u => [(hm, .inr (12, [.ref Ma, .ref Mn, .int (iZ Mst), .long Mtp, .long Mbt, .ref Ms, .ref My, .ref Mt, .ref Mp, .ref Mx, .int (iZ Mtd), .int (iZ Msz), .int (iZ u.1.2.1), .int (iZ u.1.2.2.1), .int (iZ u.1.2.2.2.1), .int (iZ u.1.2.2.2.2), .int (iZ Mfk), .int (iZ Mfp), .int (iZ Mfs), .int (iZ Mse), .int (iZ Mlt), .ref Mo, .int (iZ Mdp), .int (iZ Mct), .ref Mk, .ref Ml, .ref Mb, .ref Mh, .ref Mc, .int (iZ Mdr), .int (iZ Mrs), .ref Mz, .ref Mr, .ref Mq, .int (iZ Mit), .int (iZ Mmk)])), (Mx, .inl (k 0, 900, .inl Xf))]) := by
  refine MSS (by decide) (Nat.le_of_ble_eq_true rfl) (fun p e s m below meth c ls A hx hb hml hr hlocks hin hts hown hKK hP hD hS hA hSY hRR hl => ?_)
  have hK := hKK.1
  have hl : lv_has ls 2 [(0, .ref hm), (1, .int (iZ x))] := hl
  obtain ⟨⟨ar_1, br_1⟩, cr_1, dr_1, er_1, gr_1, hr_1⟩ := id hrf
  have kr_1 := tk_1 dr_1 (xKd_rg _ _)
  have wr_1 := xKw_rg (tX Xf Msz) cu
  refine lv_aload_n hx hb dX12_isThere_0 rfl (lv_at hl 0 rfl) ?_
  refine va_ldcS hx hb hown hRR dX12_isThere_1 ?_
  refine CSV (As := [.ref sa]) (rest := []) (wc := _) (wr := []) hx hb hml hown hts hKK hP hD hS hA hSY hRR (y_inWords l D k sa sv ([.ref Ma, .ref Mn, .int (iZ Mst), .long Mtp, .long Mbt, .ref Ms, .ref My, .ref Mt, .ref Mp, .ref Mx, .int (iZ Mtd), .int (iZ Msz), .int (iZ Mtk), .int (iZ Mfr), .int (iZ Men), .int (iZ Mva), .int (iZ Mfk), .int (iZ Mfp), .int (iZ Mfs), .int (iZ Mse), .int (iZ Mlt), .ref Mo, .int (iZ Mdp), .int (iZ Mct), .ref Mk, .ref Ml, .ref Mb, .ref Mh, .ref Mc, .int (iZ Mdr), .int (iZ Mrs), .ref Mz, .ref Mr, .ref Mq, .int (iZ Mit), .int (iZ Mmk)]) hm Mx Msz Mtk Mfr Men Xf cu rfl rfl rfl rfl rfl ⟨⟨⟨by omega, by omega⟩, by omega, by omega⟩, by omega, by omega⟩ ⟨⟨br_1, cr_1⟩, dr_1, gr_1⟩) ci_X12_inWords qm_X12_167 ⟨Nat.le_of_ble_eq_true rfl, Nat.le_of_ble_eq_true rfl⟩ ⟨Nat.le_of_ble_eq_true rfl, Nat.le_of_ble_eq_true rfl⟩ [0, 1] [] rfl rfl rfl rfl rfl (dj rfl) 0 rfl rfl rfl hl.1 rfl (Nat.le_of_ble_eq_true rfl) dX12_isThere_3 (fun u_2 H locs hφ hP hD hS => ?_)
  have p_3 : u_2.1 = xPm (xKw (tX Xf Msz) cu) := hφ
  have pm_4 := xPm_rg (xKw_rg (tX Xf Msz) cu)
  refine W.eq (g2 := F0 m 6 ls [.int (iZ u_2.1)]) rfl ?_
  refine lv_iload_n hx hb dX12_isThere_6 rfl (lv_at hl 1 rfl) ?_
  refine lv_icmp_eq (tgt := 12) hx hb dX12_isThere_7 rfl (fun c_5 => ?_) (fun c_5 => ?_)
  ·
    have c_5 := (zeq (x := iZ u_2.1) (y := iZ x) rfl rfl ⟨by omega, by omega⟩ ⟨by omega, by omega⟩).mp c_5
    refine lv_aload_n hx hb dX12_isThere_12 rfl (lv_at hl 0 rfl) ?_
    refine CWV (As := []) (rest := []) (wc := _) (wr := []) hx hb hml hown hts hKK hP hD hS hA (y_onward l D k hm Ma Mn Ms My Mt Mp Mx Mo Mk Ml Mb Mh Mc Mz Mr Mq Mst Mtd Msz Mtk Mfr Men Mva Mfk Mfp Mfs Mse Mlt Mdp Mct Mdr Mrs Mit Mmk Mtp Mbt Xf ⟨⟨by omega, by omega⟩, by omega⟩) ci_X12_onward qm_X12_158 ⟨Nat.le_of_ble_eq_true rfl, Nat.le_of_ble_eq_true rfl⟩ ⟨Nat.le_of_ble_eq_true rfl, Nat.le_of_ble_eq_true rfl⟩ [0, 1] [] rfl rfl rfl rfl rfl (dj rfl) 0 rfl rfl rfl hl.1 rfl (Nat.le_of_ble_eq_true rfl) dX12_isThere_13 (fun u_6 H locs hφ hP hD hS => ?_)
    obtain ⟨p_7, p_8, p_9⟩ : (RFX (tX Xf Msz) Men u_6.1.2.2.1 u_6.1.2.2.2.1 u_6.1.2.1 u_6.1.2.2.2.2) ∧ ((0 ≤ (u_6.1.2.2.1 : Int) ∧ (u_6.1.2.2.1 : Int) ≤ u_6.1.2.2.2.1) ∧ ((u_6.1.2.2.2.1 : Int) ≤ Msz ∧ (Msz : Int) ≤ 900) ∧ (0 ≤ (u_6.1.2.1 : Int) ∧ (u_6.1.2.1 : Int) ≤ 4) ∧ ((u_6.1.2.1 : Int) ≤ 4 * (u_6.1.2.2.2.1 - u_6.1.2.2.1)) ∧ (-1 ≤ (u_6.1.2.2.2.2 : Int) ∧ (u_6.1.2.2.2.2 : Int) ≤ 100000)) ∧ (Men ≤ u_6.1.2.2.1) := hφ
    have rx_10 := RFX.nx hrf p_7
    obtain ⟨⟨ar_11, br_11⟩, cr_11, dr_11, er_11, gr_11, hr_11⟩ := id rx_10
    have kr_11 := tk_1 dr_11 (xKd_rg _ _)
    have wr_11 := xKw_rg (tX Xf Msz) (xEn (tX Xf Msz) cu)
    refine W.eq (g2 := F0 m 16 ls []) rfl ?_
    refine lv_iconst (v := iZ 1) hx hb dX12_isThere_16 rfl ?_
    have hyes : xKw (tX Xf Msz) cu = w := (by have h9 := xPm_inj (a := xKw (tX Xf Msz) cu) (b := w) (by omega) (by omega); have h8 : (xPm (xKw (tX Xf Msz) cu) = xPm w) ↔ (xKw (tX Xf Msz) cu = w) := h9; exact h8.mp (by omega))
    have hkd := kw_kd (T := tX Xf Msz) (p := cu) (by omega)
    exact EWz hx hb hr hlocks hS ((1, u_6.1.2.1, u_6.1.2.2.1, u_6.1.2.2.2.1, u_6.1.2.2.2.2), 0, (), ()) rfl rfl ⟨(show (0 ≤ (u_6.1.2.2.1 : Int) ∧ (u_6.1.2.2.1 : Int) ≤ u_6.1.2.2.2.1) ∧ ((u_6.1.2.2.2.1 : Int) ≤ Msz ∧ (Msz : Int) ≤ 900) ∧ (0 ≤ (u_6.1.2.1 : Int) ∧ (u_6.1.2.1 : Int) ≤ 4) ∧ ((u_6.1.2.1 : Int) ≤ 4 * (u_6.1.2.2.2.1 - u_6.1.2.2.1)) ∧ (-1 ≤ (u_6.1.2.2.2.2 : Int) ∧ (u_6.1.2.2.2.2 : Int) ≤ 100000) from (by first | with_reducible assumption | exact ⟨⟨by omega, by omega⟩, ⟨by omega, by omega⟩, ⟨by omega, by omega⟩, by omega, by omega, by omega⟩)), (show ((1 : Int) = 1 ∧ xKw (tX Xf Msz) cu = w ∧ ∃ q9 : Int, q9 = xEn (tX Xf Msz) cu ∧ cu < q9 ∧ RFX (tX Xf Msz) q9 u_6.1.2.2.1 u_6.1.2.2.2.1 u_6.1.2.1 u_6.1.2.2.2.2) ∨ ((1 : Int) = 0 ∧ ¬ xKw (tX Xf Msz) cu = w ∧ RFX (tX Xf Msz) cu u_6.1.2.2.1 u_6.1.2.2.2.1 u_6.1.2.1 u_6.1.2.2.2.2) from (Or.inl ⟨rfl, hyes, xEn (tX Xf Msz) cu, rfl, by omega, rx_10⟩))⟩ (hP.sub [0, 1] rfl) (hD.sub [0, 1] rfl rfl) dX12_isThere_17
  ·
    have c_5 := mt (zeq (x := iZ u_2.1) (y := iZ x) rfl rfl ⟨by omega, by omega⟩ ⟨by omega, by omega⟩).mpr c_5
    refine lv_iconst (v := iZ 0) hx hb dX12_isThere_10 rfl ?_
    exact EWz hx hb hr hlocks hS ((0, Mtk, Mfr, Men, Mva), 0, (), ()) rfl rfl ⟨(show (0 ≤ (Mfr : Int) ∧ (Mfr : Int) ≤ Men) ∧ ((Men : Int) ≤ Msz ∧ (Msz : Int) ≤ 900) ∧ (0 ≤ (Mtk : Int) ∧ (Mtk : Int) ≤ 4) ∧ ((Mtk : Int) ≤ 4 * (Men - Mfr)) ∧ (-1 ≤ (Mva : Int) ∧ (Mva : Int) ≤ 100000) from (by first | with_reducible assumption | exact ⟨⟨by omega, by omega⟩, ⟨by omega, by omega⟩, ⟨by omega, by omega⟩, by omega, by omega, by omega⟩)), (show ((0 : Int) = 1 ∧ xKw (tX Xf Msz) cu = w ∧ ∃ q9 : Int, q9 = xEn (tX Xf Msz) cu ∧ cu < q9 ∧ RFX (tX Xf Msz) q9 Mfr Men Mtk Mva) ∨ ((0 : Int) = 0 ∧ ¬ xKw (tX Xf Msz) cu = w ∧ RFX (tX Xf Msz) cu Mfr Men Mtk Mva) from (Or.inr ⟨rfl, (by have h9 := xPm_inj (a := xKw (tX Xf Msz) cu) (b := w) (by omega) (by omega); have h8 : (xPm (xKw (tX Xf Msz) cu) = xPm w) ↔ (xKw (tX Xf Msz) cu = w) := h9; intro h7; have h6 := h8.mpr h7; omega), hrf⟩))⟩ (hP.sub [0, 1] rfl) (hD.sub [0, 1] rfl rfl) dX12_isThere_11
set_option maxHeartbeats 4000000 in
set_option maxRecDepth 100000 in
theorem y_isName (l : Launch) (D : va_G) (k : Nat → ClassId) (sa sv : Nat) (fs : List Value) (hm : Nat) (Mx : Nat) (Msz : Int) (Mtk : Int) (Mfr : Int) (Men : Int) (Xf : Nat → Int32) (cu : Int) (f12 : fs[12]? = some (.int (iZ Mtk))) (f13 : fs[13]? = some (.int (iZ Mfr))) (f14 : fs[14]? = some (.int (iZ Men))) (f9 : fs[9]? = some (.ref Mx)) (f11 : fs[11]? = some (.int (iZ Msz))) (hiw : ((0 ≤ Mfr ∧ Mfr ≤ Men) ∧ (Men ≤ Msz ∧ Msz ≤ 900)) ∧ (0 ≤ Mtk ∧ Mtk ≤ 4)) (hiw2 : (Mfr = xPl (tX Xf Msz) cu ∧ Men = xEn (tX Xf Msz) cu) ∧ Mtk = tkm (xKd (tX Xf Msz) cu) ∧ (Mtk = 2 → xLet (tX Xf Msz) (xPl (tX Xf Msz) cu) (xLn (tX Xf Msz) cu))) : SD (σ := ((Int) × (Int64) × (Unit) × (Unit))) sa sv l yX12_isName cX12_isName 2 (some .boolean) 5 D k [.ref hm, .ref sa] [(hm, .inr (12, fs)), (Mx, .inl (k 0, 900, .inl Xf))] (fun u => some (.int (iZ u.1))) (fun u => ((u.1 : Int) = 1 ∧ xIn (tX Xf Msz) cu) ∨ ((u.1 : Int) = 0 ∧ ¬ xIn (tX Xf Msz) cu)) (fun u => [(hm, .inr (12, fs)), (Mx, .inl (k 0, 900, .inl Xf))]) := by
  refine MSS (by decide) (Nat.le_of_ble_eq_true rfl) (fun p e s m below meth c ls A hx hb hml hr hlocks hin hts hown hKK hP hD hS hA hSY hRR hl => ?_)
  have hK := hKK.1
  have hl : lv_has ls 2 [(0, .ref hm), (1, .ref sa)] := hl
  obtain ⟨⟨br, cr⟩, dr, gr⟩ := id hiw2
  have kr := tk_1 dr (xKd_rg _ _)
  have wr9 := xKw_rg (tX Xf Msz) cu
  refine lv_aload_n hx hb dX12_isName_0 rfl (lv_at hl 0 rfl) ?_
  refine va_get (D := D) (ci := 12) (v := .int (iZ Mtk)) (C := RX12) (T := TX12) (N := 36) hx hb hts iX12 hown hK hP 0 rfl rfl 12 (bl rfl) (hts _ qf_X12_127) (fun _ h => h) f12 dX12_isName_1 ?_
  refine lv_iconst (v := iZ 2) hx hb dX12_isName_4 rfl ?_
  refine lv_icmp_ne (tgt := 35) hx hb dX12_isName_5 rfl (fun c_1 => ?_) (fun c_1 => ?_)
  ·
    have c_1 := mt (zeq (x := iZ Mtk) (y := iZ 2) rfl rfl ⟨by omega, by omega⟩ wn_2).mpr c_1
    refine lv_iconst (v := iZ 0) hx hb dX12_isName_35 rfl ?_
    exact EWz hx hb hr hlocks hS (0, 0, (), ()) rfl rfl (show ((0 : Int) = 1 ∧ xIn (tX Xf Msz) cu) ∨ ((0 : Int) = 0 ∧ ¬ xIn (tX Xf Msz) cu) from (Or.inr ⟨rfl, fun h => absurd h.1 (by omega)⟩)) (hP.sub [0, 1] rfl) (hD.sub [0, 1] rfl rfl) dX12_isName_36
  ·
    have c_1 := (zeq (x := iZ Mtk) (y := iZ 2) rfl rfl ⟨by omega, by omega⟩ wn_2).mp c_1
    refine lv_aload_n hx hb dX12_isName_8 rfl (lv_at hl 0 rfl) ?_
    refine va_get (D := D) (ci := 12) (v := .int (iZ Men)) (C := RX12) (T := TX12) (N := 36) hx hb hts iX12 hown hK hP 0 rfl rfl 14 (bl rfl) (hts _ qf_X12_115) (fun _ h => h) f14 dX12_isName_9 ?_
    refine lv_aload_n hx hb dX12_isName_12 rfl (lv_at hl 0 rfl) ?_
    refine va_get (D := D) (ci := 12) (v := .int (iZ Mfr)) (C := RX12) (T := TX12) (N := 36) hx hb hts iX12 hown hK hP 0 rfl rfl 13 (bl rfl) (hts _ qf_X12_121) (fun _ h => h) f13 dX12_isName_13 ?_
    refine lv_isub hx hb dX12_isName_16 ?_
    refine lv_topi (fun x_2 ex_2 => ?_)
    obtain rfl : x_2 = iZ (Men - Mfr) := ex_2.trans (iZ_sub Men Mfr)
    refine lv_bipush (v := iZ 8) hx hb dX12_isName_17 bip_8 ?_
    refine lv_icmp_gt (tgt := 35) hx hb dX12_isName_19 rfl (fun c_3 => ?_) (fun c_3 => ?_)
    ·
      have c_3 := (zlt (x := iZ 8) (y := iZ (Men - Mfr)) rfl rfl wn_8 ⟨by omega, by omega⟩).mp c_3
      refine lv_iconst (v := iZ 0) hx hb dX12_isName_35 rfl ?_
      exact EWz hx hb hr hlocks hS (0, 0, (), ()) rfl rfl (show ((0 : Int) = 1 ∧ xIn (tX Xf Msz) cu) ∨ ((0 : Int) = 0 ∧ ¬ xIn (tX Xf Msz) cu) from (Or.inr ⟨rfl, fun h => h.2.2 ((xNm_m1 (gr (by omega)) (by omega)).mpr (by omega))⟩)) (hP.sub [0, 1] rfl) (hD.sub [0, 1] rfl rfl) dX12_isName_36
    ·
      have c_3 := mt (zlt (x := iZ 8) (y := iZ (Men - Mfr)) rfl rfl wn_8 ⟨by omega, by omega⟩).mpr c_3
      refine lv_aload_n hx hb dX12_isName_22 rfl (lv_at hl 0 rfl) ?_
      refine lv_aload_n hx hb dX12_isName_23 rfl (lv_at hl 1 rfl) ?_
      refine CSV (As := [.ref sa]) (rest := []) (wc := _) (wr := []) hx hb hml hown hts hKK hP hD hS hA hSY hRR (y_inWords l D k sa sv fs hm Mx Msz Mtk Mfr Men Xf cu f12 f13 f14 f9 f11 ⟨⟨⟨by omega, by omega⟩, by omega, by omega⟩, by omega, by omega⟩ ⟨⟨br, cr⟩, dr, gr⟩) ci_X12_inWords qm_X12_167 ⟨Nat.le_of_ble_eq_true rfl, Nat.le_of_ble_eq_true rfl⟩ ⟨Nat.le_of_ble_eq_true rfl, Nat.le_of_ble_eq_true rfl⟩ [0, 1] [] rfl rfl rfl rfl rfl (dj rfl) 0 rfl rfl rfl hl.1 rfl (Nat.le_of_ble_eq_true rfl) dX12_isName_24 (fun u_4 H locs hφ hP hD hS => ?_)
      have p_5 : u_4.1 = xPm (xKw (tX Xf Msz) cu) := hφ
      have pm_6 := xPm_rg (xKw_rg (tX Xf Msz) cu)
      refine W.eq (g2 := F0 m 27 ls [.int (iZ u_4.1)]) rfl ?_
      refine lv_iconst (v := iZ (-1)) hx hb dX12_isName_27 rfl ?_
      refine lv_icmp_ne (tgt := 35) hx hb dX12_isName_28 rfl (fun c_7 => ?_) (fun c_7 => ?_)
      ·
        have c_7 := mt (zeq (x := iZ u_4.1) (y := iZ (-1)) rfl rfl ⟨by omega, by omega⟩ wn_m1).mpr c_7
        refine lv_iconst (v := iZ 0) hx hb dX12_isName_35 rfl ?_
        exact EWz hx hb hr hlocks hS (0, 0, (), ()) rfl rfl (show ((0 : Int) = 1 ∧ xIn (tX Xf Msz) cu) ∨ ((0 : Int) = 0 ∧ ¬ xIn (tX Xf Msz) cu) from (Or.inr ⟨rfl, fun h => by have h9 := (xPm_inj (a := xKw (tX Xf Msz) cu) (b := -1) (by omega) (by omega)).mpr h.2.1; have h8 : xPm (-1) = -1 := rfl; omega⟩)) (hP.sub [0, 1] rfl) (hD.sub [0, 1] rfl rfl) dX12_isName_36
      ·
        have c_7 := (zeq (x := iZ u_4.1) (y := iZ (-1)) rfl rfl ⟨by omega, by omega⟩ wn_m1).mp c_7
        refine lv_iconst (v := iZ 1) hx hb dX12_isName_31 rfl ?_
        refine lv_goto (tgt := 36) hx hb dX12_isName_32 rfl ?_
        exact EWz hx hb hr hlocks hS (1, 0, (), ()) rfl rfl (show ((1 : Int) = 1 ∧ xIn (tX Xf Msz) cu) ∨ ((1 : Int) = 0 ∧ ¬ xIn (tX Xf Msz) cu) from (Or.inl ⟨rfl, by omega, (xPm_inj (a := xKw (tX Xf Msz) cu) (b := -1) (by omega) (by omega)).mp (by have h9 : xPm (-1) = -1 := rfl; omega), fun h => absurd ((xNm_m1 (gr (by omega)) (by omega)).mp h) (by omega)⟩)) (hP.sub [0, 1] rfl) (hD.sub [0, 1] rfl rfl) dX12_isName_36
end
