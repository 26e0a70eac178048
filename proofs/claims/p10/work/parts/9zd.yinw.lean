set_option maxHeartbeats 4000000 in
set_option maxRecDepth 100000 in
theorem y_inWords (l : Launch) (D : va_G) (k : Nat → ClassId) (sa sv : Nat) (fs : List Value) (hm : Nat) (Mx : Nat) (Msz : Int) (Mtk : Int) (Mfr : Int) (Men : Int) (Xf : Nat → Int32) (cu : Int) (f12 : fs[12]? = some (.int (iZ Mtk))) (f13 : fs[13]? = some (.int (iZ Mfr))) (f14 : fs[14]? = some (.int (iZ Men))) (f9 : fs[9]? = some (.ref Mx)) (f11 : fs[11]? = some (.int (iZ Msz))) (hiw : ((0 ≤ Mfr ∧ Mfr ≤ Men) ∧ (Men ≤ Msz ∧ Msz ≤ 900)) ∧ (0 ≤ Mtk ∧ Mtk ≤ 4)) (hiw2 : (Mfr = xPl (tX Xf Msz) cu ∧ Men = xEn (tX Xf Msz) cu) ∧ Mtk = tkm (xKd (tX Xf Msz) cu) ∧ (Mtk = 2 → xLet (tX Xf Msz) (xPl (tX Xf Msz) cu) (xLn (tX Xf Msz) cu))) : SD (σ := ((Nat → Int) × (Nat → Int64) × (Nat → Nat → Int32) × (Nat → Nat → Int64))) sa sv l yX12_inWords cX12_inWords 7 (some .int) 4 D k [.ref hm, .ref sa] [(hm, .inr (12, fs)), (Mx, .inl (k 0, 900, .inl Xf))] (fun u => some (.int (iZ (u.1 0)))) (fun u => (u.1 0) = xPm (xKw (tX Xf Msz) cu)) (fun u => [(hm, .inr (12, fs)), (Mx, .inl (k 0, 900, .inl Xf))]) := by
  refine MSS (by decide) (Nat.le_of_ble_eq_true rfl) (fun p e s m below meth c ls A hx hb hml hr hlocks hin hts hown hKK hP hD hS hA hSY hRR hl => ?_)
  have hK := hKK.1
  have hl : lv_has ls 7 [(0, .ref hm), (1, .ref sa)] := hl
  obtain ⟨⟨hfr, hen⟩, htk, hlt⟩ := id hiw2
  have hkt := tk_1 htk (xKd_rg _ _)
  refine lv_aload_n hx hb dX12_inWords_0 rfl (lv_at hl 0 rfl) ?_
  refine va_get (D := D) (ci := 12) (v := .int (iZ Mtk)) (C := RX12) (T := TX12) (N := 36) hx hb hts iX12 hown hK hP 0 rfl rfl 12 (by decide) (hts _ qf_X12_127) (fun _ h => h) f12 dX12_inWords_1 ?_
  refine lv_iconst (v := iZ 2) hx hb dX12_inWords_4 (by decide) ?_
  refine lv_icmp_eq (tgt := 10) hx hb dX12_inWords_5 (by decide) (fun c_1 => ?_) (fun c_1 => ?_)
  ·
    have c_1 := (zeq (x := iZ Mtk) (y := iZ 2) rfl rfl ⟨by omega, by omega⟩ ⟨by omega, by omega⟩).mp c_1
    refine lv_iconst (v := iZ 0) hx hb dX12_inWords_10 (by decide) ?_
    refine lv_istore_n (lv' := [(2, .int (iZ 0)), (0, .ref hm), (1, .ref sa)]) hx hb dX12_inWords_11 rfl hl (by decide) rfl (fun ls hl => ?_)
    refine lv_iconst (v := iZ 1) hx hb dX12_inWords_12 (by decide) ?_
    refine lv_istore_n (lv' := [(3, .int (iZ 1)), (2, .int (iZ 0)), (0, .ref hm), (1, .ref sa)]) hx hb dX12_inWords_13 rfl hl (by decide) rfl (fun ls hl => ?_)
    have HL14 : ∀ (fu : Nat) (v2_14 : Int) (v3_14 : Int) (H : Heap) (locs : List Loc) (ls : Array Slot), ((124) + 2 - v3_14) < (fu : Int) → ((1 ≤ v3_14 ∧ v3_14 ≤ (124) + 1)) → (0 ≤ v2_14 ∧ v2_14 ≤ 25 ∧ v3_14 = kS v2_14) → (∀ w : Int, 0 ≤ w → w < v2_14 → ¬ xMt (tX Xf Msz) Mfr Men w) → va_P D vwCl [(hm, .inr (12, fs)), (Mx, .inl (k 0, 900, .inl Xf))] H → va_D A [(hm, .inr (12, fs)), (Mx, .inl (k 0, 900, .inl Xf))] → va_S A s.heap H locs → lv_has ls 7 [(3, .int (iZ v3_14)), (2, .int (iZ v2_14)), (0, .ref hm), (1, .ref sa)] → W p l e (rj 4 0 0) s m [.ref hm, .ref sa].toArray below meth c H locs 0 0 (MQ below (QW (σ := ((Nat → Int) × (Nat → Int64) × (Nat → Nat → Int32) × (Nat → Nat → Int64))) (fun u => some (.int (iZ (u.1 0)))) (fun u => (u.1 0) = xPm (xKw (tX Xf Msz) cu)) (fun u => [(hm, .inr (12, fs)), (Mx, .inl (k 0, 900, .inl Xf))]) D A) [.ref hm, .ref sa].toArray s 0 0 A) (F0 m 14 ls []) := by
      intro fu
      induction fu with
      | zero => intro v2_14 v3_14 H locs ls hμ14 hi14 hn14 hm14 hP hD hS hl; exact absurd hμ14 (by omega)
      | succ fu ih14 =>
        intro v2_14 v3_14 H locs ls hμ14 hi14 hn14 hm14 hP hD hS hl
        refine lv_iload_n hx hb dX12_inWords_14 rfl (lv_at hl 0 rfl) ?_
        refine lv_aload_n hx hb dX12_inWords_15 rfl (lv_at hl 3 rfl) ?_
        refine W.callR (rwV (As := []) (rest := [.int (iZ v3_14)]) hx hb hml hown hts ((hSY.kept hS.2.1).narrow (fun _ h => h.elim)) (jm_length l sa sv keyF) ci_J0_length_8abf5 rfl qm_X12_142 ⟨Nat.le_of_ble_eq_true rfl, Nat.le_of_ble_eq_true rfl⟩ ⟨Nat.le_of_ble_eq_true rfl, Nat.le_of_ble_eq_true rfl⟩ rfl hl.1 rfl (Nat.le_of_ble_eq_true rfl) dX12_inWords_16) ?_
        refine W.eq (g2 := F0 m 19 ls [.int (iZ 125), .int (iZ v3_14)]) rfl ?_
        refine lv_icmp_ge (tgt := 133) hx hb dX12_inWords_19 (by decide) (fun c_2 => ?_) (fun c_2 => ?_)
        ·
          have c_2 := (zle (x := iZ 125) (y := iZ v3_14) rfl rfl ⟨by omega, by omega⟩ ⟨by omega, by omega⟩).mp c_2
          have h25 : v2_14 = 25 := by rcases Int.lt_or_eq_of_le hn14.2.1 with h9 | h9; have h8 := kk_a ⟨hn14.1, h9⟩; omega; exact h9
          refine lv_iconst (v := iZ (-1)) hx hb dX12_inWords_133 (by decide) ?_
          exact EWi hx hb hr hlocks hS (fun i => [(-1)].getD i 0, fun i => [0].getD i 0, fun i => [].getD i (fun _ => 0), fun i => [].getD i (fun _ => 0)) rfl (show (-1) = xPm (xKw (tX Xf Msz) cu) from (xMt_no (fun h => hlt (by omega)) (by omega) (fun _ w h1 h2 => by rw [← hfr, ← hen]; exact hm14 w h1 (by omega))).symm) (hP.sub [0, 1] rfl) (hD.sub [0, 1] rfl rfl) dX12_inWords_134
        ·
          have c_2 := mt (zle (x := iZ 125) (y := iZ v3_14) rfl rfl ⟨by omega, by omega⟩ ⟨by omega, by omega⟩).mpr c_2
          have h25 : v2_14 < 25 := by rcases Int.lt_or_eq_of_le hn14.2.1 with h9 | h9; exact h9; have h8 := hn14.2.2; rw [h9, kS25] at h8; omega
          obtain ⟨ka1, ka2, ka3, ka4, ka5, ka6, ka7, ka8⟩ := kk_a ⟨hn14.1, h25⟩
          refine lv_iload_n hx hb dX12_inWords_22 rfl (lv_at hl 0 rfl) ?_
          refine lv_istore (lv' := [(4, .int (iZ v3_14)), (3, .int (iZ v3_14)), (2, .int (iZ v2_14)), (0, .ref hm), (1, .ref sa)]) hx hb dX12_inWords_23 hl (by decide) rfl (fun ls hl => ?_)
          have HL25 : ∀ (fu : Nat) (v4_25 : Int) (H : Heap) (locs : List Loc) (ls : Array Slot), ((123) + 2 - v4_25) < (fu : Int) → ((1 ≤ v4_25 ∧ v4_25 ≤ (123) + 1)) → (v3_14 ≤ v4_25) → (v3_14 ≤ v4_25 ∧ v4_25 ≤ kE v2_14) → va_P D vwCl [(hm, .inr (12, fs)), (Mx, .inl (k 0, 900, .inl Xf))] H → va_D A [(hm, .inr (12, fs)), (Mx, .inl (k 0, 900, .inl Xf))] → va_S A s.heap H locs → lv_has ls 7 [(4, .int (iZ v4_25)), (3, .int (iZ v3_14)), (2, .int (iZ v2_14)), (0, .ref hm), (1, .ref sa)] → W p l e (rj 4 0 0) s m [.ref hm, .ref sa].toArray below meth c H locs 0 0 (MQ below (QW (σ := ((Nat → Int) × (Nat → Int64) × (Nat → Nat → Int32) × (Nat → Nat → Int64))) (fun u => some (.int (iZ (u.1 0)))) (fun u => (u.1 0) = xPm (xKw (tX Xf Msz) cu)) (fun u => [(hm, .inr (12, fs)), (Mx, .inl (k 0, 900, .inl Xf))]) D A) [.ref hm, .ref sa].toArray s 0 0 A) (F0 m 25 ls []) := by
            intro fu
            induction fu with
            | zero => intro v4_25 H locs ls hμ25 hi25 hf0_25 he25 hP hD hS hl; exact absurd hμ25 (by omega)
            | succ fu ih25 =>
              intro v4_25 H locs ls hμ25 hi25 hf0_25 he25 hP hD hS hl
              refine lv_aload_n hx hb dX12_inWords_25 rfl (lv_at hl 4 rfl) ?_
              refine lv_iload hx hb dX12_inWords_26 (lv_at hl 0 rfl) ?_
              refine W.callR (rwV (As := [.int (iZ v4_25)]) (rest := []) hx hb hml hown hts ((hSY.kept hS.2.1).narrow (fun _ h => h.elim)) (jm_charZ l sa sv v4_25 ⟨by omega, by omega⟩) ci_J0_charAt_5068e rfl qm_X12_148 ⟨Nat.le_of_ble_eq_true rfl, Nat.le_of_ble_eq_true rfl⟩ ⟨Nat.le_of_ble_eq_true rfl, Nat.le_of_ble_eq_true rfl⟩ rfl hl.1 rfl (Nat.le_of_ble_eq_true rfl) dX12_inWords_28) ?_
              have hk_h_3 := key_rg v4_25 ⟨by omega, by omega⟩
              refine W.eq (g2 := F0 m 31 ls [.int (iZ (gz keyF v4_25))]) rfl ?_
              refine lv_bipush (v := iZ 32) hx hb dX12_inWords_31 (by decide) ?_
              refine lv_icmp_eq (tgt := 42) hx hb dX12_inWords_33 (by decide) (fun c_4 => ?_) (fun c_4 => ?_)
              ·
                have c_4 := (zeq (x := iZ (gz keyF v4_25)) (y := iZ 32) rfl rfl ⟨by omega, by omega⟩ ⟨by omega, by omega⟩).mp c_4
                have hE : v4_25 = kE v2_14 := by rcases Int.lt_or_eq_of_le he25.2 with h9 | h9; have h8 := kk_b ⟨hn14.1, h25⟩ (show kS v2_14 ≤ v4_25 by omega) h9; omega; exact h9
                refine lv_iload hx hb dX12_inWords_42 (lv_at hl 0 rfl) ?_
                refine lv_iload_n hx hb dX12_inWords_44 rfl (lv_at hl 1 rfl) ?_
                refine lv_isub hx hb dX12_inWords_45 ?_
                refine lv_topi (fun x_5 ex_5 => ?_)
                obtain rfl : x_5 = iZ (v4_25 - v3_14) := ex_5.trans (iZ_sub v4_25 v3_14)
                refine lv_aload_n hx hb dX12_inWords_46 rfl (lv_at hl 3 rfl) ?_
                refine va_get (D := D) (ci := 12) (v := .int (iZ Men)) (C := RX12) (T := TX12) (N := 36) hx hb hts iX12 hown hK hP 0 rfl rfl 14 (by decide) (hts _ qf_X12_115) (fun _ h => h) f14 dX12_inWords_47 ?_
                refine lv_aload_n hx hb dX12_inWords_50 rfl (lv_at hl 3 rfl) ?_
                refine va_get (D := D) (ci := 12) (v := .int (iZ Mfr)) (C := RX12) (T := TX12) (N := 36) hx hb hts iX12 hown hK hP 0 rfl rfl 13 (by decide) (hts _ qf_X12_121) (fun _ h => h) f13 dX12_inWords_51 ?_
                refine lv_isub hx hb dX12_inWords_54 ?_
                refine lv_topi (fun x_6 ex_6 => ?_)
                obtain rfl : x_6 = iZ (Men - Mfr) := ex_6.trans (iZ_sub Men Mfr)
                refine lv_icmp_ne (tgt := 62) hx hb dX12_inWords_55 (by decide) (fun c_7 => ?_) (fun c_7 => ?_)
                ·
                  have c_7 := mt (zeq (x := iZ (v4_25 - v3_14)) (y := iZ (Men - Mfr)) rfl rfl ⟨by omega, by omega⟩ ⟨by omega, by omega⟩).mpr c_7
                  refine lv_iconst (v := iZ 0) hx hb dX12_inWords_62 (by decide) ?_
                  refine lv_istore (lv' := [(5, .int (iZ 0)), (4, .int (iZ v4_25)), (3, .int (iZ v3_14)), (2, .int (iZ v2_14)), (0, .ref hm), (1, .ref sa)]) hx hb dX12_inWords_63 hl (by decide) rfl (fun ls hl => ?_)
                  refine lv_iload_n hx hb dX12_inWords_65 rfl (lv_at hl 2 rfl) ?_
                  refine lv_istore (lv' := [(6, .int (iZ v3_14)), (5, .int (iZ 0)), (4, .int (iZ v4_25)), (3, .int (iZ v3_14)), (2, .int (iZ v2_14)), (0, .ref hm), (1, .ref sa)]) hx hb dX12_inWords_66 hl (by decide) rfl (fun ls hl => ?_)
                  have HL68 : ∀ (fu : Nat) (v5_68 : Int) (v6_68 : Int) (H : Heap) (locs : List Loc) (ls : Array Slot), ((124) + 2 - v6_68) < (fu : Int) → ((1 ≤ v6_68 ∧ v6_68 ≤ (124) + 1)) → (v3_14 ≤ v6_68) → (0 ≤ v5_68 ∧ v5_68 ≤ 1) → ((v5_68 = 1 → kE v2_14 - kS v2_14 = Men - Mfr ∧ ∀ j : Int, kS v2_14 ≤ j → j < v6_68 → gz keyF j = tX Xf Msz (Mfr + (j - kS v2_14))) ∧ (v5_68 = 0 → ¬ xMt (tX Xf Msz) Mfr Men v2_14)) → va_P D vwCl [(hm, .inr (12, fs)), (Mx, .inl (k 0, 900, .inl Xf))] H → va_D A [(hm, .inr (12, fs)), (Mx, .inl (k 0, 900, .inl Xf))] → va_S A s.heap H locs → lv_has ls 7 [(6, .int (iZ v6_68)), (5, .int (iZ v5_68)), (4, .int (iZ v4_25)), (3, .int (iZ v3_14)), (2, .int (iZ v2_14)), (0, .ref hm), (1, .ref sa)] → W p l e (rj 4 0 0) s m [.ref hm, .ref sa].toArray below meth c H locs 0 0 (MQ below (QW (σ := ((Nat → Int) × (Nat → Int64) × (Nat → Nat → Int32) × (Nat → Nat → Int64))) (fun u => some (.int (iZ (u.1 0)))) (fun u => (u.1 0) = xPm (xKw (tX Xf Msz) cu)) (fun u => [(hm, .inr (12, fs)), (Mx, .inl (k 0, 900, .inl Xf))]) D A) [.ref hm, .ref sa].toArray s 0 0 A) (F0 m 68 ls []) := by
                    intro fu
                    induction fu with
                    | zero => intro v5_68 v6_68 H locs ls hμ68 hi68 hf0_68 hf1_68 hl68 hP hD hS hl; exact absurd hμ68 (by omega)
                    | succ fu ih68 =>
                      intro v5_68 v6_68 H locs ls hμ68 hi68 hf0_68 hf1_68 hl68 hP hD hS hl
                      refine lv_iload hx hb dX12_inWords_68 (lv_at hl 0 rfl) ?_
                      refine lv_iload hx hb dX12_inWords_70 (lv_at hl 2 rfl) ?_
                      refine lv_icmp_ge (tgt := 115) hx hb dX12_inWords_72 (by decide) (fun c_8 => ?_) (fun c_8 => ?_)
                      ·
                        have c_8 := (zle (x := iZ v4_25) (y := iZ v6_68) rfl rfl ⟨by omega, by omega⟩ ⟨by omega, by omega⟩).mp c_8
                        refine lv_iload hx hb dX12_inWords_115 (lv_at hl 1 rfl) ?_
                        refine lv_if_eq (tgt := 122) hx hb dX12_inWords_117 (by decide) (fun c_9 => ?_) (fun c_9 => ?_)
                        ·
                          have c_9 := (zeq (x := iZ v5_68) (y := iZ 0) rfl rfl ⟨by omega, by omega⟩ ⟨by omega, by omega⟩).mp c_9
                          refine lv_iinc (v := iZ (v2_14 + 1)) (lv' := [(2, .int (iZ (v2_14 + 1))), (6, .int (iZ v6_68)), (5, .int (iZ v5_68)), (4, .int (iZ v4_25)), (3, .int (iZ v3_14)), (0, .ref hm), (1, .ref sa)]) hx hb dX12_inWords_122 hl (k := 4) rfl (iZ_add v2_14 1) (by decide) rfl (fun ls hl => ?_)
                          refine lv_iload hx hb dX12_inWords_125 (lv_at hl 3 rfl) ?_
                          refine lv_iconst (v := iZ 1) hx hb dX12_inWords_127 (by decide) ?_
                          refine lv_iadd hx hb dX12_inWords_128 ?_
                          refine lv_topi (fun x_10 ex_10 => ?_)
                          obtain rfl : x_10 = iZ (v4_25 + 1) := ex_10.trans (iZ_add v4_25 1)
                          refine lv_istore_n (lv' := [(3, .int (iZ (v4_25 + 1))), (2, .int (iZ (v2_14 + 1))), (6, .int (iZ v6_68)), (5, .int (iZ v5_68)), (4, .int (iZ v4_25)), (0, .ref hm), (1, .ref sa)]) hx hb dX12_inWords_129 rfl hl (by decide) rfl (fun ls hl => ?_)
                          refine lv_goto (tgt := 14) hx hb dX12_inWords_130 (by decide) ?_
                          exact ih14  (v2_14 + 1) (v4_25 + 1) _ _ _ (by omega) (show (1 ≤ (v4_25 + 1) ∧ (v4_25 + 1) ≤ (124) + 1) from ⟨by omega, by omega⟩) (show 0 ≤ (v2_14 + 1) ∧ (v2_14 + 1) ≤ 25 ∧ (v4_25 + 1) = kS (v2_14 + 1) from ⟨by omega, by omega, by rw [ka5]; omega⟩) (show ∀ w : Int, 0 ≤ w → w < (v2_14 + 1) → ¬ xMt (tX Xf Msz) Mfr Men w from (fun w h1 h2 => by rcases Int.lt_or_eq_of_le (show w ≤ v2_14 by omega) with h3 | h3; exact hm14 w h1 h3; rw [h3]; exact hl68.2 (by omega))) (hP.sub [0, 1] rfl) (hD.sub [0, 1] rfl rfl) hS (lv_sub hl [0, 1, 5, 6] rfl)
                        ·
                          have c_9 := mt (zeq (x := iZ v5_68) (y := iZ 0) rfl rfl ⟨by omega, by omega⟩ ⟨by omega, by omega⟩).mpr c_9
                          refine lv_iload_n hx hb dX12_inWords_120 rfl (lv_at hl 4 rfl) ?_
                          have hmt : xMt (tX Xf Msz) Mfr Men v2_14 := ⟨(hl68.1 (by omega)).1, fun i hi => by have h9 := (hl68.1 (by omega)).2 (kS v2_14 + i) (by omega) (by have := (hl68.1 (by omega)).1; omega); rw [show Mfr + (kS v2_14 + (i : Int) - kS v2_14) = Mfr + (i : Int) by omega] at h9; exact h9⟩
                          rw [hfr, hen] at hmt
                          exact EWi hx hb hr hlocks hS (fun i => [v2_14].getD i 0, fun i => [0].getD i 0, fun i => [].getD i (fun _ => 0), fun i => [].getD i (fun _ => 0)) rfl (show v2_14 = xPm (xKw (tX Xf Msz) cu) from (xMt_kw ⟨by omega, by omega⟩ (by omega) (by omega) hmt).symm) (hP.sub [0, 1] rfl) (hD.sub [0, 1] rfl rfl) dX12_inWords_121
                      ·
                        have c_8 := mt (zle (x := iZ v4_25) (y := iZ v6_68) rfl rfl ⟨by omega, by omega⟩ ⟨by omega, by omega⟩).mpr c_8
                        refine lv_iload hx hb dX12_inWords_75 (lv_at hl 1 rfl) ?_
                        refine lv_if_eq (tgt := 115) hx hb dX12_inWords_77 (by decide) (fun c_11 => ?_) (fun c_11 => ?_)
                        ·
                          have c_11 := (zeq (x := iZ v5_68) (y := iZ 0) rfl rfl ⟨by omega, by omega⟩ ⟨by omega, by omega⟩).mp c_11
                          refine lv_iload hx hb dX12_inWords_115 (lv_at hl 1 rfl) ?_
                          refine lv_if_eq (tgt := 122) hx hb dX12_inWords_117 (by decide) (fun c_12 => ?_) (fun c_12 => ?_)
                          ·
                            have c_12 := (zeq (x := iZ v5_68) (y := iZ 0) rfl rfl ⟨by omega, by omega⟩ ⟨by omega, by omega⟩).mp c_12
                            refine lv_iinc (v := iZ (v2_14 + 1)) (lv' := [(2, .int (iZ (v2_14 + 1))), (6, .int (iZ v6_68)), (5, .int (iZ v5_68)), (4, .int (iZ v4_25)), (3, .int (iZ v3_14)), (0, .ref hm), (1, .ref sa)]) hx hb dX12_inWords_122 hl (k := 4) rfl (iZ_add v2_14 1) (by decide) rfl (fun ls hl => ?_)
                            refine lv_iload hx hb dX12_inWords_125 (lv_at hl 3 rfl) ?_
                            refine lv_iconst (v := iZ 1) hx hb dX12_inWords_127 (by decide) ?_
                            refine lv_iadd hx hb dX12_inWords_128 ?_
                            refine lv_topi (fun x_13 ex_13 => ?_)
                            obtain rfl : x_13 = iZ (v4_25 + 1) := ex_13.trans (iZ_add v4_25 1)
                            refine lv_istore_n (lv' := [(3, .int (iZ (v4_25 + 1))), (2, .int (iZ (v2_14 + 1))), (6, .int (iZ v6_68)), (5, .int (iZ v5_68)), (4, .int (iZ v4_25)), (0, .ref hm), (1, .ref sa)]) hx hb dX12_inWords_129 rfl hl (by decide) rfl (fun ls hl => ?_)
                            refine lv_goto (tgt := 14) hx hb dX12_inWords_130 (by decide) ?_
                            exact ih14  (v2_14 + 1) (v4_25 + 1) _ _ _ (by omega) (show (1 ≤ (v4_25 + 1) ∧ (v4_25 + 1) ≤ (124) + 1) from ⟨by omega, by omega⟩) (show 0 ≤ (v2_14 + 1) ∧ (v2_14 + 1) ≤ 25 ∧ (v4_25 + 1) = kS (v2_14 + 1) from ⟨by omega, by omega, by rw [ka5]; omega⟩) (show ∀ w : Int, 0 ≤ w → w < (v2_14 + 1) → ¬ xMt (tX Xf Msz) Mfr Men w from (fun w h1 h2 => by rcases Int.lt_or_eq_of_le (show w ≤ v2_14 by omega) with h3 | h3; exact hm14 w h1 h3; rw [h3]; exact hl68.2 (by omega))) (hP.sub [0, 1] rfl) (hD.sub [0, 1] rfl rfl) hS (lv_sub hl [0, 1, 5, 6] rfl)
                          ·
                            have c_12 := mt (zeq (x := iZ v5_68) (y := iZ 0) rfl rfl ⟨by omega, by omega⟩ ⟨by omega, by omega⟩).mpr c_12
                            exact absurd c_12 (by omega)
                        ·
                          have c_11 := mt (zeq (x := iZ v5_68) (y := iZ 0) rfl rfl ⟨by omega, by omega⟩ ⟨by omega, by omega⟩).mpr c_11
                          refine lv_aload_n hx hb dX12_inWords_80 rfl (lv_at hl 6 rfl) ?_
                          refine lv_iload hx hb dX12_inWords_81 (lv_at hl 0 rfl) ?_
                          refine W.callR (rwV (As := [.int (iZ v6_68)]) (rest := []) hx hb hml hown hts ((hSY.kept hS.2.1).narrow (fun _ h => h.elim)) (jm_charZ l sa sv v6_68 ⟨by omega, by omega⟩) ci_J0_charAt_5068e rfl qm_X12_148 ⟨Nat.le_of_ble_eq_true rfl, Nat.le_of_ble_eq_true rfl⟩ ⟨Nat.le_of_ble_eq_true rfl, Nat.le_of_ble_eq_true rfl⟩ rfl hl.1 rfl (Nat.le_of_ble_eq_true rfl) dX12_inWords_83) ?_
                          have hk_h_14 := key_rg v6_68 ⟨by omega, by omega⟩
                          refine W.eq (g2 := F0 m 86 ls [.int (iZ (gz keyF v6_68))]) rfl ?_
                          refine lv_aload_n hx hb dX12_inWords_86 rfl (lv_at hl 5 rfl) ?_
                          refine lv_aload_n hx hb dX12_inWords_87 rfl (lv_at hl 5 rfl) ?_
                          refine va_get (D := D) (ci := 12) (v := .int (iZ Mfr)) (C := RX12) (T := TX12) (N := 36) hx hb hts iX12 hown hK hP 0 rfl rfl 13 (by decide) (hts _ qf_X12_121) (fun _ h => h) f13 dX12_inWords_88 ?_
                          refine lv_iload hx hb dX12_inWords_91 (lv_at hl 0 rfl) ?_
                          refine lv_iadd hx hb dX12_inWords_93 ?_
                          refine lv_topi (fun x_15 ex_15 => ?_)
                          obtain rfl : x_15 = iZ (Mfr + v6_68) := ex_15.trans (iZ_add Mfr v6_68)
                          refine lv_iload_n hx hb dX12_inWords_94 rfl (lv_at hl 3 rfl) ?_
                          refine lv_isub hx hb dX12_inWords_95 ?_
                          refine lv_topi (fun x_16 ex_16 => ?_)
                          obtain rfl : x_16 = iZ ((Mfr + v6_68) - v3_14) := ex_16.trans (iZ_sub (Mfr + v6_68) v3_14)
                          refine CRV (As := [.int (iZ ((Mfr + v6_68) - v3_14))]) (rest := [.int (iZ (gz keyF v6_68))]) hx hb hml hown hts hKK hP (y_byteAt l D k fs hm Mx Msz Xf ((Mfr + v6_68) - v3_14) f9 f11 ⟨by omega, by omega⟩ ⟨by omega, by omega⟩) ci_X12_byteAt qm_X12_118 ⟨Nat.le_of_ble_eq_true rfl, Nat.le_of_ble_eq_true rfl⟩ ⟨Nat.le_of_ble_eq_true rfl, Nat.le_of_ble_eq_true rfl⟩ 0 rfl rfl rfl hl.1 rfl (Nat.le_of_ble_eq_true rfl) dX12_inWords_96 ?_
                          have hb_h_17 := tX_rg Xf Msz ((Mfr + v6_68) - v3_14) (by omega)
                          refine lv_icmp_ne (tgt := 106) hx hb dX12_inWords_99 (by decide) (fun c_18 => ?_) (fun c_18 => ?_)
                          ·
                            have c_18 := mt (zeq (x := iZ (gz keyF v6_68)) (y := iZ (tX Xf Msz ((Mfr + v6_68) - v3_14))) rfl rfl ⟨by omega, by omega⟩ ⟨by omega, by omega⟩).mpr c_18
                            refine lv_iconst (v := iZ 0) hx hb dX12_inWords_106 (by decide) ?_
                            refine lv_istore (lv' := [(5, .int (iZ 0)), (6, .int (iZ v6_68)), (4, .int (iZ v4_25)), (3, .int (iZ v3_14)), (2, .int (iZ v2_14)), (0, .ref hm), (1, .ref sa)]) hx hb dX12_inWords_107 hl (by decide) rfl (fun ls hl => ?_)
                            refine lv_iinc (v := iZ (v6_68 + 1)) (lv' := [(6, .int (iZ (v6_68 + 1))), (5, .int (iZ 0)), (4, .int (iZ v4_25)), (3, .int (iZ v3_14)), (2, .int (iZ v2_14)), (0, .ref hm), (1, .ref sa)]) hx hb dX12_inWords_109 hl (k := 1) rfl (iZ_add v6_68 1) (by decide) rfl (fun ls hl => ?_)
                            refine lv_goto (tgt := 68) hx hb dX12_inWords_112 (by decide) ?_
                            exact ih68  0 (v6_68 + 1) _ _ _ (by omega) (show (1 ≤ (v6_68 + 1) ∧ (v6_68 + 1) ≤ (124) + 1) from ⟨by omega, by omega⟩) (show v3_14 ≤ (v6_68 + 1) from (by omega)) (show 0 ≤ 0 ∧ 0 ≤ 1 from (by omega)) (show (0 = 1 → kE v2_14 - kS v2_14 = Men - Mfr ∧ ∀ j : Int, kS v2_14 ≤ j → j < (v6_68 + 1) → gz keyF j = tX Xf Msz (Mfr + (j - kS v2_14))) ∧ (0 = 0 → ¬ xMt (tX Xf Msz) Mfr Men v2_14) from ⟨fun h => absurd (show (0 : Int) = 1 from h) (by decide), fun _ h => by have h9 := h.2 (v6_68 - kS v2_14).toNat (by have := (hl68.1 (by omega)).1; omega); rw [show kS v2_14 + ((v6_68 - kS v2_14).toNat : Int) = v6_68 by omega, show Mfr + ((v6_68 - kS v2_14).toNat : Int) = (Mfr + v6_68) - v3_14 by omega] at h9; omega⟩) (hP.sub [0, 1] rfl) (hD.sub [0, 1] rfl rfl) hS (lv_sub hl [0, 1, 2, 3, 4, 5, 6] rfl)
                          ·
                            have c_18 := (zeq (x := iZ (gz keyF v6_68)) (y := iZ (tX Xf Msz ((Mfr + v6_68) - v3_14))) rfl rfl ⟨by omega, by omega⟩ ⟨by omega, by omega⟩).mp c_18
                            refine lv_iconst (v := iZ 1) hx hb dX12_inWords_102 (by decide) ?_
                            refine lv_goto (tgt := 107) hx hb dX12_inWords_103 (by decide) ?_
                            refine lv_istore (lv' := [(5, .int (iZ 1)), (6, .int (iZ v6_68)), (4, .int (iZ v4_25)), (3, .int (iZ v3_14)), (2, .int (iZ v2_14)), (0, .ref hm), (1, .ref sa)]) hx hb dX12_inWords_107 hl (by decide) rfl (fun ls hl => ?_)
                            refine lv_iinc (v := iZ (v6_68 + 1)) (lv' := [(6, .int (iZ (v6_68 + 1))), (5, .int (iZ 1)), (4, .int (iZ v4_25)), (3, .int (iZ v3_14)), (2, .int (iZ v2_14)), (0, .ref hm), (1, .ref sa)]) hx hb dX12_inWords_109 hl (k := 1) rfl (iZ_add v6_68 1) (by decide) rfl (fun ls hl => ?_)
                            refine lv_goto (tgt := 68) hx hb dX12_inWords_112 (by decide) ?_
                            exact ih68  1 (v6_68 + 1) _ _ _ (by omega) (show (1 ≤ (v6_68 + 1) ∧ (v6_68 + 1) ≤ (124) + 1) from ⟨by omega, by omega⟩) (show v3_14 ≤ (v6_68 + 1) from (by omega)) (show 0 ≤ 1 ∧ 1 ≤ 1 from (by omega)) (show (1 = 1 → kE v2_14 - kS v2_14 = Men - Mfr ∧ ∀ j : Int, kS v2_14 ≤ j → j < (v6_68 + 1) → gz keyF j = tX Xf Msz (Mfr + (j - kS v2_14))) ∧ (1 = 0 → ¬ xMt (tX Xf Msz) Mfr Men v2_14) from ⟨fun _ => ⟨(hl68.1 (by omega)).1, fun j h1 h2 => by rcases Int.lt_or_eq_of_le (show j ≤ v6_68 by omega) with h3 | h3; exact (hl68.1 (by omega)).2 j h1 h3; rw [h3, show Mfr + (v6_68 - kS v2_14) = (Mfr + v6_68) - v3_14 by omega]; omega⟩, fun h => absurd (show (1 : Int) = 0 from h) (by decide)⟩) (hP.sub [0, 1] rfl) (hD.sub [0, 1] rfl rfl) hS (lv_sub hl [0, 1, 2, 3, 4, 5, 6] rfl)
                  exact HL68 130 0 v3_14 _ _ _ (by omega) (show (1 ≤ v3_14 ∧ v3_14 ≤ (124) + 1) from ⟨by omega, by omega⟩) (show v3_14 ≤ v3_14 from (by omega)) (show 0 ≤ 0 ∧ 0 ≤ 1 from (by omega)) (show (0 = 1 → kE v2_14 - kS v2_14 = Men - Mfr ∧ ∀ j : Int, kS v2_14 ≤ j → j < v3_14 → gz keyF j = tX Xf Msz (Mfr + (j - kS v2_14))) ∧ (0 = 0 → ¬ xMt (tX Xf Msz) Mfr Men v2_14) from ⟨fun h => absurd (show (0 : Int) = 1 from h) (by decide), fun _ h => absurd h.1 (by omega)⟩) (hP.sub [0, 1] rfl) (hD.sub [0, 1] rfl rfl) hS (lv_sub hl [0, 1, 2, 3, 4, 5, 6] rfl)
                ·
                  have c_7 := (zeq (x := iZ (v4_25 - v3_14)) (y := iZ (Men - Mfr)) rfl rfl ⟨by omega, by omega⟩ ⟨by omega, by omega⟩).mp c_7
                  refine lv_iconst (v := iZ 1) hx hb dX12_inWords_58 (by decide) ?_
                  refine lv_goto (tgt := 63) hx hb dX12_inWords_59 (by decide) ?_
                  refine lv_istore (lv' := [(5, .int (iZ 1)), (4, .int (iZ v4_25)), (3, .int (iZ v3_14)), (2, .int (iZ v2_14)), (0, .ref hm), (1, .ref sa)]) hx hb dX12_inWords_63 hl (by decide) rfl (fun ls hl => ?_)
                  refine lv_iload_n hx hb dX12_inWords_65 rfl (lv_at hl 2 rfl) ?_
                  refine lv_istore (lv' := [(6, .int (iZ v3_14)), (5, .int (iZ 1)), (4, .int (iZ v4_25)), (3, .int (iZ v3_14)), (2, .int (iZ v2_14)), (0, .ref hm), (1, .ref sa)]) hx hb dX12_inWords_66 hl (by decide) rfl (fun ls hl => ?_)
                  have HL68 : ∀ (fu : Nat) (v5_68 : Int) (v6_68 : Int) (H : Heap) (locs : List Loc) (ls : Array Slot), ((124) + 2 - v6_68) < (fu : Int) → ((1 ≤ v6_68 ∧ v6_68 ≤ (124) + 1)) → (v3_14 ≤ v6_68) → (0 ≤ v5_68 ∧ v5_68 ≤ 1) → ((v5_68 = 1 → kE v2_14 - kS v2_14 = Men - Mfr ∧ ∀ j : Int, kS v2_14 ≤ j → j < v6_68 → gz keyF j = tX Xf Msz (Mfr + (j - kS v2_14))) ∧ (v5_68 = 0 → ¬ xMt (tX Xf Msz) Mfr Men v2_14)) → va_P D vwCl [(hm, .inr (12, fs)), (Mx, .inl (k 0, 900, .inl Xf))] H → va_D A [(hm, .inr (12, fs)), (Mx, .inl (k 0, 900, .inl Xf))] → va_S A s.heap H locs → lv_has ls 7 [(6, .int (iZ v6_68)), (5, .int (iZ v5_68)), (4, .int (iZ v4_25)), (3, .int (iZ v3_14)), (2, .int (iZ v2_14)), (0, .ref hm), (1, .ref sa)] → W p l e (rj 4 0 0) s m [.ref hm, .ref sa].toArray below meth c H locs 0 0 (MQ below (QW (σ := ((Nat → Int) × (Nat → Int64) × (Nat → Nat → Int32) × (Nat → Nat → Int64))) (fun u => some (.int (iZ (u.1 0)))) (fun u => (u.1 0) = xPm (xKw (tX Xf Msz) cu)) (fun u => [(hm, .inr (12, fs)), (Mx, .inl (k 0, 900, .inl Xf))]) D A) [.ref hm, .ref sa].toArray s 0 0 A) (F0 m 68 ls []) := by
                    intro fu
                    induction fu with
                    | zero => intro v5_68 v6_68 H locs ls hμ68 hi68 hf0_68 hf1_68 hl68 hP hD hS hl; exact absurd hμ68 (by omega)
                    | succ fu ih68 =>
                      intro v5_68 v6_68 H locs ls hμ68 hi68 hf0_68 hf1_68 hl68 hP hD hS hl
                      refine lv_iload hx hb dX12_inWords_68 (lv_at hl 0 rfl) ?_
                      refine lv_iload hx hb dX12_inWords_70 (lv_at hl 2 rfl) ?_
                      refine lv_icmp_ge (tgt := 115) hx hb dX12_inWords_72 (by decide) (fun c_19 => ?_) (fun c_19 => ?_)
                      ·
                        have c_19 := (zle (x := iZ v4_25) (y := iZ v6_68) rfl rfl ⟨by omega, by omega⟩ ⟨by omega, by omega⟩).mp c_19
                        refine lv_iload hx hb dX12_inWords_115 (lv_at hl 1 rfl) ?_
                        refine lv_if_eq (tgt := 122) hx hb dX12_inWords_117 (by decide) (fun c_20 => ?_) (fun c_20 => ?_)
                        ·
                          have c_20 := (zeq (x := iZ v5_68) (y := iZ 0) rfl rfl ⟨by omega, by omega⟩ ⟨by omega, by omega⟩).mp c_20
                          refine lv_iinc (v := iZ (v2_14 + 1)) (lv' := [(2, .int (iZ (v2_14 + 1))), (6, .int (iZ v6_68)), (5, .int (iZ v5_68)), (4, .int (iZ v4_25)), (3, .int (iZ v3_14)), (0, .ref hm), (1, .ref sa)]) hx hb dX12_inWords_122 hl (k := 4) rfl (iZ_add v2_14 1) (by decide) rfl (fun ls hl => ?_)
                          refine lv_iload hx hb dX12_inWords_125 (lv_at hl 3 rfl) ?_
                          refine lv_iconst (v := iZ 1) hx hb dX12_inWords_127 (by decide) ?_
                          refine lv_iadd hx hb dX12_inWords_128 ?_
                          refine lv_topi (fun x_21 ex_21 => ?_)
                          obtain rfl : x_21 = iZ (v4_25 + 1) := ex_21.trans (iZ_add v4_25 1)
                          refine lv_istore_n (lv' := [(3, .int (iZ (v4_25 + 1))), (2, .int (iZ (v2_14 + 1))), (6, .int (iZ v6_68)), (5, .int (iZ v5_68)), (4, .int (iZ v4_25)), (0, .ref hm), (1, .ref sa)]) hx hb dX12_inWords_129 rfl hl (by decide) rfl (fun ls hl => ?_)
                          refine lv_goto (tgt := 14) hx hb dX12_inWords_130 (by decide) ?_
                          exact ih14  (v2_14 + 1) (v4_25 + 1) _ _ _ (by omega) (show (1 ≤ (v4_25 + 1) ∧ (v4_25 + 1) ≤ (124) + 1) from ⟨by omega, by omega⟩) (show 0 ≤ (v2_14 + 1) ∧ (v2_14 + 1) ≤ 25 ∧ (v4_25 + 1) = kS (v2_14 + 1) from ⟨by omega, by omega, by rw [ka5]; omega⟩) (show ∀ w : Int, 0 ≤ w → w < (v2_14 + 1) → ¬ xMt (tX Xf Msz) Mfr Men w from (fun w h1 h2 => by rcases Int.lt_or_eq_of_le (show w ≤ v2_14 by omega) with h3 | h3; exact hm14 w h1 h3; rw [h3]; exact hl68.2 (by omega))) (hP.sub [0, 1] rfl) (hD.sub [0, 1] rfl rfl) hS (lv_sub hl [0, 1, 5, 6] rfl)
                        ·
                          have c_20 := mt (zeq (x := iZ v5_68) (y := iZ 0) rfl rfl ⟨by omega, by omega⟩ ⟨by omega, by omega⟩).mpr c_20
                          refine lv_iload_n hx hb dX12_inWords_120 rfl (lv_at hl 4 rfl) ?_
                          have hmt : xMt (tX Xf Msz) Mfr Men v2_14 := ⟨(hl68.1 (by omega)).1, fun i hi => by have h9 := (hl68.1 (by omega)).2 (kS v2_14 + i) (by omega) (by have := (hl68.1 (by omega)).1; omega); rw [show Mfr + (kS v2_14 + (i : Int) - kS v2_14) = Mfr + (i : Int) by omega] at h9; exact h9⟩
                          rw [hfr, hen] at hmt
                          exact EWi hx hb hr hlocks hS (fun i => [v2_14].getD i 0, fun i => [0].getD i 0, fun i => [].getD i (fun _ => 0), fun i => [].getD i (fun _ => 0)) rfl (show v2_14 = xPm (xKw (tX Xf Msz) cu) from (xMt_kw ⟨by omega, by omega⟩ (by omega) (by omega) hmt).symm) (hP.sub [0, 1] rfl) (hD.sub [0, 1] rfl rfl) dX12_inWords_121
                      ·
                        have c_19 := mt (zle (x := iZ v4_25) (y := iZ v6_68) rfl rfl ⟨by omega, by omega⟩ ⟨by omega, by omega⟩).mpr c_19
                        refine lv_iload hx hb dX12_inWords_75 (lv_at hl 1 rfl) ?_
                        refine lv_if_eq (tgt := 115) hx hb dX12_inWords_77 (by decide) (fun c_22 => ?_) (fun c_22 => ?_)
                        ·
                          have c_22 := (zeq (x := iZ v5_68) (y := iZ 0) rfl rfl ⟨by omega, by omega⟩ ⟨by omega, by omega⟩).mp c_22
                          refine lv_iload hx hb dX12_inWords_115 (lv_at hl 1 rfl) ?_
                          refine lv_if_eq (tgt := 122) hx hb dX12_inWords_117 (by decide) (fun c_23 => ?_) (fun c_23 => ?_)
                          ·
                            have c_23 := (zeq (x := iZ v5_68) (y := iZ 0) rfl rfl ⟨by omega, by omega⟩ ⟨by omega, by omega⟩).mp c_23
                            refine lv_iinc (v := iZ (v2_14 + 1)) (lv' := [(2, .int (iZ (v2_14 + 1))), (6, .int (iZ v6_68)), (5, .int (iZ v5_68)), (4, .int (iZ v4_25)), (3, .int (iZ v3_14)), (0, .ref hm), (1, .ref sa)]) hx hb dX12_inWords_122 hl (k := 4) rfl (iZ_add v2_14 1) (by decide) rfl (fun ls hl => ?_)
                            refine lv_iload hx hb dX12_inWords_125 (lv_at hl 3 rfl) ?_
                            refine lv_iconst (v := iZ 1) hx hb dX12_inWords_127 (by decide) ?_
                            refine lv_iadd hx hb dX12_inWords_128 ?_
                            refine lv_topi (fun x_24 ex_24 => ?_)
                            obtain rfl : x_24 = iZ (v4_25 + 1) := ex_24.trans (iZ_add v4_25 1)
                            refine lv_istore_n (lv' := [(3, .int (iZ (v4_25 + 1))), (2, .int (iZ (v2_14 + 1))), (6, .int (iZ v6_68)), (5, .int (iZ v5_68)), (4, .int (iZ v4_25)), (0, .ref hm), (1, .ref sa)]) hx hb dX12_inWords_129 rfl hl (by decide) rfl (fun ls hl => ?_)
                            refine lv_goto (tgt := 14) hx hb dX12_inWords_130 (by decide) ?_
                            exact ih14  (v2_14 + 1) (v4_25 + 1) _ _ _ (by omega) (show (1 ≤ (v4_25 + 1) ∧ (v4_25 + 1) ≤ (124) + 1) from ⟨by omega, by omega⟩) (show 0 ≤ (v2_14 + 1) ∧ (v2_14 + 1) ≤ 25 ∧ (v4_25 + 1) = kS (v2_14 + 1) from ⟨by omega, by omega, by rw [ka5]; omega⟩) (show ∀ w : Int, 0 ≤ w → w < (v2_14 + 1) → ¬ xMt (tX Xf Msz) Mfr Men w from (fun w h1 h2 => by rcases Int.lt_or_eq_of_le (show w ≤ v2_14 by omega) with h3 | h3; exact hm14 w h1 h3; rw [h3]; exact hl68.2 (by omega))) (hP.sub [0, 1] rfl) (hD.sub [0, 1] rfl rfl) hS (lv_sub hl [0, 1, 5, 6] rfl)
                          ·
                            have c_23 := mt (zeq (x := iZ v5_68) (y := iZ 0) rfl rfl ⟨by omega, by omega⟩ ⟨by omega, by omega⟩).mpr c_23
                            exact absurd c_23 (by omega)
                        ·
                          have c_22 := mt (zeq (x := iZ v5_68) (y := iZ 0) rfl rfl ⟨by omega, by omega⟩ ⟨by omega, by omega⟩).mpr c_22
                          refine lv_aload_n hx hb dX12_inWords_80 rfl (lv_at hl 6 rfl) ?_
                          refine lv_iload hx hb dX12_inWords_81 (lv_at hl 0 rfl) ?_
                          refine W.callR (rwV (As := [.int (iZ v6_68)]) (rest := []) hx hb hml hown hts ((hSY.kept hS.2.1).narrow (fun _ h => h.elim)) (jm_charZ l sa sv v6_68 ⟨by omega, by omega⟩) ci_J0_charAt_5068e rfl qm_X12_148 ⟨Nat.le_of_ble_eq_true rfl, Nat.le_of_ble_eq_true rfl⟩ ⟨Nat.le_of_ble_eq_true rfl, Nat.le_of_ble_eq_true rfl⟩ rfl hl.1 rfl (Nat.le_of_ble_eq_true rfl) dX12_inWords_83) ?_
                          have hk_h_25 := key_rg v6_68 ⟨by omega, by omega⟩
                          refine W.eq (g2 := F0 m 86 ls [.int (iZ (gz keyF v6_68))]) rfl ?_
                          refine lv_aload_n hx hb dX12_inWords_86 rfl (lv_at hl 5 rfl) ?_
                          refine lv_aload_n hx hb dX12_inWords_87 rfl (lv_at hl 5 rfl) ?_
                          refine va_get (D := D) (ci := 12) (v := .int (iZ Mfr)) (C := RX12) (T := TX12) (N := 36) hx hb hts iX12 hown hK hP 0 rfl rfl 13 (by decide) (hts _ qf_X12_121) (fun _ h => h) f13 dX12_inWords_88 ?_
                          refine lv_iload hx hb dX12_inWords_91 (lv_at hl 0 rfl) ?_
                          refine lv_iadd hx hb dX12_inWords_93 ?_
                          refine lv_topi (fun x_26 ex_26 => ?_)
                          obtain rfl : x_26 = iZ (Mfr + v6_68) := ex_26.trans (iZ_add Mfr v6_68)
                          refine lv_iload_n hx hb dX12_inWords_94 rfl (lv_at hl 3 rfl) ?_
                          refine lv_isub hx hb dX12_inWords_95 ?_
                          refine lv_topi (fun x_27 ex_27 => ?_)
                          obtain rfl : x_27 = iZ ((Mfr + v6_68) - v3_14) := ex_27.trans (iZ_sub (Mfr + v6_68) v3_14)
                          refine CRV (As := [.int (iZ ((Mfr + v6_68) - v3_14))]) (rest := [.int (iZ (gz keyF v6_68))]) hx hb hml hown hts hKK hP (y_byteAt l D k fs hm Mx Msz Xf ((Mfr + v6_68) - v3_14) f9 f11 ⟨by omega, by omega⟩ ⟨by omega, by omega⟩) ci_X12_byteAt qm_X12_118 ⟨Nat.le_of_ble_eq_true rfl, Nat.le_of_ble_eq_true rfl⟩ ⟨Nat.le_of_ble_eq_true rfl, Nat.le_of_ble_eq_true rfl⟩ 0 rfl rfl rfl hl.1 rfl (Nat.le_of_ble_eq_true rfl) dX12_inWords_96 ?_
                          have hb_h_28 := tX_rg Xf Msz ((Mfr + v6_68) - v3_14) (by omega)
                          refine lv_icmp_ne (tgt := 106) hx hb dX12_inWords_99 (by decide) (fun c_29 => ?_) (fun c_29 => ?_)
                          ·
                            have c_29 := mt (zeq (x := iZ (gz keyF v6_68)) (y := iZ (tX Xf Msz ((Mfr + v6_68) - v3_14))) rfl rfl ⟨by omega, by omega⟩ ⟨by omega, by omega⟩).mpr c_29
                            refine lv_iconst (v := iZ 0) hx hb dX12_inWords_106 (by decide) ?_
                            refine lv_istore (lv' := [(5, .int (iZ 0)), (6, .int (iZ v6_68)), (4, .int (iZ v4_25)), (3, .int (iZ v3_14)), (2, .int (iZ v2_14)), (0, .ref hm), (1, .ref sa)]) hx hb dX12_inWords_107 hl (by decide) rfl (fun ls hl => ?_)
                            refine lv_iinc (v := iZ (v6_68 + 1)) (lv' := [(6, .int (iZ (v6_68 + 1))), (5, .int (iZ 0)), (4, .int (iZ v4_25)), (3, .int (iZ v3_14)), (2, .int (iZ v2_14)), (0, .ref hm), (1, .ref sa)]) hx hb dX12_inWords_109 hl (k := 1) rfl (iZ_add v6_68 1) (by decide) rfl (fun ls hl => ?_)
                            refine lv_goto (tgt := 68) hx hb dX12_inWords_112 (by decide) ?_
                            exact ih68  0 (v6_68 + 1) _ _ _ (by omega) (show (1 ≤ (v6_68 + 1) ∧ (v6_68 + 1) ≤ (124) + 1) from ⟨by omega, by omega⟩) (show v3_14 ≤ (v6_68 + 1) from (by omega)) (show 0 ≤ 0 ∧ 0 ≤ 1 from (by omega)) (show (0 = 1 → kE v2_14 - kS v2_14 = Men - Mfr ∧ ∀ j : Int, kS v2_14 ≤ j → j < (v6_68 + 1) → gz keyF j = tX Xf Msz (Mfr + (j - kS v2_14))) ∧ (0 = 0 → ¬ xMt (tX Xf Msz) Mfr Men v2_14) from ⟨fun h => absurd (show (0 : Int) = 1 from h) (by decide), fun _ h => by have h9 := h.2 (v6_68 - kS v2_14).toNat (by have := (hl68.1 (by omega)).1; omega); rw [show kS v2_14 + ((v6_68 - kS v2_14).toNat : Int) = v6_68 by omega, show Mfr + ((v6_68 - kS v2_14).toNat : Int) = (Mfr + v6_68) - v3_14 by omega] at h9; omega⟩) (hP.sub [0, 1] rfl) (hD.sub [0, 1] rfl rfl) hS (lv_sub hl [0, 1, 2, 3, 4, 5, 6] rfl)
                          ·
                            have c_29 := (zeq (x := iZ (gz keyF v6_68)) (y := iZ (tX Xf Msz ((Mfr + v6_68) - v3_14))) rfl rfl ⟨by omega, by omega⟩ ⟨by omega, by omega⟩).mp c_29
                            refine lv_iconst (v := iZ 1) hx hb dX12_inWords_102 (by decide) ?_
                            refine lv_goto (tgt := 107) hx hb dX12_inWords_103 (by decide) ?_
                            refine lv_istore (lv' := [(5, .int (iZ 1)), (6, .int (iZ v6_68)), (4, .int (iZ v4_25)), (3, .int (iZ v3_14)), (2, .int (iZ v2_14)), (0, .ref hm), (1, .ref sa)]) hx hb dX12_inWords_107 hl (by decide) rfl (fun ls hl => ?_)
                            refine lv_iinc (v := iZ (v6_68 + 1)) (lv' := [(6, .int (iZ (v6_68 + 1))), (5, .int (iZ 1)), (4, .int (iZ v4_25)), (3, .int (iZ v3_14)), (2, .int (iZ v2_14)), (0, .ref hm), (1, .ref sa)]) hx hb dX12_inWords_109 hl (k := 1) rfl (iZ_add v6_68 1) (by decide) rfl (fun ls hl => ?_)
                            refine lv_goto (tgt := 68) hx hb dX12_inWords_112 (by decide) ?_
                            exact ih68  1 (v6_68 + 1) _ _ _ (by omega) (show (1 ≤ (v6_68 + 1) ∧ (v6_68 + 1) ≤ (124) + 1) from ⟨by omega, by omega⟩) (show v3_14 ≤ (v6_68 + 1) from (by omega)) (show 0 ≤ 1 ∧ 1 ≤ 1 from (by omega)) (show (1 = 1 → kE v2_14 - kS v2_14 = Men - Mfr ∧ ∀ j : Int, kS v2_14 ≤ j → j < (v6_68 + 1) → gz keyF j = tX Xf Msz (Mfr + (j - kS v2_14))) ∧ (1 = 0 → ¬ xMt (tX Xf Msz) Mfr Men v2_14) from ⟨fun _ => ⟨(hl68.1 (by omega)).1, fun j h1 h2 => by rcases Int.lt_or_eq_of_le (show j ≤ v6_68 by omega) with h3 | h3; exact (hl68.1 (by omega)).2 j h1 h3; rw [h3, show Mfr + (v6_68 - kS v2_14) = (Mfr + v6_68) - v3_14 by omega]; omega⟩, fun h => absurd (show (1 : Int) = 0 from h) (by decide)⟩) (hP.sub [0, 1] rfl) (hD.sub [0, 1] rfl rfl) hS (lv_sub hl [0, 1, 2, 3, 4, 5, 6] rfl)
                  exact HL68 130 1 v3_14 _ _ _ (by omega) (show (1 ≤ v3_14 ∧ v3_14 ≤ (124) + 1) from ⟨by omega, by omega⟩) (show v3_14 ≤ v3_14 from (by omega)) (show 0 ≤ 1 ∧ 1 ≤ 1 from (by omega)) (show (1 = 1 → kE v2_14 - kS v2_14 = Men - Mfr ∧ ∀ j : Int, kS v2_14 ≤ j → j < v3_14 → gz keyF j = tX Xf Msz (Mfr + (j - kS v2_14))) ∧ (1 = 0 → ¬ xMt (tX Xf Msz) Mfr Men v2_14) from ⟨fun _ => ⟨by omega, fun j h1 h2 => absurd h1 (by omega)⟩, fun h => absurd (show (1 : Int) = 0 from h) (by decide)⟩) (hP.sub [0, 1] rfl) (hD.sub [0, 1] rfl rfl) hS (lv_sub hl [0, 1, 2, 3, 4, 5, 6] rfl)
              ·
                have c_4 := mt (zeq (x := iZ (gz keyF v4_25)) (y := iZ 32) rfl rfl ⟨by omega, by omega⟩ ⟨by omega, by omega⟩).mpr c_4
                have hla : v4_25 = kE v2_14 → gz keyF v4_25 = 32 := fun h => by rw [h]; exact ka1
                refine lv_iinc (v := iZ (v4_25 + 1)) (lv' := [(4, .int (iZ (v4_25 + 1))), (3, .int (iZ v3_14)), (2, .int (iZ v2_14)), (0, .ref hm), (1, .ref sa)]) hx hb dX12_inWords_36 hl (k := 0) rfl (iZ_add v4_25 1) (by decide) rfl (fun ls hl => ?_)
                refine lv_goto (tgt := 25) hx hb dX12_inWords_39 (by decide) ?_
                exact ih25  (v4_25 + 1) _ _ _ (by omega) (show (1 ≤ (v4_25 + 1) ∧ (v4_25 + 1) ≤ (123) + 1) from ⟨by omega, by omega⟩) (show v3_14 ≤ (v4_25 + 1) from (by omega)) (show v3_14 ≤ (v4_25 + 1) ∧ (v4_25 + 1) ≤ kE v2_14 from ⟨by omega, by omega⟩) (hP.sub [0, 1] rfl) (hD.sub [0, 1] rfl rfl) hS (lv_sub hl [0, 1, 2, 3, 4] rfl)
          exact HL25 130 v3_14 _ _ _ (by omega) (show (1 ≤ v3_14 ∧ v3_14 ≤ (123) + 1) from ⟨by omega, by omega⟩) (show v3_14 ≤ v3_14 from (by omega)) (show v3_14 ≤ v3_14 ∧ v3_14 ≤ kE v2_14 from ⟨by omega, by omega⟩) (hP.sub [0, 1] rfl) (hD.sub [0, 1] rfl rfl) hS (lv_sub hl [0, 1, 2, 3, 4] rfl)
    exact HL14 130 0 1 _ _ _ (by omega) (show (1 ≤ 1 ∧ 1 ≤ (124) + 1) from ⟨by omega, by omega⟩) (show 0 ≤ 0 ∧ 0 ≤ 25 ∧ 1 = kS 0 from ⟨by omega, by omega, rfl⟩) (show ∀ w : Int, 0 ≤ w → w < 0 → ¬ xMt (tX Xf Msz) Mfr Men w from (fun w h1 h2 => absurd h1 (by omega))) (hP.sub [0, 1] rfl) (hD.sub [0, 1] rfl rfl) hS (lv_sub hl [0, 1, 2, 3] rfl)
  ·
    have c_1 := mt (zeq (x := iZ Mtk) (y := iZ 2) rfl rfl ⟨by omega, by omega⟩ ⟨by omega, by omega⟩).mpr c_1
    refine lv_iconst (v := iZ (-1)) hx hb dX12_inWords_8 (by decide) ?_
    exact EWi hx hb hr hlocks hS (fun i => [(-1)].getD i 0, fun i => [0].getD i 0, fun i => [].getD i (fun _ => 0), fun i => [].getD i (fun _ => 0)) rfl (show (-1) = xPm (xKw (tX Xf Msz) cu) from (xMt_no (fun h => hlt (by omega)) (by omega) (fun h => absurd h (by omega))).symm) (hP.sub [0, 1] rfl) (hD.sub [0, 1] rfl rfl) dX12_inWords_9
