set_option maxHeartbeats 4000000 in
set_option maxRecDepth 100000 in
theorem m_inWords (l : Launch) (D : va_G) (k : Nat → ClassId) (sa sv : Nat) (fs : List Value) (hm : Nat) (Mx : Nat) (Msz : Int) (Mtk : Int) (Mfr : Int) (Men : Int) (Xf : Nat → Int32) (f12 : fs[12]? = some (.int (iZ Mtk))) (f13 : fs[13]? = some (.int (iZ Mfr))) (f14 : fs[14]? = some (.int (iZ Men))) (f9 : fs[9]? = some (.ref Mx)) (f11 : fs[11]? = some (.int (iZ Msz))) (hiw : ((0 ≤ Mfr ∧ Mfr ≤ Men) ∧ (Men ≤ Msz ∧ Msz ≤ 900)) ∧ (0 ≤ Mtk ∧ Mtk ≤ 4)) : SD (σ := ((Nat → Int) × (Nat → Int64) × (Nat → Nat → Int32) × (Nat → Nat → Int64))) sa sv l yX12_inWords cX12_inWords 7 (some .int) 4 D k [.ref hm, .ref sa] [(hm, .inr (12, fs)), (Mx, .inl (k 0, 900, .inl Xf))] (fun u => some (.int (iZ (u.1 0)))) (fun u => ((u.1 0) : Int) = -1 ∨ ((0 ≤ ((u.1 0) : Int) ∧ ((u.1 0) : Int) ≤ 125) ∧ Mtk = 2)) (fun u => [(hm, .inr (12, fs)), (Mx, .inl (k 0, 900, .inl Xf))]) := by
  refine MSS (by decide) (Nat.le_of_ble_eq_true rfl) (fun p e s m below meth c ls A hx hb hml hr hlocks hin hts hown hKK hP hD hS hA hSY hRR hl => ?_)
  have hK := hKK.1
  have hl : lv_has ls 7 [(0, .ref hm), (1, .ref sa)] := hl
  refine lv_aload_n hx hb dX12_inWords_0 rfl (lv_at hl 0 rfl) ?_
  refine va_get (D := D) (ci := 12) (v := .int (iZ Mtk)) (C := RX12) (T := TX12) (N := 36) hx hb hts iX12 hown hK hP 0 rfl rfl 12 (by decide) (hts _ qf_X12_127) (fun _ h => h) f12 dX12_inWords_1 ?_
  refine lv_iconst (v := iZ 2) hx hb dX12_inWords_4 (by decide) ?_
  refine lv_icmp_eq (tgt := 10) hx hb dX12_inWords_5 (by decide) (fun c_1 => ?_) (fun c_1 => ?_)
  ·
    have c_1 := (zeq (x := iZ Mtk) (y := iZ 2) rfl rfl ⟨by omega, by omega⟩ ⟨by omega, by omega⟩).mp c_1
    refine lv_iconst (v := iZ 0) hx hb dX12_inWords_10 (by decide) ?_
    refine lv_istore_n (lv' := [(2, .int (iZ 0)), (0, .ref hm), (1, .ref sa)]) hx hb dX12_inWords_11 rfl hl (by decide) rfl (fun ls hl => ?_)
    refine lv_iconst (v := iZ 1) hx hb dX12_inWords_12 (by decide) ?_
    refine lv_istore_n (lv' := [(3, .int (iZ 1)), (2, .int (iZ 0)), (0, .ref hm), (1, .ref sa)]) hx hb dX12_inWords_13 rfl hl (by decide) rfl (fun ls hl => ?_)
    have HL14 : ∀ (fu : Nat) (v2_14 : Int) (v3_14 : Int) (H : Heap) (locs : List Loc) (ls : Array Slot), ((124) + 2 - v3_14) < (fu : Int) → ((1 ≤ v3_14 ∧ v3_14 ≤ (124) + 1)) → (0 ≤ v2_14 ∧ v2_14 ≤ v3_14) → va_P D vwCl [(hm, .inr (12, fs)), (Mx, .inl (k 0, 900, .inl Xf))] H → va_D A [(hm, .inr (12, fs)), (Mx, .inl (k 0, 900, .inl Xf))] → va_S A s.heap H locs → lv_has ls 7 [(3, .int (iZ v3_14)), (2, .int (iZ v2_14)), (0, .ref hm), (1, .ref sa)] → W p l e (rj 4 0 0) s m [.ref hm, .ref sa].toArray below meth c H locs 0 0 (MQ below (QW (σ := ((Nat → Int) × (Nat → Int64) × (Nat → Nat → Int32) × (Nat → Nat → Int64))) (fun u => some (.int (iZ (u.1 0)))) (fun u => ((u.1 0) : Int) = -1 ∨ ((0 ≤ ((u.1 0) : Int) ∧ ((u.1 0) : Int) ≤ 125) ∧ Mtk = 2)) (fun u => [(hm, .inr (12, fs)), (Mx, .inl (k 0, 900, .inl Xf))]) D A) [.ref hm, .ref sa].toArray s 0 0 A) (F0 m 14 ls []) := by
      intro fu
      induction fu with
      | zero => intro v2_14 v3_14 H locs ls hμ14 hi14 hf0_14 hP hD hS hl; exact absurd hμ14 (by omega)
      | succ fu ih14 =>
        intro v2_14 v3_14 H locs ls hμ14 hi14 hf0_14 hP hD hS hl
        refine lv_iload_n hx hb dX12_inWords_14 rfl (lv_at hl 0 rfl) ?_
        refine lv_aload_n hx hb dX12_inWords_15 rfl (lv_at hl 3 rfl) ?_
        refine W.callR (rwV (As := []) (rest := [.int (iZ v3_14)]) hx hb hml hown hts ((hSY.kept hS.2.1).narrow (fun _ h => h.elim)) (jm_length l sa sv keyF) ci_J0_length_8abf5 rfl qm_X12_142 ⟨Nat.le_of_ble_eq_true rfl, Nat.le_of_ble_eq_true rfl⟩ ⟨Nat.le_of_ble_eq_true rfl, Nat.le_of_ble_eq_true rfl⟩ rfl hl.1 rfl (Nat.le_of_ble_eq_true rfl) dX12_inWords_16) ?_
        refine W.eq (g2 := F0 m 19 ls [.int (iZ 125), .int (iZ v3_14)]) rfl ?_
        refine lv_icmp_ge (tgt := 133) hx hb dX12_inWords_19 (by decide) (fun c_2 => ?_) (fun c_2 => ?_)
        ·
          have c_2 := (zle (x := iZ 125) (y := iZ v3_14) rfl rfl ⟨by omega, by omega⟩ ⟨by omega, by omega⟩).mp c_2
          refine lv_iconst (v := iZ (-1)) hx hb dX12_inWords_133 (by decide) ?_
          exact EWi hx hb hr hlocks hS (fun i => [(-1)].getD i 0, fun i => [0].getD i 0, fun i => [].getD i (fun _ => 0), fun i => [].getD i (fun _ => 0)) rfl (show ((-1) : Int) = -1 ∨ ((0 ≤ ((-1) : Int) ∧ ((-1) : Int) ≤ 125) ∧ Mtk = 2) from (by omega)) (hP.sub [0, 1] rfl) (hD.sub [0, 1] rfl rfl) dX12_inWords_134
        ·
          have c_2 := mt (zle (x := iZ 125) (y := iZ v3_14) rfl rfl ⟨by omega, by omega⟩ ⟨by omega, by omega⟩).mpr c_2
          refine lv_iload_n hx hb dX12_inWords_22 rfl (lv_at hl 0 rfl) ?_
          refine lv_istore (lv' := [(4, .int (iZ v3_14)), (3, .int (iZ v3_14)), (2, .int (iZ v2_14)), (0, .ref hm), (1, .ref sa)]) hx hb dX12_inWords_23 hl (by decide) rfl (fun ls hl => ?_)
          have HL25 : ∀ (fu : Nat) (v4_25 : Int) (H : Heap) (locs : List Loc) (ls : Array Slot), ((123) + 2 - v4_25) < (fu : Int) → ((1 ≤ v4_25 ∧ v4_25 ≤ (123) + 1)) → (v3_14 ≤ v4_25) → va_P D vwCl [(hm, .inr (12, fs)), (Mx, .inl (k 0, 900, .inl Xf))] H → va_D A [(hm, .inr (12, fs)), (Mx, .inl (k 0, 900, .inl Xf))] → va_S A s.heap H locs → lv_has ls 7 [(4, .int (iZ v4_25)), (3, .int (iZ v3_14)), (2, .int (iZ v2_14)), (0, .ref hm), (1, .ref sa)] → W p l e (rj 4 0 0) s m [.ref hm, .ref sa].toArray below meth c H locs 0 0 (MQ below (QW (σ := ((Nat → Int) × (Nat → Int64) × (Nat → Nat → Int32) × (Nat → Nat → Int64))) (fun u => some (.int (iZ (u.1 0)))) (fun u => ((u.1 0) : Int) = -1 ∨ ((0 ≤ ((u.1 0) : Int) ∧ ((u.1 0) : Int) ≤ 125) ∧ Mtk = 2)) (fun u => [(hm, .inr (12, fs)), (Mx, .inl (k 0, 900, .inl Xf))]) D A) [.ref hm, .ref sa].toArray s 0 0 A) (F0 m 25 ls []) := by
            intro fu
            induction fu with
            | zero => intro v4_25 H locs ls hμ25 hi25 hf0_25 hP hD hS hl; exact absurd hμ25 (by omega)
            | succ fu ih25 =>
              intro v4_25 H locs ls hμ25 hi25 hf0_25 hP hD hS hl
              refine lv_aload_n hx hb dX12_inWords_25 rfl (lv_at hl 4 rfl) ?_
              refine lv_iload hx hb dX12_inWords_26 (lv_at hl 0 rfl) ?_
              refine W.callR (rwV (As := [.int (iZ v4_25)]) (rest := []) hx hb hml hown hts ((hSY.kept hS.2.1).narrow (fun _ h => h.elim)) (jm_charZ l sa sv v4_25 ⟨by omega, by omega⟩) ci_J0_charAt_5068e rfl qm_X12_148 ⟨Nat.le_of_ble_eq_true rfl, Nat.le_of_ble_eq_true rfl⟩ ⟨Nat.le_of_ble_eq_true rfl, Nat.le_of_ble_eq_true rfl⟩ rfl hl.1 rfl (Nat.le_of_ble_eq_true rfl) dX12_inWords_28) ?_
              have hk_h_3 := key_rg v4_25 ⟨by omega, by omega⟩
              refine W.eq (g2 := F0 m 31 ls [.int (iZ (gz keyF v4_25))]) rfl ?_
              refine lv_bipush (v := iZ 32) hx hb dX12_inWords_31 (by decide) ?_
              refine lv_icmp_eq (tgt := 42) hx hb dX12_inWords_33 (by decide) (fun c_4 => ?_) (fun c_4 => ?_)
              ·
                have c_4 := (zeq (x := iZ (gz keyF v4_25)) (y := iZ 32) rfl rfl ⟨by omega, by omega⟩ ⟨by omega, by omega⟩).mp c_4
                refine lv_iload hx hb dX12_inWords_42 (lv_at hl 0 rfl) ?_
                refine lv_iload_n hx hb dX12_inWords_44 rfl (lv_at hl 1 rfl) ?_
                refine lv_isub hx hb dX12_inWords_45 ?_
                refine lv_topi (fun x_5 ex_5 => ?_)
                obtain rfl : x_5 = iZ (v4_25 - v3_14) := ex_5.trans (iZ_sub v4_25 v3_14)
                refine lv_aload_n hx hb dX12_inWords_46 rfl (lv_at hl 3 rfl) ?_
                refine va_get (D := D) (ci := 12) (v := .int (iZ Men)) (C := RX12) (T := TX12) (N := 36) hx hb hts iX12 hown hK hP 0 rfl rfl 14 (by decide) (hts _ qf_X12_115) (fun _ h => h) f14 dX12_inWords_47 ?_
                refine lv_aload_n hx hb dX12_inWords_50 rfl (lv_at hl 3 rfl) ?_
                refine va_get (D := D) (ci := 12) (v := .int (iZ Mfr)) (C := RX12) (T := TX12) (N := 36) hx hb hts iX12 hown hK hP 0 rfl rfl 13 (by decide) (hts _ qf_X12_121) (fun _ h => h) f13 dX12_inWords_51 ?_
                refine lv_isub hx hb dX12_inWords_54 ?_
                refine lv_topi (fun x_6 ex_6 => ?_)
                obtain rfl : x_6 = iZ (Men - Mfr) := ex_6.trans (iZ_sub Men Mfr)
                refine lv_icmp_ne (tgt := 62) hx hb dX12_inWords_55 (by decide) (fun c_7 => ?_) (fun c_7 => ?_)
                ·
                  have c_7 := mt (zeq (x := iZ (v4_25 - v3_14)) (y := iZ (Men - Mfr)) rfl rfl ⟨by omega, by omega⟩ ⟨by omega, by omega⟩).mpr c_7
                  refine lv_iconst (v := iZ 0) hx hb dX12_inWords_62 (by decide) ?_
                  refine lv_istore (lv' := [(5, .int (iZ 0)), (4, .int (iZ v4_25)), (3, .int (iZ v3_14)), (2, .int (iZ v2_14)), (0, .ref hm), (1, .ref sa)]) hx hb dX12_inWords_63 hl (by decide) rfl (fun ls hl => ?_)
                  refine lv_iload_n hx hb dX12_inWords_65 rfl (lv_at hl 2 rfl) ?_
                  refine lv_istore (lv' := [(6, .int (iZ v3_14)), (5, .int (iZ 0)), (4, .int (iZ v4_25)), (3, .int (iZ v3_14)), (2, .int (iZ v2_14)), (0, .ref hm), (1, .ref sa)]) hx hb dX12_inWords_66 hl (by decide) rfl (fun ls hl => ?_)
                  have HL68 : ∀ (fu : Nat) (v5_68 : Int) (v6_68 : Int) (H : Heap) (locs : List Loc) (ls : Array Slot), ((124) + 2 - v6_68) < (fu : Int) → ((1 ≤ v6_68 ∧ v6_68 ≤ (124) + 1)) → (v3_14 ≤ v6_68) → (0 ≤ v5_68 ∧ v5_68 ≤ 1) → va_P D vwCl [(hm, .inr (12, fs)), (Mx, .inl (k 0, 900, .inl Xf))] H → va_D A [(hm, .inr (12, fs)), (Mx, .inl (k 0, 900, .inl Xf))] → va_S A s.heap H locs → lv_has ls 7 [(6, .int (iZ v6_68)), (5, .int (iZ v5_68)), (4, .int (iZ v4_25)), (3, .int (iZ v3_14)), (2, .int (iZ v2_14)), (0, .ref hm), (1, .ref sa)] → W p l e (rj 4 0 0) s m [.ref hm, .ref sa].toArray below meth c H locs 0 0 (MQ below (QW (σ := ((Nat → Int) × (Nat → Int64) × (Nat → Nat → Int32) × (Nat → Nat → Int64))) (fun u => some (.int (iZ (u.1 0)))) (fun u => ((u.1 0) : Int) = -1 ∨ ((0 ≤ ((u.1 0) : Int) ∧ ((u.1 0) : Int) ≤ 125) ∧ Mtk = 2)) (fun u => [(hm, .inr (12, fs)), (Mx, .inl (k 0, 900, .inl Xf))]) D A) [.ref hm, .ref sa].toArray s 0 0 A) (F0 m 68 ls []) := by
                    intro fu
                    induction fu with
                    | zero => intro v5_68 v6_68 H locs ls hμ68 hi68 hf0_68 hf1_68 hP hD hS hl; exact absurd hμ68 (by omega)
                    | succ fu ih68 =>
                      intro v5_68 v6_68 H locs ls hμ68 hi68 hf0_68 hf1_68 hP hD hS hl
                      refine lv_iload hx hb dX12_inWords_68 (lv_at hl 0 rfl) ?_
                      refine lv_iload hx hb dX12_inWords_70 (lv_at hl 2 rfl) ?_
                      refine lv_icmp_ge (tgt := 115) hx hb dX12_inWords_72 (by decide) (fun c_8 => ?_) (fun c_8 => ?_)
                      ·
                        have c_8 := (zle (x := iZ v4_25) (y := iZ v6_68) rfl rfl ⟨by omega, by omega⟩ ⟨by omega, by omega⟩).mp c_8
                        refine lv_iload hx hb dX12_inWords_115 (lv_at hl 1 rfl) ?_
                        refine lv_if_eq (tgt := 122) hx hb dX12_inWords_117 (by decide) (fun c_9 => ?_) (fun c_9 => ?_)
                        ·
                          have c_9 := (zeq (x := iZ v5_68) (y := iZ 0) rfl rfl ⟨by omega, by omega⟩ ⟨by omega, by omega⟩).mp c_9
                          refine lv_iinc (v := iZ (v2_14 + 1)) (lv' := [(2, .int (iZ (v2_14 + 1))), (6, .int (iZ v6_68)), (5, .int (iZ v5_68)), (4, .int (iZ v4_25)), (3, .int (iZ v3_14)), (0, .ref hm), (1, .ref sa)]) hx hb dX12_inWords_122 hl (k := 4) rfl (iZ_add v2_14 1) (by decide) rfl (fun ls hl => ?_)
                          refine lv_iload hx hb dX12_inWords_125 (lv_at hl 3 rfl) ?_
                          refine lv_iconst (v := iZ 1) hx hb dX12_inWords_127 (by decide) ?_
                          refine lv_iadd hx hb dX12_inWords_128 ?_
                          refine lv_topi (fun x_10 ex_10 => ?_)
                          obtain rfl : x_10 = iZ (v4_25 + 1) := ex_10.trans (iZ_add v4_25 1)
                          refine lv_istore_n (lv' := [(3, .int (iZ (v4_25 + 1))), (2, .int (iZ (v2_14 + 1))), (6, .int (iZ v6_68)), (5, .int (iZ v5_68)), (4, .int (iZ v4_25)), (0, .ref hm), (1, .ref sa)]) hx hb dX12_inWords_129 rfl hl (by decide) rfl (fun ls hl => ?_)
                          refine lv_goto (tgt := 14) hx hb dX12_inWords_130 (by decide) ?_
                          exact ih14  (v2_14 + 1) (v4_25 + 1) _ _ _ (by omega) (show (1 ≤ (v4_25 + 1) ∧ (v4_25 + 1) ≤ (124) + 1) from ⟨by omega, by omega⟩) (show 0 ≤ (v2_14 + 1) ∧ (v2_14 + 1) ≤ (v4_25 + 1) from (by omega)) (hP.sub [0, 1] rfl) (hD.sub [0, 1] rfl rfl) hS (lv_sub hl [0, 1, 5, 6] rfl)
                        ·
                          have c_9 := mt (zeq (x := iZ v5_68) (y := iZ 0) rfl rfl ⟨by omega, by omega⟩ ⟨by omega, by omega⟩).mpr c_9
                          refine lv_iload_n hx hb dX12_inWords_120 rfl (lv_at hl 4 rfl) ?_
                          exact EWi hx hb hr hlocks hS (fun i => [v2_14].getD i 0, fun i => [0].getD i 0, fun i => [].getD i (fun _ => 0), fun i => [].getD i (fun _ => 0)) rfl (show (v2_14 : Int) = -1 ∨ ((0 ≤ (v2_14 : Int) ∧ (v2_14 : Int) ≤ 125) ∧ Mtk = 2) from (by omega)) (hP.sub [0, 1] rfl) (hD.sub [0, 1] rfl rfl) dX12_inWords_121
                      ·
                        have c_8 := mt (zle (x := iZ v4_25) (y := iZ v6_68) rfl rfl ⟨by omega, by omega⟩ ⟨by omega, by omega⟩).mpr c_8
                        refine lv_iload hx hb dX12_inWords_75 (lv_at hl 1 rfl) ?_
                        refine lv_if_eq (tgt := 115) hx hb dX12_inWords_77 (by decide) (fun c_11 => ?_) (fun c_11 => ?_)
                        ·
                          have c_11 := (zeq (x := iZ v5_68) (y := iZ 0) rfl rfl ⟨by omega, by omega⟩ ⟨by omega, by omega⟩).mp c_11
                          refine lv_iload hx hb dX12_inWords_115 (lv_at hl 1 rfl) ?_
                          refine lv_if_eq (tgt := 122) hx hb dX12_inWords_117 (by decide) (fun c_12 => ?_) (fun c_12 => ?_)
                          ·
                            have c_12 := (zeq (x := iZ v5_68) (y := iZ 0) rfl rfl ⟨by omega, by omega⟩ ⟨by omega, by omega⟩).mp c_12
                            refine lv_iinc (v := iZ (v2_14 + 1)) (lv' := [(2, .int (iZ (v2_14 + 1))), (6, .int (iZ v6_68)), (5, .int (iZ v5_68)), (4, .int (iZ v4_25)), (3, .int (iZ v3_14)), (0, .ref hm), (1, .ref sa)]) hx hb dX12_inWords_122 hl (k := 4) rfl (iZ_add v2_14 1) (by decide) rfl (fun ls hl => ?_)
                            refine lv_iload hx hb dX12_inWords_125 (lv_at hl 3 rfl) ?_
                            refine lv_iconst (v := iZ 1) hx hb dX12_inWords_127 (by decide) ?_
                            refine lv_iadd hx hb dX12_inWords_128 ?_
                            refine lv_topi (fun x_13 ex_13 => ?_)
                            obtain rfl : x_13 = iZ (v4_25 + 1) := ex_13.trans (iZ_add v4_25 1)
                            refine lv_istore_n (lv' := [(3, .int (iZ (v4_25 + 1))), (2, .int (iZ (v2_14 + 1))), (6, .int (iZ v6_68)), (5, .int (iZ v5_68)), (4, .int (iZ v4_25)), (0, .ref hm), (1, .ref sa)]) hx hb dX12_inWords_129 rfl hl (by decide) rfl (fun ls hl => ?_)
                            refine lv_goto (tgt := 14) hx hb dX12_inWords_130 (by decide) ?_
                            exact ih14  (v2_14 + 1) (v4_25 + 1) _ _ _ (by omega) (show (1 ≤ (v4_25 + 1) ∧ (v4_25 + 1) ≤ (124) + 1) from ⟨by omega, by omega⟩) (show 0 ≤ (v2_14 + 1) ∧ (v2_14 + 1) ≤ (v4_25 + 1) from (by omega)) (hP.sub [0, 1] rfl) (hD.sub [0, 1] rfl rfl) hS (lv_sub hl [0, 1, 5, 6] rfl)
                          ·
                            have c_12 := mt (zeq (x := iZ v5_68) (y := iZ 0) rfl rfl ⟨by omega, by omega⟩ ⟨by omega, by omega⟩).mpr c_12
                            exact absurd c_12 (by omega)
                        ·
                          have c_11 := mt (zeq (x := iZ v5_68) (y := iZ 0) rfl rfl ⟨by omega, by omega⟩ ⟨by omega, by omega⟩).mpr c_11
                          refine lv_aload_n hx hb dX12_inWords_80 rfl (lv_at hl 6 rfl) ?_
                          refine lv_iload hx hb dX12_inWords_81 (lv_at hl 0 rfl) ?_
                          refine W.callR (rwV (As := [.int (iZ v6_68)]) (rest := []) hx hb hml hown hts ((hSY.kept hS.2.1).narrow (fun _ h => h.elim)) (jm_charZ l sa sv v6_68 ⟨by omega, by omega⟩) ci_J0_charAt_5068e rfl qm_X12_148 ⟨Nat.le_of_ble_eq_true rfl, Nat.le_of_ble_eq_true rfl⟩ ⟨Nat.le_of_ble_eq_true rfl, Nat.le_of_ble_eq_true rfl⟩ rfl hl.1 rfl (Nat.le_of_ble_eq_true rfl) dX12_inWords_83) ?_
                          have hk_h_14 := key_rg v6_68 ⟨by omega, by omega⟩
                          refine W.eq (g2 := F0 m 86 ls [.int (iZ (gz keyF v6_68))]) rfl ?_
                          refine lv_aload_n hx hb dX12_inWords_86 rfl (lv_at hl 5 rfl) ?_
                          refine lv_aload_n hx hb dX12_inWords_87 rfl (lv_at hl 5 rfl) ?_
                          refine va_get (D := D) (ci := 12) (v := .int (iZ Mfr)) (C := RX12) (T := TX12) (N := 36) hx hb hts iX12 hown hK hP 0 rfl rfl 13 (by decide) (hts _ qf_X12_121) (fun _ h => h) f13 dX12_inWords_88 ?_
                          refine lv_iload hx hb dX12_inWords_91 (lv_at hl 0 rfl) ?_
                          refine lv_iadd hx hb dX12_inWords_93 ?_
                          refine lv_topi (fun x_15 ex_15 => ?_)
                          obtain rfl : x_15 = iZ (Mfr + v6_68) := ex_15.trans (iZ_add Mfr v6_68)
                          refine lv_iload_n hx hb dX12_inWords_94 rfl (lv_at hl 3 rfl) ?_
                          refine lv_isub hx hb dX12_inWords_95 ?_
                          refine lv_topi (fun x_16 ex_16 => ?_)
                          obtain rfl : x_16 = iZ ((Mfr + v6_68) - v3_14) := ex_16.trans (iZ_sub (Mfr + v6_68) v3_14)
                          refine CRV (As := [.int (iZ ((Mfr + v6_68) - v3_14))]) (rest := [.int (iZ (gz keyF v6_68))]) hx hb hml hown hts hKK hP (m_byteAt l D k fs hm Mx Msz Xf ((Mfr + v6_68) - v3_14) f9 f11 ⟨by omega, by omega⟩ ⟨by omega, by omega⟩) ci_X12_byteAt qm_X12_118 ⟨Nat.le_of_ble_eq_true rfl, Nat.le_of_ble_eq_true rfl⟩ ⟨Nat.le_of_ble_eq_true rfl, Nat.le_of_ble_eq_true rfl⟩ 0 rfl rfl rfl hl.1 rfl (Nat.le_of_ble_eq_true rfl) dX12_inWords_96 ?_
                          have hb_h_17 := bA_rg Xf Msz ((Mfr + v6_68) - v3_14)
                          refine lv_icmp_ne (tgt := 106) hx hb dX12_inWords_99 (by decide) (fun c_18 => ?_) (fun c_18 => ?_)
                          ·
                            have c_18 := mt (zeq (x := iZ (gz keyF v6_68)) (y := iZ (bA Xf Msz ((Mfr + v6_68) - v3_14))) rfl rfl ⟨by omega, by omega⟩ ⟨by omega, by omega⟩).mpr c_18
                            refine lv_iconst (v := iZ 0) hx hb dX12_inWords_106 (by decide) ?_
                            refine lv_istore (lv' := [(5, .int (iZ 0)), (6, .int (iZ v6_68)), (4, .int (iZ v4_25)), (3, .int (iZ v3_14)), (2, .int (iZ v2_14)), (0, .ref hm), (1, .ref sa)]) hx hb dX12_inWords_107 hl (by decide) rfl (fun ls hl => ?_)
                            refine lv_iinc (v := iZ (v6_68 + 1)) (lv' := [(6, .int (iZ (v6_68 + 1))), (5, .int (iZ 0)), (4, .int (iZ v4_25)), (3, .int (iZ v3_14)), (2, .int (iZ v2_14)), (0, .ref hm), (1, .ref sa)]) hx hb dX12_inWords_109 hl (k := 1) rfl (iZ_add v6_68 1) (by decide) rfl (fun ls hl => ?_)
                            refine lv_goto (tgt := 68) hx hb dX12_inWords_112 (by decide) ?_
                            exact ih68  0 (v6_68 + 1) _ _ _ (by omega) (show (1 ≤ (v6_68 + 1) ∧ (v6_68 + 1) ≤ (124) + 1) from ⟨by omega, by omega⟩) (show v3_14 ≤ (v6_68 + 1) from (by omega)) (show 0 ≤ 0 ∧ 0 ≤ 1 from (by omega)) (hP.sub [0, 1] rfl) (hD.sub [0, 1] rfl rfl) hS (lv_sub hl [0, 1, 2, 3, 4, 5, 6] rfl)
                          ·
                            have c_18 := (zeq (x := iZ (gz keyF v6_68)) (y := iZ (bA Xf Msz ((Mfr + v6_68) - v3_14))) rfl rfl ⟨by omega, by omega⟩ ⟨by omega, by omega⟩).mp c_18
                            refine lv_iconst (v := iZ 1) hx hb dX12_inWords_102 (by decide) ?_
                            refine lv_goto (tgt := 107) hx hb dX12_inWords_103 (by decide) ?_
                            refine lv_istore (lv' := [(5, .int (iZ 1)), (6, .int (iZ v6_68)), (4, .int (iZ v4_25)), (3, .int (iZ v3_14)), (2, .int (iZ v2_14)), (0, .ref hm), (1, .ref sa)]) hx hb dX12_inWords_107 hl (by decide) rfl (fun ls hl => ?_)
                            refine lv_iinc (v := iZ (v6_68 + 1)) (lv' := [(6, .int (iZ (v6_68 + 1))), (5, .int (iZ 1)), (4, .int (iZ v4_25)), (3, .int (iZ v3_14)), (2, .int (iZ v2_14)), (0, .ref hm), (1, .ref sa)]) hx hb dX12_inWords_109 hl (k := 1) rfl (iZ_add v6_68 1) (by decide) rfl (fun ls hl => ?_)
                            refine lv_goto (tgt := 68) hx hb dX12_inWords_112 (by decide) ?_
                            exact ih68  1 (v6_68 + 1) _ _ _ (by omega) (show (1 ≤ (v6_68 + 1) ∧ (v6_68 + 1) ≤ (124) + 1) from ⟨by omega, by omega⟩) (show v3_14 ≤ (v6_68 + 1) from (by omega)) (show 0 ≤ 1 ∧ 1 ≤ 1 from (by omega)) (hP.sub [0, 1] rfl) (hD.sub [0, 1] rfl rfl) hS (lv_sub hl [0, 1, 2, 3, 4, 5, 6] rfl)
                  exact HL68 130 0 v3_14 _ _ _ (by omega) (show (1 ≤ v3_14 ∧ v3_14 ≤ (124) + 1) from ⟨by omega, by omega⟩) (show v3_14 ≤ v3_14 from (by omega)) (show 0 ≤ 0 ∧ 0 ≤ 1 from (by omega)) (hP.sub [0, 1] rfl) (hD.sub [0, 1] rfl rfl) hS (lv_sub hl [0, 1, 2, 3, 4, 5, 6] rfl)
                ·
                  have c_7 := (zeq (x := iZ (v4_25 - v3_14)) (y := iZ (Men - Mfr)) rfl rfl ⟨by omega, by omega⟩ ⟨by omega, by omega⟩).mp c_7
                  refine lv_iconst (v := iZ 1) hx hb dX12_inWords_58 (by decide) ?_
                  refine lv_goto (tgt := 63) hx hb dX12_inWords_59 (by decide) ?_
                  refine lv_istore (lv' := [(5, .int (iZ 1)), (4, .int (iZ v4_25)), (3, .int (iZ v3_14)), (2, .int (iZ v2_14)), (0, .ref hm), (1, .ref sa)]) hx hb dX12_inWords_63 hl (by decide) rfl (fun ls hl => ?_)
                  refine lv_iload_n hx hb dX12_inWords_65 rfl (lv_at hl 2 rfl) ?_
                  refine lv_istore (lv' := [(6, .int (iZ v3_14)), (5, .int (iZ 1)), (4, .int (iZ v4_25)), (3, .int (iZ v3_14)), (2, .int (iZ v2_14)), (0, .ref hm), (1, .ref sa)]) hx hb dX12_inWords_66 hl (by decide) rfl (fun ls hl => ?_)
                  have HL68 : ∀ (fu : Nat) (v5_68 : Int) (v6_68 : Int) (H : Heap) (locs : List Loc) (ls : Array Slot), ((124) + 2 - v6_68) < (fu : Int) → ((1 ≤ v6_68 ∧ v6_68 ≤ (124) + 1)) → (v3_14 ≤ v6_68) → (0 ≤ v5_68 ∧ v5_68 ≤ 1) → va_P D vwCl [(hm, .inr (12, fs)), (Mx, .inl (k 0, 900, .inl Xf))] H → va_D A [(hm, .inr (12, fs)), (Mx, .inl (k 0, 900, .inl Xf))] → va_S A s.heap H locs → lv_has ls 7 [(6, .int (iZ v6_68)), (5, .int (iZ v5_68)), (4, .int (iZ v4_25)), (3, .int (iZ v3_14)), (2, .int (iZ v2_14)), (0, .ref hm), (1, .ref sa)] → W p l e (rj 4 0 0) s m [.ref hm, .ref sa].toArray below meth c H locs 0 0 (MQ below (QW (σ := ((Nat → Int) × (Nat → Int64) × (Nat → Nat → Int32) × (Nat → Nat → Int64))) (fun u => some (.int (iZ (u.1 0)))) (fun u => ((u.1 0) : Int) = -1 ∨ ((0 ≤ ((u.1 0) : Int) ∧ ((u.1 0) : Int) ≤ 125) ∧ Mtk = 2)) (fun u => [(hm, .inr (12, fs)), (Mx, .inl (k 0, 900, .inl Xf))]) D A) [.ref hm, .ref sa].toArray s 0 0 A) (F0 m 68 ls []) := by
                    intro fu
                    induction fu with
                    | zero => intro v5_68 v6_68 H locs ls hμ68 hi68 hf0_68 hf1_68 hP hD hS hl; exact absurd hμ68 (by omega)
                    | succ fu ih68 =>
                      intro v5_68 v6_68 H locs ls hμ68 hi68 hf0_68 hf1_68 hP hD hS hl
                      refine lv_iload hx hb dX12_inWords_68 (lv_at hl 0 rfl) ?_
                      refine lv_iload hx hb dX12_inWords_70 (lv_at hl 2 rfl) ?_
                      refine lv_icmp_ge (tgt := 115) hx hb dX12_inWords_72 (by decide) (fun c_19 => ?_) (fun c_19 => ?_)
                      ·
                        have c_19 := (zle (x := iZ v4_25) (y := iZ v6_68) rfl rfl ⟨by omega, by omega⟩ ⟨by omega, by omega⟩).mp c_19
                        refine lv_iload hx hb dX12_inWords_115 (lv_at hl 1 rfl) ?_
                        refine lv_if_eq (tgt := 122) hx hb dX12_inWords_117 (by decide) (fun c_20 => ?_) (fun c_20 => ?_)
                        ·
                          have c_20 := (zeq (x := iZ v5_68) (y := iZ 0) rfl rfl ⟨by omega, by omega⟩ ⟨by omega, by omega⟩).mp c_20
                          refine lv_iinc (v := iZ (v2_14 + 1)) (lv' := [(2, .int (iZ (v2_14 + 1))), (6, .int (iZ v6_68)), (5, .int (iZ v5_68)), (4, .int (iZ v4_25)), (3, .int (iZ v3_14)), (0, .ref hm), (1, .ref sa)]) hx hb dX12_inWords_122 hl (k := 4) rfl (iZ_add v2_14 1) (by decide) rfl (fun ls hl => ?_)
                          refine lv_iload hx hb dX12_inWords_125 (lv_at hl 3 rfl) ?_
                          refine lv_iconst (v := iZ 1) hx hb dX12_inWords_127 (by decide) ?_
                          refine lv_iadd hx hb dX12_inWords_128 ?_
                          refine lv_topi (fun x_21 ex_21 => ?_)
                          obtain rfl : x_21 = iZ (v4_25 + 1) := ex_21.trans (iZ_add v4_25 1)
                          refine lv_istore_n (lv' := [(3, .int (iZ (v4_25 + 1))), (2, .int (iZ (v2_14 + 1))), (6, .int (iZ v6_68)), (5, .int (iZ v5_68)), (4, .int (iZ v4_25)), (0, .ref hm), (1, .ref sa)]) hx hb dX12_inWords_129 rfl hl (by decide) rfl (fun ls hl => ?_)
                          refine lv_goto (tgt := 14) hx hb dX12_inWords_130 (by decide) ?_
                          exact ih14  (v2_14 + 1) (v4_25 + 1) _ _ _ (by omega) (show (1 ≤ (v4_25 + 1) ∧ (v4_25 + 1) ≤ (124) + 1) from ⟨by omega, by omega⟩) (show 0 ≤ (v2_14 + 1) ∧ (v2_14 + 1) ≤ (v4_25 + 1) from (by omega)) (hP.sub [0, 1] rfl) (hD.sub [0, 1] rfl rfl) hS (lv_sub hl [0, 1, 5, 6] rfl)
                        ·
                          have c_20 := mt (zeq (x := iZ v5_68) (y := iZ 0) rfl rfl ⟨by omega, by omega⟩ ⟨by omega, by omega⟩).mpr c_20
                          refine lv_iload_n hx hb dX12_inWords_120 rfl (lv_at hl 4 rfl) ?_
                          exact EWi hx hb hr hlocks hS (fun i => [v2_14].getD i 0, fun i => [0].getD i 0, fun i => [].getD i (fun _ => 0), fun i => [].getD i (fun _ => 0)) rfl (show (v2_14 : Int) = -1 ∨ ((0 ≤ (v2_14 : Int) ∧ (v2_14 : Int) ≤ 125) ∧ Mtk = 2) from (by omega)) (hP.sub [0, 1] rfl) (hD.sub [0, 1] rfl rfl) dX12_inWords_121
                      ·
                        have c_19 := mt (zle (x := iZ v4_25) (y := iZ v6_68) rfl rfl ⟨by omega, by omega⟩ ⟨by omega, by omega⟩).mpr c_19
                        refine lv_iload hx hb dX12_inWords_75 (lv_at hl 1 rfl) ?_
                        refine lv_if_eq (tgt := 115) hx hb dX12_inWords_77 (by decide) (fun c_22 => ?_) (fun c_22 => ?_)
                        ·
                          have c_22 := (zeq (x := iZ v5_68) (y := iZ 0) rfl rfl ⟨by omega, by omega⟩ ⟨by omega, by omega⟩).mp c_22
                          refine lv_iload hx hb dX12_inWords_115 (lv_at hl 1 rfl) ?_
                          refine lv_if_eq (tgt := 122) hx hb dX12_inWords_117 (by decide) (fun c_23 => ?_) (fun c_23 => ?_)
                          ·
                            have c_23 := (zeq (x := iZ v5_68) (y := iZ 0) rfl rfl ⟨by omega, by omega⟩ ⟨by omega, by omega⟩).mp c_23
                            refine lv_iinc (v := iZ (v2_14 + 1)) (lv' := [(2, .int (iZ (v2_14 + 1))), (6, .int (iZ v6_68)), (5, .int (iZ v5_68)), (4, .int (iZ v4_25)), (3, .int (iZ v3_14)), (0, .ref hm), (1, .ref sa)]) hx hb dX12_inWords_122 hl (k := 4) rfl (iZ_add v2_14 1) (by decide) rfl (fun ls hl => ?_)
                            refine lv_iload hx hb dX12_inWords_125 (lv_at hl 3 rfl) ?_
                            refine lv_iconst (v := iZ 1) hx hb dX12_inWords_127 (by decide) ?_
                            refine lv_iadd hx hb dX12_inWords_128 ?_
                            refine lv_topi (fun x_24 ex_24 => ?_)
                            obtain rfl : x_24 = iZ (v4_25 + 1) := ex_24.trans (iZ_add v4_25 1)
                            refine lv_istore_n (lv' := [(3, .int (iZ (v4_25 + 1))), (2, .int (iZ (v2_14 + 1))), (6, .int (iZ v6_68)), (5, .int (iZ v5_68)), (4, .int (iZ v4_25)), (0, .ref hm), (1, .ref sa)]) hx hb dX12_inWords_129 rfl hl (by decide) rfl (fun ls hl => ?_)
                            refine lv_goto (tgt := 14) hx hb dX12_inWords_130 (by decide) ?_
                            exact ih14  (v2_14 + 1) (v4_25 + 1) _ _ _ (by omega) (show (1 ≤ (v4_25 + 1) ∧ (v4_25 + 1) ≤ (124) + 1) from ⟨by omega, by omega⟩) (show 0 ≤ (v2_14 + 1) ∧ (v2_14 + 1) ≤ (v4_25 + 1) from (by omega)) (hP.sub [0, 1] rfl) (hD.sub [0, 1] rfl rfl) hS (lv_sub hl [0, 1, 5, 6] rfl)
                          ·
                            have c_23 := mt (zeq (x := iZ v5_68) (y := iZ 0) rfl rfl ⟨by omega, by omega⟩ ⟨by omega, by omega⟩).mpr c_23
                            exact absurd c_23 (by omega)
                        ·
                          have c_22 := mt (zeq (x := iZ v5_68) (y := iZ 0) rfl rfl ⟨by omega, by omega⟩ ⟨by omega, by omega⟩).mpr c_22
                          refine lv_aload_n hx hb dX12_inWords_80 rfl (lv_at hl 6 rfl) ?_
                          refine lv_iload hx hb dX12_inWords_81 (lv_at hl 0 rfl) ?_
                          refine W.callR (rwV (As := [.int (iZ v6_68)]) (rest := []) hx hb hml hown hts ((hSY.kept hS.2.1).narrow (fun _ h => h.elim)) (jm_charZ l sa sv v6_68 ⟨by omega, by omega⟩) ci_J0_charAt_5068e rfl qm_X12_148 ⟨Nat.le_of_ble_eq_true rfl, Nat.le_of_ble_eq_true rfl⟩ ⟨Nat.le_of_ble_eq_true rfl, Nat.le_of_ble_eq_true rfl⟩ rfl hl.1 rfl (Nat.le_of_ble_eq_true rfl) dX12_inWords_83) ?_
                          have hk_h_25 := key_rg v6_68 ⟨by omega, by omega⟩
                          refine W.eq (g2 := F0 m 86 ls [.int (iZ (gz keyF v6_68))]) rfl ?_
                          refine lv_aload_n hx hb dX12_inWords_86 rfl (lv_at hl 5 rfl) ?_
                          refine lv_aload_n hx hb dX12_inWords_87 rfl (lv_at hl 5 rfl) ?_
                          refine va_get (D := D) (ci := 12) (v := .int (iZ Mfr)) (C := RX12) (T := TX12) (N := 36) hx hb hts iX12 hown hK hP 0 rfl rfl 13 (by decide) (hts _ qf_X12_121) (fun _ h => h) f13 dX12_inWords_88 ?_
                          refine lv_iload hx hb dX12_inWords_91 (lv_at hl 0 rfl) ?_
                          refine lv_iadd hx hb dX12_inWords_93 ?_
                          refine lv_topi (fun x_26 ex_26 => ?_)
                          obtain rfl : x_26 = iZ (Mfr + v6_68) := ex_26.trans (iZ_add Mfr v6_68)
                          refine lv_iload_n hx hb dX12_inWords_94 rfl (lv_at hl 3 rfl) ?_
                          refine lv_isub hx hb dX12_inWords_95 ?_
                          refine lv_topi (fun x_27 ex_27 => ?_)
                          obtain rfl : x_27 = iZ ((Mfr + v6_68) - v3_14) := ex_27.trans (iZ_sub (Mfr + v6_68) v3_14)
                          refine CRV (As := [.int (iZ ((Mfr + v6_68) - v3_14))]) (rest := [.int (iZ (gz keyF v6_68))]) hx hb hml hown hts hKK hP (m_byteAt l D k fs hm Mx Msz Xf ((Mfr + v6_68) - v3_14) f9 f11 ⟨by omega, by omega⟩ ⟨by omega, by omega⟩) ci_X12_byteAt qm_X12_118 ⟨Nat.le_of_ble_eq_true rfl, Nat.le_of_ble_eq_true rfl⟩ ⟨Nat.le_of_ble_eq_true rfl, Nat.le_of_ble_eq_true rfl⟩ 0 rfl rfl rfl hl.1 rfl (Nat.le_of_ble_eq_true rfl) dX12_inWords_96 ?_
                          have hb_h_28 := bA_rg Xf Msz ((Mfr + v6_68) - v3_14)
                          refine lv_icmp_ne (tgt := 106) hx hb dX12_inWords_99 (by decide) (fun c_29 => ?_) (fun c_29 => ?_)
                          ·
                            have c_29 := mt (zeq (x := iZ (gz keyF v6_68)) (y := iZ (bA Xf Msz ((Mfr + v6_68) - v3_14))) rfl rfl ⟨by omega, by omega⟩ ⟨by omega, by omega⟩).mpr c_29
                            refine lv_iconst (v := iZ 0) hx hb dX12_inWords_106 (by decide) ?_
                            refine lv_istore (lv' := [(5, .int (iZ 0)), (6, .int (iZ v6_68)), (4, .int (iZ v4_25)), (3, .int (iZ v3_14)), (2, .int (iZ v2_14)), (0, .ref hm), (1, .ref sa)]) hx hb dX12_inWords_107 hl (by decide) rfl (fun ls hl => ?_)
                            refine lv_iinc (v := iZ (v6_68 + 1)) (lv' := [(6, .int (iZ (v6_68 + 1))), (5, .int (iZ 0)), (4, .int (iZ v4_25)), (3, .int (iZ v3_14)), (2, .int (iZ v2_14)), (0, .ref hm), (1, .ref sa)]) hx hb dX12_inWords_109 hl (k := 1) rfl (iZ_add v6_68 1) (by decide) rfl (fun ls hl => ?_)
                            refine lv_goto (tgt := 68) hx hb dX12_inWords_112 (by decide) ?_
                            exact ih68  0 (v6_68 + 1) _ _ _ (by omega) (show (1 ≤ (v6_68 + 1) ∧ (v6_68 + 1) ≤ (124) + 1) from ⟨by omega, by omega⟩) (show v3_14 ≤ (v6_68 + 1) from (by omega)) (show 0 ≤ 0 ∧ 0 ≤ 1 from (by omega)) (hP.sub [0, 1] rfl) (hD.sub [0, 1] rfl rfl) hS (lv_sub hl [0, 1, 2, 3, 4, 5, 6] rfl)
                          ·
                            have c_29 := (zeq (x := iZ (gz keyF v6_68)) (y := iZ (bA Xf Msz ((Mfr + v6_68) - v3_14))) rfl rfl ⟨by omega, by omega⟩ ⟨by omega, by omega⟩).mp c_29
                            refine lv_iconst (v := iZ 1) hx hb dX12_inWords_102 (by decide) ?_
                            refine lv_goto (tgt := 107) hx hb dX12_inWords_103 (by decide) ?_
                            refine lv_istore (lv' := [(5, .int (iZ 1)), (6, .int (iZ v6_68)), (4, .int (iZ v4_25)), (3, .int (iZ v3_14)), (2, .int (iZ v2_14)), (0, .ref hm), (1, .ref sa)]) hx hb dX12_inWords_107 hl (by decide) rfl (fun ls hl => ?_)
                            refine lv_iinc (v := iZ (v6_68 + 1)) (lv' := [(6, .int (iZ (v6_68 + 1))), (5, .int (iZ 1)), (4, .int (iZ v4_25)), (3, .int (iZ v3_14)), (2, .int (iZ v2_14)), (0, .ref hm), (1, .ref sa)]) hx hb dX12_inWords_109 hl (k := 1) rfl (iZ_add v6_68 1) (by decide) rfl (fun ls hl => ?_)
                            refine lv_goto (tgt := 68) hx hb dX12_inWords_112 (by decide) ?_
                            exact ih68  1 (v6_68 + 1) _ _ _ (by omega) (show (1 ≤ (v6_68 + 1) ∧ (v6_68 + 1) ≤ (124) + 1) from ⟨by omega, by omega⟩) (show v3_14 ≤ (v6_68 + 1) from (by omega)) (show 0 ≤ 1 ∧ 1 ≤ 1 from (by omega)) (hP.sub [0, 1] rfl) (hD.sub [0, 1] rfl rfl) hS (lv_sub hl [0, 1, 2, 3, 4, 5, 6] rfl)
                  exact HL68 130 1 v3_14 _ _ _ (by omega) (show (1 ≤ v3_14 ∧ v3_14 ≤ (124) + 1) from ⟨by omega, by omega⟩) (show v3_14 ≤ v3_14 from (by omega)) (show 0 ≤ 1 ∧ 1 ≤ 1 from (by omega)) (hP.sub [0, 1] rfl) (hD.sub [0, 1] rfl rfl) hS (lv_sub hl [0, 1, 2, 3, 4, 5, 6] rfl)
              ·
                have c_4 := mt (zeq (x := iZ (gz keyF v4_25)) (y := iZ 32) rfl rfl ⟨by omega, by omega⟩ ⟨by omega, by omega⟩).mpr c_4
                have hla : v4_25 = 124 → gz keyF v4_25 = 32 := fun h => by rw [h]; exact key_last
                refine lv_iinc (v := iZ (v4_25 + 1)) (lv' := [(4, .int (iZ (v4_25 + 1))), (3, .int (iZ v3_14)), (2, .int (iZ v2_14)), (0, .ref hm), (1, .ref sa)]) hx hb dX12_inWords_36 hl (k := 0) rfl (iZ_add v4_25 1) (by decide) rfl (fun ls hl => ?_)
                refine lv_goto (tgt := 25) hx hb dX12_inWords_39 (by decide) ?_
                exact ih25  (v4_25 + 1) _ _ _ (by omega) (show (1 ≤ (v4_25 + 1) ∧ (v4_25 + 1) ≤ (123) + 1) from ⟨by omega, by omega⟩) (show v3_14 ≤ (v4_25 + 1) from (by omega)) (hP.sub [0, 1] rfl) (hD.sub [0, 1] rfl rfl) hS (lv_sub hl [0, 1, 2, 3, 4] rfl)
          exact HL25 130 v3_14 _ _ _ (by omega) (show (1 ≤ v3_14 ∧ v3_14 ≤ (123) + 1) from ⟨by omega, by omega⟩) (show v3_14 ≤ v3_14 from (by omega)) (hP.sub [0, 1] rfl) (hD.sub [0, 1] rfl rfl) hS (lv_sub hl [0, 1, 2, 3, 4] rfl)
    exact HL14 130 0 1 _ _ _ (by omega) (show (1 ≤ 1 ∧ 1 ≤ (124) + 1) from ⟨by omega, by omega⟩) (show 0 ≤ 0 ∧ 0 ≤ 1 from (by omega)) (hP.sub [0, 1] rfl) (hD.sub [0, 1] rfl rfl) hS (lv_sub hl [0, 1, 2, 3] rfl)
  ·
    have c_1 := mt (zeq (x := iZ Mtk) (y := iZ 2) rfl rfl ⟨by omega, by omega⟩ ⟨by omega, by omega⟩).mpr c_1
    refine lv_iconst (v := iZ (-1)) hx hb dX12_inWords_8 (by decide) ?_
    exact EWi hx hb hr hlocks hS (fun i => [(-1)].getD i 0, fun i => [0].getD i 0, fun i => [].getD i (fun _ => 0), fun i => [].getD i (fun _ => 0)) rfl (show ((-1) : Int) = -1 ∨ ((0 ≤ ((-1) : Int) ∧ ((-1) : Int) ≤ 125) ∧ Mtk = 2) from (by omega)) (hP.sub [0, 1] rfl) (hD.sub [0, 1] rfl rfl) dX12_inWords_9
set_option maxHeartbeats 4000000 in
set_option maxRecDepth 100000 in
theorem m_isName (l : Launch) (D : va_G) (k : Nat → ClassId) (sa sv : Nat) (fs : List Value) (hm : Nat) (Mx : Nat) (Msz : Int) (Mtk : Int) (Mfr : Int) (Men : Int) (Xf : Nat → Int32) (f12 : fs[12]? = some (.int (iZ Mtk))) (f13 : fs[13]? = some (.int (iZ Mfr))) (f14 : fs[14]? = some (.int (iZ Men))) (f9 : fs[9]? = some (.ref Mx)) (f11 : fs[11]? = some (.int (iZ Msz))) (hiw : ((0 ≤ Mfr ∧ Mfr ≤ Men) ∧ (Men ≤ Msz ∧ Msz ≤ 900)) ∧ (0 ≤ Mtk ∧ Mtk ≤ 4)) : SD (σ := ((Nat → Int) × (Nat → Int64) × (Nat → Nat → Int32) × (Nat → Nat → Int64))) sa sv l yX12_isName cX12_isName 2 (some .boolean) 5 D k [.ref hm, .ref sa] [(hm, .inr (12, fs)), (Mx, .inl (k 0, 900, .inl Xf))] (fun u => some (.int (iZ (u.1 0)))) (fun u => (((u.1 0) : Int) = 0 ∨ ((u.1 0) : Int) = 1) ∧ (((u.1 0) : Int) = 1 → Mtk = 2)) (fun u => [(hm, .inr (12, fs)), (Mx, .inl (k 0, 900, .inl Xf))]) := by
  refine MSS (by decide) (Nat.le_of_ble_eq_true rfl) (fun p e s m below meth c ls A hx hb hml hr hlocks hin hts hown hKK hP hD hS hA hSY hRR hl => ?_)
  have hK := hKK.1
  have hl : lv_has ls 2 [(0, .ref hm), (1, .ref sa)] := hl
  refine lv_aload_n hx hb dX12_isName_0 rfl (lv_at hl 0 rfl) ?_
  refine va_get (D := D) (ci := 12) (v := .int (iZ Mtk)) (C := RX12) (T := TX12) (N := 36) hx hb hts iX12 hown hK hP 0 rfl rfl 12 (by decide) (hts _ qf_X12_127) (fun _ h => h) f12 dX12_isName_1 ?_
  refine lv_iconst (v := iZ 2) hx hb dX12_isName_4 (by decide) ?_
  refine lv_icmp_ne (tgt := 35) hx hb dX12_isName_5 (by decide) (fun c_1 => ?_) (fun c_1 => ?_)
  ·
    have c_1 := mt (zeq (x := iZ Mtk) (y := iZ 2) rfl rfl ⟨by omega, by omega⟩ ⟨by omega, by omega⟩).mpr c_1
    refine lv_iconst (v := iZ 0) hx hb dX12_isName_35 (by decide) ?_
    exact EWz hx hb hr hlocks hS (fun i => [0].getD i 0, fun i => [0].getD i 0, fun i => [].getD i (fun _ => 0), fun i => [].getD i (fun _ => 0)) rfl rfl (show ((0 : Int) = 0 ∨ (0 : Int) = 1) ∧ ((0 : Int) = 1 → Mtk = 2) from ⟨by omega, fun _ => by omega⟩) (hP.sub [0, 1] rfl) (hD.sub [0, 1] rfl rfl) dX12_isName_36
  ·
    have c_1 := (zeq (x := iZ Mtk) (y := iZ 2) rfl rfl ⟨by omega, by omega⟩ ⟨by omega, by omega⟩).mp c_1
    refine lv_aload_n hx hb dX12_isName_8 rfl (lv_at hl 0 rfl) ?_
    refine va_get (D := D) (ci := 12) (v := .int (iZ Men)) (C := RX12) (T := TX12) (N := 36) hx hb hts iX12 hown hK hP 0 rfl rfl 14 (by decide) (hts _ qf_X12_115) (fun _ h => h) f14 dX12_isName_9 ?_
    refine lv_aload_n hx hb dX12_isName_12 rfl (lv_at hl 0 rfl) ?_
    refine va_get (D := D) (ci := 12) (v := .int (iZ Mfr)) (C := RX12) (T := TX12) (N := 36) hx hb hts iX12 hown hK hP 0 rfl rfl 13 (by decide) (hts _ qf_X12_121) (fun _ h => h) f13 dX12_isName_13 ?_
    refine lv_isub hx hb dX12_isName_16 ?_
    refine lv_topi (fun x_2 ex_2 => ?_)
    obtain rfl : x_2 = iZ (Men - Mfr) := ex_2.trans (iZ_sub Men Mfr)
    refine lv_bipush (v := iZ 8) hx hb dX12_isName_17 (by decide) ?_
    refine lv_icmp_gt (tgt := 35) hx hb dX12_isName_19 (by decide) (fun c_3 => ?_) (fun c_3 => ?_)
    ·
      have c_3 := (zlt (x := iZ 8) (y := iZ (Men - Mfr)) rfl rfl ⟨by omega, by omega⟩ ⟨by omega, by omega⟩).mp c_3
      refine lv_iconst (v := iZ 0) hx hb dX12_isName_35 (by decide) ?_
      exact EWz hx hb hr hlocks hS (fun i => [0].getD i 0, fun i => [0].getD i 0, fun i => [].getD i (fun _ => 0), fun i => [].getD i (fun _ => 0)) rfl rfl (show ((0 : Int) = 0 ∨ (0 : Int) = 1) ∧ ((0 : Int) = 1 → Mtk = 2) from ⟨by omega, fun _ => by omega⟩) (hP.sub [0, 1] rfl) (hD.sub [0, 1] rfl rfl) dX12_isName_36
    ·
      have c_3 := mt (zlt (x := iZ 8) (y := iZ (Men - Mfr)) rfl rfl ⟨by omega, by omega⟩ ⟨by omega, by omega⟩).mpr c_3
      refine lv_aload_n hx hb dX12_isName_22 rfl (lv_at hl 0 rfl) ?_
      refine lv_aload_n hx hb dX12_isName_23 rfl (lv_at hl 1 rfl) ?_
      refine CSV (As := [.ref sa]) (rest := []) (wc := [(hm, .inr (12, fs)), (Mx, .inl (k 0, 900, .inl Xf))]) (wr := []) hx hb hml hown hts hKK hP hD hS hA hSY hRR (m_inWords l D k sa sv fs hm Mx Msz Mtk Mfr Men Xf f12 f13 f14 f9 f11 ⟨⟨⟨by omega, by omega⟩, by omega, by omega⟩, by omega, by omega⟩) ci_X12_inWords qm_X12_167 ⟨Nat.le_of_ble_eq_true rfl, Nat.le_of_ble_eq_true rfl⟩ ⟨Nat.le_of_ble_eq_true rfl, Nat.le_of_ble_eq_true rfl⟩ [0, 1] [] rfl rfl rfl rfl rfl (by decide) 0 rfl rfl rfl hl.1 rfl (Nat.le_of_ble_eq_true rfl) dX12_isName_24 (fun u_4 H locs hφ hP hD hS => ?_)
      obtain ⟨I_5, L_6, F_7, G_8⟩ := u_4
      have p_10 : ((I_5 0) : Int) = -1 ∨ ((0 ≤ ((I_5 0) : Int) ∧ ((I_5 0) : Int) ≤ 125) ∧ Mtk = 2) := hφ
      refine W.eq (g2 := F0 m 27 ls [.int (iZ (I_5 0))]) rfl ?_
      refine lv_iconst (v := iZ (-1)) hx hb dX12_isName_27 (by decide) ?_
      refine lv_icmp_ne (tgt := 35) hx hb dX12_isName_28 (by decide) (fun c_11 => ?_) (fun c_11 => ?_)
      ·
        have c_11 := mt (zeq (x := iZ (I_5 0)) (y := iZ (-1)) rfl rfl ⟨by omega, by omega⟩ ⟨by omega, by omega⟩).mpr c_11
        refine lv_iconst (v := iZ 0) hx hb dX12_isName_35 (by decide) ?_
        exact EWz hx hb hr hlocks hS (fun i => [0].getD i 0, fun i => [0].getD i 0, fun i => [].getD i (fun _ => 0), fun i => [].getD i (fun _ => 0)) rfl rfl (show ((0 : Int) = 0 ∨ (0 : Int) = 1) ∧ ((0 : Int) = 1 → Mtk = 2) from ⟨by omega, fun _ => by omega⟩) (hP.sub [0, 1] rfl) (hD.sub [0, 1] rfl rfl) dX12_isName_36
      ·
        have c_11 := (zeq (x := iZ (I_5 0)) (y := iZ (-1)) rfl rfl ⟨by omega, by omega⟩ ⟨by omega, by omega⟩).mp c_11
        refine lv_iconst (v := iZ 1) hx hb dX12_isName_31 (by decide) ?_
        refine lv_goto (tgt := 36) hx hb dX12_isName_32 (by decide) ?_
        exact EWz hx hb hr hlocks hS (fun i => [1].getD i 0, fun i => [0].getD i 0, fun i => [].getD i (fun _ => 0), fun i => [].getD i (fun _ => 0)) rfl rfl (show ((1 : Int) = 0 ∨ (1 : Int) = 1) ∧ ((1 : Int) = 1 → Mtk = 2) from ⟨by omega, fun _ => by omega⟩) (hP.sub [0, 1] rfl) (hD.sub [0, 1] rfl rfl) dX12_isName_36
set_option maxHeartbeats 4000000 in
set_option maxRecDepth 100000 in
theorem m_isThere (l : Launch) (D : va_G) (k : Nat → ClassId) (sa sv : Nat) (hm : Nat) (Ma : Nat) (Mn : Nat) (Ms : Nat) (My : Nat) (Mt : Nat) (Mp : Nat) (Mx : Nat) (Mo : Nat) (Mk : Nat) (Ml : Nat) (Mb : Nat) (Mh : Nat) (Mc : Nat) (Mz : Nat) (Mr : Nat) (Mq : Nat) (Mst : Int) (Mtd : Int) (Msz : Int) (Mtk : Int) (Mfr : Int) (Men : Int) (Mva : Int) (Mfk : Int) (Mfp : Int) (Mfs : Int) (Mse : Int) (Mlt : Int) (Mdp : Int) (Mct : Int) (Mdr : Int) (Mrs : Int) (Mit : Int) (Mmk : Int) (Mtp : Int64) (Mbt : Int64) (Xf : Nat → Int32) (x : Int) (hTI : (0 ≤ (Mfr : Int) ∧ (Mfr : Int) ≤ Men) ∧ ((Men : Int) ≤ Msz ∧ (Msz : Int) ≤ 900) ∧ (0 ≤ (Mtk : Int) ∧ (Mtk : Int) ≤ 4) ∧ ((Mtk : Int) = 0 ∨ (Mfr : Int) < Men) ∧ (-1 ≤ (Mva : Int) ∧ (Mva : Int) ≤ 100000)) (h9x : -2147483648 ≤ x ∧ x < 2147483648) : SD (σ := ((Nat → Int) × (Nat → Int64) × (Nat → Nat → Int32) × (Nat → Nat → Int64))) sa sv l yX12_isThere cX12_isThere 2 (some .boolean) 5 D k [.ref hm, .int (iZ x)] [(hm, .inr (12, [.ref Ma, .ref Mn, .int (iZ Mst), .long Mtp, .long Mbt, .ref Ms, .ref My, .ref Mt, .ref Mp, .ref Mx, .int (iZ Mtd), .int (iZ Msz), .int (iZ Mtk), .int (iZ Mfr), .int (iZ Men), .int (iZ Mva), .int (iZ Mfk), .int (iZ Mfp), .int (iZ Mfs), .int (iZ Mse), .int (iZ Mlt), .ref Mo, .int (iZ Mdp), .int (iZ Mct), .ref Mk, .ref Ml, .ref Mb, .ref Mh, .ref Mc, .int (iZ Mdr), .int (iZ Mrs), .ref Mz, .ref Mr, .ref Mq, .int (iZ Mit), .int (iZ Mmk)])), (Mx, .inl (k 0, 900, .inl Xf))] (fun u => some (.int (iZ (u.1 0)))) (fun u => ((0 ≤ ((u.1 2) : Int) ∧ ((u.1 2) : Int) ≤ (u.1 3)) ∧ (((u.1 3) : Int) ≤ Msz ∧ (Msz : Int) ≤ 900) ∧ (0 ≤ ((u.1 1) : Int) ∧ ((u.1 1) : Int) ≤ 4) ∧ (((u.1 1) : Int) = 0 ∨ ((u.1 2) : Int) < (u.1 3)) ∧ (-1 ≤ ((u.1 4) : Int) ∧ ((u.1 4) : Int) ≤ 100000)) ∧ ((((u.1 0) : Int) = 0 ∨ ((u.1 0) : Int) = 1) ∧ Mfr ≤ (u.1 2))) (fun u => [(hm, .inr (12, [.ref Ma, .ref Mn, .int (iZ Mst), .long Mtp, .long Mbt, .ref Ms, .ref My, .ref Mt, .ref Mp, .ref Mx, .int (iZ Mtd), .int (iZ Msz), .int (iZ (u.1 1)), .int (iZ (u.1 2)), .int (iZ (u.1 3)), .int (iZ (u.1 4)), .int (iZ Mfk), .int (iZ Mfp), .int (iZ Mfs), .int (iZ Mse), .int (iZ Mlt), .ref Mo, .int (iZ Mdp), .int (iZ Mct), .ref Mk, .ref Ml, .ref Mb, .ref Mh, .ref Mc, .int (iZ Mdr), .int (iZ Mrs), .ref Mz, .ref Mr, .ref Mq, .int (iZ Mit), .int (iZ Mmk)])), (Mx, .inl (k 0, 900, .inl Xf))]) := by
  refine MSS (by decide) (Nat.le_of_ble_eq_true rfl) (fun p e s m below meth c ls A hx hb hml hr hlocks hin hts hown hKK hP hD hS hA hSY hRR hl => ?_)
  have hK := hKK.1
  have hl : lv_has ls 2 [(0, .ref hm), (1, .int (iZ x))] := hl
  refine lv_aload_n hx hb dX12_isThere_0 rfl (lv_at hl 0 rfl) ?_
  refine va_ldcS hx hb hown hRR dX12_isThere_1 ?_
  refine CSV (As := [.ref sa]) (rest := []) (wc := [(hm, .inr (12, [.ref Ma, .ref Mn, .int (iZ Mst), .long Mtp, .long Mbt, .ref Ms, .ref My, .ref Mt, .ref Mp, .ref Mx, .int (iZ Mtd), .int (iZ Msz), .int (iZ Mtk), .int (iZ Mfr), .int (iZ Men), .int (iZ Mva), .int (iZ Mfk), .int (iZ Mfp), .int (iZ Mfs), .int (iZ Mse), .int (iZ Mlt), .ref Mo, .int (iZ Mdp), .int (iZ Mct), .ref Mk, .ref Ml, .ref Mb, .ref Mh, .ref Mc, .int (iZ Mdr), .int (iZ Mrs), .ref Mz, .ref Mr, .ref Mq, .int (iZ Mit), .int (iZ Mmk)])), (Mx, .inl (k 0, 900, .inl Xf))]) (wr := []) hx hb hml hown hts hKK hP hD hS hA hSY hRR (m_inWords l D k sa sv ([.ref Ma, .ref Mn, .int (iZ Mst), .long Mtp, .long Mbt, .ref Ms, .ref My, .ref Mt, .ref Mp, .ref Mx, .int (iZ Mtd), .int (iZ Msz), .int (iZ Mtk), .int (iZ Mfr), .int (iZ Men), .int (iZ Mva), .int (iZ Mfk), .int (iZ Mfp), .int (iZ Mfs), .int (iZ Mse), .int (iZ Mlt), .ref Mo, .int (iZ Mdp), .int (iZ Mct), .ref Mk, .ref Ml, .ref Mb, .ref Mh, .ref Mc, .int (iZ Mdr), .int (iZ Mrs), .ref Mz, .ref Mr, .ref Mq, .int (iZ Mit), .int (iZ Mmk)]) hm Mx Msz Mtk Mfr Men Xf rfl rfl rfl rfl rfl ⟨⟨⟨by omega, by omega⟩, by omega, by omega⟩, by omega, by omega⟩) ci_X12_inWords qm_X12_167 ⟨Nat.le_of_ble_eq_true rfl, Nat.le_of_ble_eq_true rfl⟩ ⟨Nat.le_of_ble_eq_true rfl, Nat.le_of_ble_eq_true rfl⟩ [0, 1] [] rfl rfl rfl rfl rfl (by decide) 0 rfl rfl rfl hl.1 rfl (Nat.le_of_ble_eq_true rfl) dX12_isThere_3 (fun u_1 H locs hφ hP hD hS => ?_)
  obtain ⟨I_2, L_3, F_4, G_5⟩ := u_1
  have p_7 : ((I_2 0) : Int) = -1 ∨ ((0 ≤ ((I_2 0) : Int) ∧ ((I_2 0) : Int) ≤ 125) ∧ Mtk = 2) := hφ
  refine W.eq (g2 := F0 m 6 ls [.int (iZ (I_2 0))]) rfl ?_
  refine lv_iload_n hx hb dX12_isThere_6 rfl (lv_at hl 1 rfl) ?_
  refine lv_icmp_eq (tgt := 12) hx hb dX12_isThere_7 (by decide) (fun c_8 => ?_) (fun c_8 => ?_)
  ·
    have c_8 := (zeq (x := iZ (I_2 0)) (y := iZ x) rfl rfl ⟨by omega, by omega⟩ ⟨by omega, by omega⟩).mp c_8
    refine lv_aload_n hx hb dX12_isThere_12 rfl (lv_at hl 0 rfl) ?_
    refine CWV (As := []) (rest := []) (wc := [(hm, .inr (12, [.ref Ma, .ref Mn, .int (iZ Mst), .long Mtp, .long Mbt, .ref Ms, .ref My, .ref Mt, .ref Mp, .ref Mx, .int (iZ Mtd), .int (iZ Msz), .int (iZ Mtk), .int (iZ Mfr), .int (iZ Men), .int (iZ Mva), .int (iZ Mfk), .int (iZ Mfp), .int (iZ Mfs), .int (iZ Mse), .int (iZ Mlt), .ref Mo, .int (iZ Mdp), .int (iZ Mct), .ref Mk, .ref Ml, .ref Mb, .ref Mh, .ref Mc, .int (iZ Mdr), .int (iZ Mrs), .ref Mz, .ref Mr, .ref Mq, .int (iZ Mit), .int (iZ Mmk)])), (Mx, .inl (k 0, 900, .inl Xf))]) (wr := []) hx hb hml hown hts hKK hP hD hS hA (m_onward l D k hm Ma Mn Ms My Mt Mp Mx Mo Mk Ml Mb Mh Mc Mz Mr Mq Mst Mtd Msz Mtk Mfr Men Mva Mfk Mfp Mfs Mse Mlt Mdp Mct Mdr Mrs Mit Mmk Mtp Mbt Xf ⟨⟨by omega, by omega⟩, by omega⟩) ci_X12_onward qm_X12_158 ⟨Nat.le_of_ble_eq_true rfl, Nat.le_of_ble_eq_true rfl⟩ ⟨Nat.le_of_ble_eq_true rfl, Nat.le_of_ble_eq_true rfl⟩ [0, 1] [] rfl rfl rfl rfl rfl (by decide) 0 rfl rfl rfl hl.1 rfl (Nat.le_of_ble_eq_true rfl) dX12_isThere_13 (fun u_9 H locs hφ hP hD hS => ?_)
    obtain ⟨I_10, L_11, F_12, G_13⟩ := u_9
    obtain ⟨p_15, p_16⟩ : ((0 ≤ ((I_10 2) : Int) ∧ ((I_10 2) : Int) ≤ (I_10 3)) ∧ (((I_10 3) : Int) ≤ Msz ∧ (Msz : Int) ≤ 900) ∧ (0 ≤ ((I_10 1) : Int) ∧ ((I_10 1) : Int) ≤ 4) ∧ (((I_10 1) : Int) = 0 ∨ ((I_10 2) : Int) < (I_10 3)) ∧ (-1 ≤ ((I_10 4) : Int) ∧ ((I_10 4) : Int) ≤ 100000)) ∧ (Men ≤ (I_10 2)) := hφ
    refine W.eq (g2 := F0 m 16 ls []) rfl ?_
    refine lv_iconst (v := iZ 1) hx hb dX12_isThere_16 (by decide) ?_
    exact EWz hx hb hr hlocks hS (fun i => [1, (I_10 1), (I_10 2), (I_10 3), (I_10 4)].getD i 0, fun i => [0].getD i 0, fun i => [].getD i (fun _ => 0), fun i => [].getD i (fun _ => 0)) rfl rfl ⟨(show (0 ≤ ((I_10 2) : Int) ∧ ((I_10 2) : Int) ≤ (I_10 3)) ∧ (((I_10 3) : Int) ≤ Msz ∧ (Msz : Int) ≤ 900) ∧ (0 ≤ ((I_10 1) : Int) ∧ ((I_10 1) : Int) ≤ 4) ∧ (((I_10 1) : Int) = 0 ∨ ((I_10 2) : Int) < (I_10 3)) ∧ (-1 ≤ ((I_10 4) : Int) ∧ ((I_10 4) : Int) ≤ 100000) from (by first | with_reducible assumption | exact ⟨⟨by omega, by omega⟩, ⟨by omega, by omega⟩, ⟨by omega, by omega⟩, by omega, by omega, by omega⟩)), (show ((1 : Int) = 0 ∨ (1 : Int) = 1) ∧ Mfr ≤ (I_10 2) from (by omega))⟩ (hP.sub [0, 1] rfl) (hD.sub [0, 1] rfl rfl) dX12_isThere_17
  ·
    have c_8 := mt (zeq (x := iZ (I_2 0)) (y := iZ x) rfl rfl ⟨by omega, by omega⟩ ⟨by omega, by omega⟩).mpr c_8
    refine lv_iconst (v := iZ 0) hx hb dX12_isThere_10 (by decide) ?_
    exact EWz hx hb hr hlocks hS (fun i => [0, Mtk, Mfr, Men, Mva].getD i 0, fun i => [0].getD i 0, fun i => [].getD i (fun _ => 0), fun i => [].getD i (fun _ => 0)) rfl rfl ⟨(show (0 ≤ (Mfr : Int) ∧ (Mfr : Int) ≤ Men) ∧ ((Men : Int) ≤ Msz ∧ (Msz : Int) ≤ 900) ∧ (0 ≤ (Mtk : Int) ∧ (Mtk : Int) ≤ 4) ∧ ((Mtk : Int) = 0 ∨ (Mfr : Int) < Men) ∧ (-1 ≤ (Mva : Int) ∧ (Mva : Int) ≤ 100000) from (by first | with_reducible assumption | exact ⟨⟨by omega, by omega⟩, ⟨by omega, by omega⟩, ⟨by omega, by omega⟩, by omega, by omega, by omega⟩)), (show ((0 : Int) = 0 ∨ (0 : Int) = 1) ∧ Mfr ≤ Mfr from (by omega))⟩ (hP.sub [0, 1] rfl) (hD.sub [0, 1] rfl rfl) dX12_isThere_11
set_option maxHeartbeats 4000000 in
set_option maxRecDepth 100000 in
theorem m_wantWord (l : Launch) (D : va_G) (k : Nat → ClassId) (sa sv : Nat) (hm : Nat) (Ma : Nat) (Mn : Nat) (Ms : Nat) (My : Nat) (Mt : Nat) (Mp : Nat) (Mx : Nat) (Mo : Nat) (Mk : Nat) (Ml : Nat) (Mb : Nat) (Mh : Nat) (Mc : Nat) (Mz : Nat) (Mr : Nat) (Mq : Nat) (Mst : Int) (Mtd : Int) (Msz : Int) (Mtk : Int) (Mfr : Int) (Men : Int) (Mva : Int) (Mfk : Int) (Mfp : Int) (Mfs : Int) (Mse : Int) (Mlt : Int) (Mdp : Int) (Mct : Int) (Mdr : Int) (Mrs : Int) (Mit : Int) (Mmk : Int) (Mtp : Int64) (Mbt : Int64) (Xf : Nat → Int32) (x : Int) (hTI : (0 ≤ (Mfr : Int) ∧ (Mfr : Int) ≤ Men) ∧ ((Men : Int) ≤ Msz ∧ (Msz : Int) ≤ 900) ∧ (0 ≤ (Mtk : Int) ∧ (Mtk : Int) ≤ 4) ∧ ((Mtk : Int) = 0 ∨ (Mfr : Int) < Men) ∧ (-1 ≤ (Mva : Int) ∧ (Mva : Int) ≤ 100000)) (hFS : 0 ≤ Mfs ∧ Mfs ≤ 9) (h9x : -2147483648 ≤ x ∧ x < 2147483648) : SD (σ := ((Nat → Int) × (Nat → Int64) × (Nat → Nat → Int32) × (Nat → Nat → Int64))) sa sv l yX12_wantWord cX12_wantWord 3 (some .boolean) 5 D k [.ref hm, .ref sa, .int (iZ x)] [(hm, .inr (12, [.ref Ma, .ref Mn, .int (iZ Mst), .long Mtp, .long Mbt, .ref Ms, .ref My, .ref Mt, .ref Mp, .ref Mx, .int (iZ Mtd), .int (iZ Msz), .int (iZ Mtk), .int (iZ Mfr), .int (iZ Men), .int (iZ Mva), .int (iZ Mfk), .int (iZ Mfp), .int (iZ Mfs), .int (iZ Mse), .int (iZ Mlt), .ref Mo, .int (iZ Mdp), .int (iZ Mct), .ref Mk, .ref Ml, .ref Mb, .ref Mh, .ref Mc, .int (iZ Mdr), .int (iZ Mrs), .ref Mz, .ref Mr, .ref Mq, .int (iZ Mit), .int (iZ Mmk)])), (Mx, .inl (k 0, 900, .inl Xf))] (fun u => some (.int (iZ (u.1 0)))) (fun u => ((0 ≤ ((u.1 2) : Int) ∧ ((u.1 2) : Int) ≤ (u.1 3)) ∧ (((u.1 3) : Int) ≤ Msz ∧ (Msz : Int) ≤ 900) ∧ (0 ≤ ((u.1 1) : Int) ∧ ((u.1 1) : Int) ≤ 4) ∧ (((u.1 1) : Int) = 0 ∨ ((u.1 2) : Int) < (u.1 3)) ∧ (-1 ≤ ((u.1 4) : Int) ∧ ((u.1 4) : Int) ≤ 100000)) ∧ ((0 ≤ ((u.1 5) : Int) ∧ ((u.1 5) : Int) ≤ 9) ∧ (((u.1 0) : Int) = 0 → 1 ≤ ((u.1 5) : Int)) ∧ (((u.1 0) : Int) = 0 ∨ ((u.1 0) : Int) = 1) ∧ Mfr ≤ (u.1 2))) (fun u => [(hm, .inr (12, [.ref Ma, .ref Mn, .int (iZ Mst), .long Mtp, .long Mbt, .ref Ms, .ref My, .ref Mt, .ref Mp, .ref Mx, .int (iZ Mtd), .int (iZ Msz), .int (iZ (u.1 1)), .int (iZ (u.1 2)), .int (iZ (u.1 3)), .int (iZ (u.1 4)), .int (iZ Mfk), .int (iZ (u.1 6)), .int (iZ (u.1 5)), .int (iZ Mse), .int (iZ Mlt), .ref Mo, .int (iZ Mdp), .int (iZ Mct), .ref Mk, .ref Ml, .ref Mb, .ref Mh, .ref Mc, .int (iZ Mdr), .int (iZ Mrs), .ref Mz, .ref Mr, .ref Mq, .int (iZ Mit), .int (iZ Mmk)])), (Mx, .inl (k 0, 900, .inl Xf))]) := by
  refine MSS (by decide) (Nat.le_of_ble_eq_true rfl) (fun p e s m below meth c ls A hx hb hml hr hlocks hin hts hown hKK hP hD hS hA hSY hRR hl => ?_)
  have hK := hKK.1
  have hl : lv_has ls 3 [(0, .ref hm), (1, .ref sa), (2, .int (iZ x))] := hl
  refine lv_aload_n hx hb dX12_wantWord_0 rfl (lv_at hl 0 rfl) ?_
  refine lv_aload_n hx hb dX12_wantWord_1 rfl (lv_at hl 1 rfl) ?_
  refine CSV (As := [.ref sa]) (rest := []) (wc := [(hm, .inr (12, [.ref Ma, .ref Mn, .int (iZ Mst), .long Mtp, .long Mbt, .ref Ms, .ref My, .ref Mt, .ref Mp, .ref Mx, .int (iZ Mtd), .int (iZ Msz), .int (iZ Mtk), .int (iZ Mfr), .int (iZ Men), .int (iZ Mva), .int (iZ Mfk), .int (iZ Mfp), .int (iZ Mfs), .int (iZ Mse), .int (iZ Mlt), .ref Mo, .int (iZ Mdp), .int (iZ Mct), .ref Mk, .ref Ml, .ref Mb, .ref Mh, .ref Mc, .int (iZ Mdr), .int (iZ Mrs), .ref Mz, .ref Mr, .ref Mq, .int (iZ Mit), .int (iZ Mmk)])), (Mx, .inl (k 0, 900, .inl Xf))]) (wr := []) hx hb hml hown hts hKK hP hD hS hA hSY hRR (m_inWords l D k sa sv ([.ref Ma, .ref Mn, .int (iZ Mst), .long Mtp, .long Mbt, .ref Ms, .ref My, .ref Mt, .ref Mp, .ref Mx, .int (iZ Mtd), .int (iZ Msz), .int (iZ Mtk), .int (iZ Mfr), .int (iZ Men), .int (iZ Mva), .int (iZ Mfk), .int (iZ Mfp), .int (iZ Mfs), .int (iZ Mse), .int (iZ Mlt), .ref Mo, .int (iZ Mdp), .int (iZ Mct), .ref Mk, .ref Ml, .ref Mb, .ref Mh, .ref Mc, .int (iZ Mdr), .int (iZ Mrs), .ref Mz, .ref Mr, .ref Mq, .int (iZ Mit), .int (iZ Mmk)]) hm Mx Msz Mtk Mfr Men Xf rfl rfl rfl rfl rfl ⟨⟨⟨by omega, by omega⟩, by omega, by omega⟩, by omega, by omega⟩) ci_X12_inWords qm_X12_167 ⟨Nat.le_of_ble_eq_true rfl, Nat.le_of_ble_eq_true rfl⟩ ⟨Nat.le_of_ble_eq_true rfl, Nat.le_of_ble_eq_true rfl⟩ [0, 1] [] rfl rfl rfl rfl rfl (by decide) 0 rfl rfl rfl hl.1 rfl (Nat.le_of_ble_eq_true rfl) dX12_wantWord_2 (fun u_1 H locs hφ hP hD hS => ?_)
  obtain ⟨I_2, L_3, F_4, G_5⟩ := u_1
  have p_7 : ((I_2 0) : Int) = -1 ∨ ((0 ≤ ((I_2 0) : Int) ∧ ((I_2 0) : Int) ≤ 125) ∧ Mtk = 2) := hφ
  refine W.eq (g2 := F0 m 5 ls [.int (iZ (I_2 0))]) rfl ?_
  refine lv_iload_n hx hb dX12_wantWord_5 rfl (lv_at hl 2 rfl) ?_
  refine lv_icmp_eq (tgt := 15) hx hb dX12_wantWord_6 (by decide) (fun c_8 => ?_) (fun c_8 => ?_)
  ·
    have c_8 := (zeq (x := iZ (I_2 0)) (y := iZ x) rfl rfl ⟨by omega, by omega⟩ ⟨by omega, by omega⟩).mp c_8
    refine lv_aload_n hx hb dX12_wantWord_15 rfl (lv_at hl 0 rfl) ?_
    refine CWV (As := []) (rest := []) (wc := [(hm, .inr (12, [.ref Ma, .ref Mn, .int (iZ Mst), .long Mtp, .long Mbt, .ref Ms, .ref My, .ref Mt, .ref Mp, .ref Mx, .int (iZ Mtd), .int (iZ Msz), .int (iZ Mtk), .int (iZ Mfr), .int (iZ Men), .int (iZ Mva), .int (iZ Mfk), .int (iZ Mfp), .int (iZ Mfs), .int (iZ Mse), .int (iZ Mlt), .ref Mo, .int (iZ Mdp), .int (iZ Mct), .ref Mk, .ref Ml, .ref Mb, .ref Mh, .ref Mc, .int (iZ Mdr), .int (iZ Mrs), .ref Mz, .ref Mr, .ref Mq, .int (iZ Mit), .int (iZ Mmk)])), (Mx, .inl (k 0, 900, .inl Xf))]) (wr := []) hx hb hml hown hts hKK hP hD hS hA (m_onward l D k hm Ma Mn Ms My Mt Mp Mx Mo Mk Ml Mb Mh Mc Mz Mr Mq Mst Mtd Msz Mtk Mfr Men Mva Mfk Mfp Mfs Mse Mlt Mdp Mct Mdr Mrs Mit Mmk Mtp Mbt Xf ⟨⟨by omega, by omega⟩, by omega⟩) ci_X12_onward qm_X12_158 ⟨Nat.le_of_ble_eq_true rfl, Nat.le_of_ble_eq_true rfl⟩ ⟨Nat.le_of_ble_eq_true rfl, Nat.le_of_ble_eq_true rfl⟩ [0, 1] [] rfl rfl rfl rfl rfl (by decide) 0 rfl rfl rfl hl.1 rfl (Nat.le_of_ble_eq_true rfl) dX12_wantWord_16 (fun u_9 H locs hφ hP hD hS => ?_)
    obtain ⟨I_10, L_11, F_12, G_13⟩ := u_9
    obtain ⟨p_15, p_16⟩ : ((0 ≤ ((I_10 2) : Int) ∧ ((I_10 2) : Int) ≤ (I_10 3)) ∧ (((I_10 3) : Int) ≤ Msz ∧ (Msz : Int) ≤ 900) ∧ (0 ≤ ((I_10 1) : Int) ∧ ((I_10 1) : Int) ≤ 4) ∧ (((I_10 1) : Int) = 0 ∨ ((I_10 2) : Int) < (I_10 3)) ∧ (-1 ≤ ((I_10 4) : Int) ∧ ((I_10 4) : Int) ≤ 100000)) ∧ (Men ≤ (I_10 2)) := hφ
    refine W.eq (g2 := F0 m 19 ls []) rfl ?_
    refine lv_iconst (v := iZ 1) hx hb dX12_wantWord_19 (by decide) ?_
    exact EWz hx hb hr hlocks hS (fun i => [1, (I_10 1), (I_10 2), (I_10 3), (I_10 4), Mfs, Mfp].getD i 0, fun i => [0].getD i 0, fun i => [].getD i (fun _ => 0), fun i => [].getD i (fun _ => 0)) rfl rfl ⟨(show (0 ≤ ((I_10 2) : Int) ∧ ((I_10 2) : Int) ≤ (I_10 3)) ∧ (((I_10 3) : Int) ≤ Msz ∧ (Msz : Int) ≤ 900) ∧ (0 ≤ ((I_10 1) : Int) ∧ ((I_10 1) : Int) ≤ 4) ∧ (((I_10 1) : Int) = 0 ∨ ((I_10 2) : Int) < (I_10 3)) ∧ (-1 ≤ ((I_10 4) : Int) ∧ ((I_10 4) : Int) ≤ 100000) from (by first | with_reducible assumption | exact ⟨⟨by omega, by omega⟩, ⟨by omega, by omega⟩, ⟨by omega, by omega⟩, by omega, by omega, by omega⟩)), (show (0 ≤ (Mfs : Int) ∧ (Mfs : Int) ≤ 9) ∧ ((1 : Int) = 0 → 1 ≤ (Mfs : Int)) ∧ ((1 : Int) = 0 ∨ (1 : Int) = 1) ∧ Mfr ≤ (I_10 2) from ⟨⟨by omega, by omega⟩, fun _ => by omega, by omega, by omega⟩)⟩ (hP.sub [0, 1] rfl) (hD.sub [0, 1] rfl rfl) dX12_wantWord_20
  ·
    have c_8 := mt (zeq (x := iZ (I_2 0)) (y := iZ x) rfl rfl ⟨by omega, by omega⟩ ⟨by omega, by omega⟩).mpr c_8
    refine lv_aload_n hx hb dX12_wantWord_9 rfl (lv_at hl 0 rfl) ?_
    refine lv_iconst (v := iZ 2) hx hb dX12_wantWord_10 (by decide) ?_
    refine CWV (As := [.int (iZ 2)]) (rest := []) (wc := [(hm, .inr (12, [.ref Ma, .ref Mn, .int (iZ Mst), .long Mtp, .long Mbt, .ref Ms, .ref My, .ref Mt, .ref Mp, .ref Mx, .int (iZ Mtd), .int (iZ Msz), .int (iZ Mtk), .int (iZ Mfr), .int (iZ Men), .int (iZ Mva), .int (iZ Mfk), .int (iZ Mfp), .int (iZ Mfs), .int (iZ Mse), .int (iZ Mlt), .ref Mo, .int (iZ Mdp), .int (iZ Mct), .ref Mk, .ref Ml, .ref Mb, .ref Mh, .ref Mc, .int (iZ Mdr), .int (iZ Mrs), .ref Mz, .ref Mr, .ref Mq, .int (iZ Mit), .int (iZ Mmk)]))]) (wr := [(Mx, .inl (k 0, 900, .inl Xf))]) hx hb hml hown hts hKK hP hD hS hA (m_fails l D k hm Ma Mn Ms My Mt Mp Mx Mo Mk Ml Mb Mh Mc Mz Mr Mq Mst Mtd Msz Mtk Mfr Men Mva Mfk Mfp Mfs Mse Mlt Mdp Mct Mdr Mrs Mit Mmk Mtp Mbt 2 ⟨by omega, by omega⟩ ⟨by omega, by omega⟩ ⟨by omega, by omega⟩) ci_X12_fails qm_X12_164 ⟨Nat.le_of_ble_eq_true rfl, Nat.le_of_ble_eq_true rfl⟩ ⟨Nat.le_of_ble_eq_true rfl, Nat.le_of_ble_eq_true rfl⟩ [0] [1] rfl rfl rfl rfl rfl (by decide) 0 rfl rfl rfl hl.1 rfl (Nat.le_of_ble_eq_true rfl) dX12_wantWord_11 (fun u_17 H locs hφ hP hD hS => ?_)
    obtain ⟨I_18, L_19, F_20, G_21⟩ := u_17
    have p_23 : 1 ≤ ((I_18 1) : Int) ∧ ((I_18 1) : Int) ≤ 9 := hφ
    refine W.eq (g2 := F0 m 14 ls [.int (iZ 0)]) rfl ?_
    exact EWz hx hb hr hlocks hS (fun i => [0, Mtk, Mfr, Men, Mva, (I_18 1), (I_18 2)].getD i 0, fun i => [0].getD i 0, fun i => [].getD i (fun _ => 0), fun i => [].getD i (fun _ => 0)) rfl rfl ⟨(show (0 ≤ (Mfr : Int) ∧ (Mfr : Int) ≤ Men) ∧ ((Men : Int) ≤ Msz ∧ (Msz : Int) ≤ 900) ∧ (0 ≤ (Mtk : Int) ∧ (Mtk : Int) ≤ 4) ∧ ((Mtk : Int) = 0 ∨ (Mfr : Int) < Men) ∧ (-1 ≤ (Mva : Int) ∧ (Mva : Int) ≤ 100000) from (by first | with_reducible assumption | exact ⟨⟨by omega, by omega⟩, ⟨by omega, by omega⟩, ⟨by omega, by omega⟩, by omega, by omega, by omega⟩)), (show (0 ≤ ((I_18 1) : Int) ∧ ((I_18 1) : Int) ≤ 9) ∧ ((0 : Int) = 0 → 1 ≤ ((I_18 1) : Int)) ∧ ((0 : Int) = 0 ∨ (0 : Int) = 1) ∧ Mfr ≤ Mfr from ⟨⟨by omega, by omega⟩, fun _ => by omega, by omega, by omega⟩)⟩ (hP.sub [1, 0] rfl) (hD.sub [1, 0] rfl rfl) dX12_wantWord_14
set_option maxHeartbeats 4000000 in
set_option maxRecDepth 100000 in
theorem m_oldOne (l : Launch) (D : va_G) (k : Nat → ClassId) (sa sv : Nat) (hm : Nat) (Ma : Nat) (Mn : Nat) (Ms : Nat) (My : Nat) (Mt : Nat) (Mp : Nat) (Mx : Nat) (Mo : Nat) (Mk : Nat) (Ml : Nat) (Mb : Nat) (Mh : Nat) (Mc : Nat) (Mz : Nat) (Mr : Nat) (Mq : Nat) (Mst : Int) (Mtd : Int) (Msz : Int) (Mtk : Int) (Mfr : Int) (Men : Int) (Mva : Int) (Mfk : Int) (Mfp : Int) (Mfs : Int) (Mse : Int) (Mlt : Int) (Mdp : Int) (Mct : Int) (Mdr : Int) (Mrs : Int) (Mit : Int) (Mmk : Int) (Mtp : Int64) (Mbt : Int64) (Xf : Nat → Int32) (Af : Nat → Int32) (Nf : Nat → Int64) (x : Int) (y : Int) (w : Int) (hTI : (0 ≤ (Mfr : Int) ∧ (Mfr : Int) ≤ Men) ∧ ((Men : Int) ≤ Msz ∧ (Msz : Int) ≤ 900) ∧ (0 ≤ (Mtk : Int) ∧ (Mtk : Int) ≤ 4) ∧ ((Mtk : Int) = 0 ∨ (Mfr : Int) < Men) ∧ (-1 ≤ (Mva : Int) ∧ (Mva : Int) ≤ 100000)) (hFS : 0 ≤ Mfs ∧ Mfs ≤ 9) (h9x : 0 ≤ x ∧ x ≤ 30) (h9y : 0 ≤ y ∧ y ≤ 6) (h9w : 3560 ≤ w ∧ w < 5340) : SD (σ := ((Nat → Int) × (Nat → Int64) × (Nat → Nat → Int32) × (Nat → Nat → Int64))) sa sv l yX12_oldOne cX12_oldOne 4 (some .boolean) 6 D k [.ref hm, .int (iZ x), .int (iZ y), .int (iZ w)] [(hm, .inr (12, [.ref Ma, .ref Mn, .int (iZ Mst), .long Mtp, .long Mbt, .ref Ms, .ref My, .ref Mt, .ref Mp, .ref Mx, .int (iZ Mtd), .int (iZ Msz), .int (iZ Mtk), .int (iZ Mfr), .int (iZ Men), .int (iZ Mva), .int (iZ Mfk), .int (iZ Mfp), .int (iZ Mfs), .int (iZ Mse), .int (iZ Mlt), .ref Mo, .int (iZ Mdp), .int (iZ Mct), .ref Mk, .ref Ml, .ref Mb, .ref Mh, .ref Mc, .int (iZ Mdr), .int (iZ Mrs), .ref Mz, .ref Mr, .ref Mq, .int (iZ Mit), .int (iZ Mmk)])), (Mx, .inl (k 0, 900, .inl Xf)), (Ma, .inl (k 1, 5340, .inl Af)), (Mn, .inl (k 2, 36, .inr (.inl Nf)))] (fun u => some (.int (iZ (u.1 0)))) (fun u => ((0 ≤ ((u.1 2) : Int) ∧ ((u.1 2) : Int) ≤ (u.1 3)) ∧ (((u.1 3) : Int) ≤ Msz ∧ (Msz : Int) ≤ 900) ∧ (0 ≤ ((u.1 1) : Int) ∧ ((u.1 1) : Int) ≤ 4) ∧ (((u.1 1) : Int) = 0 ∨ ((u.1 2) : Int) < (u.1 3)) ∧ (-1 ≤ ((u.1 4) : Int) ∧ ((u.1 4) : Int) ≤ 100000)) ∧ ((0 ≤ ((u.1 5) : Int) ∧ ((u.1 5) : Int) ≤ 9) ∧ (((u.1 0) : Int) = 0 → 1 ≤ ((u.1 5) : Int)) ∧ (((u.1 0) : Int) = 0 ∨ ((u.1 0) : Int) = 1) ∧ Mfr ≤ (u.1 2)) ∧ ((((u.1 0) : Int) = 0 ∧ KP (u.2.2.1 0) Af) ∨ (((u.1 0) : Int) = 1 ∧ ∃ v6 : Int, 0 ≤ v6 ∧ v6 < y ∧ (u.2.2.1 0) = upd Af (iZ w).toNatClampNeg (iZ v6)))) (fun u => [(hm, .inr (12, [.ref Ma, .ref Mn, .int (iZ Mst), .long Mtp, .long Mbt, .ref Ms, .ref My, .ref Mt, .ref Mp, .ref Mx, .int (iZ Mtd), .int (iZ Msz), .int (iZ (u.1 1)), .int (iZ (u.1 2)), .int (iZ (u.1 3)), .int (iZ (u.1 4)), .int (iZ Mfk), .int (iZ (u.1 6)), .int (iZ (u.1 5)), .int (iZ Mse), .int (iZ Mlt), .ref Mo, .int (iZ Mdp), .int (iZ Mct), .ref Mk, .ref Ml, .ref Mb, .ref Mh, .ref Mc, .int (iZ Mdr), .int (iZ Mrs), .ref Mz, .ref Mr, .ref Mq, .int (iZ Mit), .int (iZ Mmk)])), (Mx, .inl (k 0, 900, .inl Xf)), (Ma, .inl (k 1, 5340, .inl (u.2.2.1 0))), (Mn, .inl (k 2, 36, .inr (.inl Nf)))]) := by
  refine MSS (by decide) (Nat.le_of_ble_eq_true rfl) (fun p e s m below meth c ls A hx hb hml hr hlocks hin hts hown hKK hP hD hS hA hSY hRR hl => ?_)
  have hK := hKK.1
  have hl : lv_has ls 4 [(0, .ref hm), (1, .int (iZ x)), (2, .int (iZ y)), (3, .int (iZ w))] := hl
  refine lv_aload_n hx hb dX12_oldOne_0 rfl (lv_at hl 0 rfl) ?_
  refine va_ldcS hx hb hown hRR dX12_oldOne_1 ?_
  refine CSV (As := [.ref sa]) (rest := []) (wc := [(hm, .inr (12, [.ref Ma, .ref Mn, .int (iZ Mst), .long Mtp, .long Mbt, .ref Ms, .ref My, .ref Mt, .ref Mp, .ref Mx, .int (iZ Mtd), .int (iZ Msz), .int (iZ Mtk), .int (iZ Mfr), .int (iZ Men), .int (iZ Mva), .int (iZ Mfk), .int (iZ Mfp), .int (iZ Mfs), .int (iZ Mse), .int (iZ Mlt), .ref Mo, .int (iZ Mdp), .int (iZ Mct), .ref Mk, .ref Ml, .ref Mb, .ref Mh, .ref Mc, .int (iZ Mdr), .int (iZ Mrs), .ref Mz, .ref Mr, .ref Mq, .int (iZ Mit), .int (iZ Mmk)])), (Mx, .inl (k 0, 900, .inl Xf))]) (wr := [(Ma, .inl (k 1, 5340, .inl Af)), (Mn, .inl (k 2, 36, .inr (.inl Nf)))]) hx hb hml hown hts hKK hP hD hS hA hSY hRR (m_isName l D k sa sv ([.ref Ma, .ref Mn, .int (iZ Mst), .long Mtp, .long Mbt, .ref Ms, .ref My, .ref Mt, .ref Mp, .ref Mx, .int (iZ Mtd), .int (iZ Msz), .int (iZ Mtk), .int (iZ Mfr), .int (iZ Men), .int (iZ Mva), .int (iZ Mfk), .int (iZ Mfp), .int (iZ Mfs), .int (iZ Mse), .int (iZ Mlt), .ref Mo, .int (iZ Mdp), .int (iZ Mct), .ref Mk, .ref Ml, .ref Mb, .ref Mh, .ref Mc, .int (iZ Mdr), .int (iZ Mrs), .ref Mz, .ref Mr, .ref Mq, .int (iZ Mit), .int (iZ Mmk)]) hm Mx Msz Mtk Mfr Men Xf rfl rfl rfl rfl rfl ⟨⟨⟨by omega, by omega⟩, by omega, by omega⟩, by omega, by omega⟩) ci_X12_isName qm_X12_177 ⟨Nat.le_of_ble_eq_true rfl, Nat.le_of_ble_eq_true rfl⟩ ⟨Nat.le_of_ble_eq_true rfl, Nat.le_of_ble_eq_true rfl⟩ [0, 1] [2, 3] rfl rfl rfl rfl rfl (by decide) 0 rfl rfl rfl hl.1 rfl (Nat.le_of_ble_eq_true rfl) dX12_oldOne_3 (fun u_1 H locs hφ hP hD hS => ?_)
  obtain ⟨I_2, L_3, F_4, G_5⟩ := u_1
  have p_7 : (((I_2 0) : Int) = 0 ∨ ((I_2 0) : Int) = 1) ∧ (((I_2 0) : Int) = 1 → Mtk = 2) := hφ
  refine W.eq (g2 := F0 m 6 ls [.int (iZ (I_2 0))]) rfl ?_
  rcases (show ((I_2 0) = 0) ∨ ((I_2 0) = 1) from (by omega)) with s_8 | s_8
  ·
    rw [s_8]
    refine lv_if_ne (tgt := 15) hx hb dX12_oldOne_6 (by decide) (fun c => absurd (by decide) c) (fun _ => ?_)
    refine lv_aload_n hx hb dX12_oldOne_9 rfl (lv_at hl 0 rfl) ?_
    refine lv_iconst (v := iZ 2) hx hb dX12_oldOne_10 (by decide) ?_
    refine CWV (As := [.int (iZ 2)]) (rest := []) (wc := [(hm, .inr (12, [.ref Ma, .ref Mn, .int (iZ Mst), .long Mtp, .long Mbt, .ref Ms, .ref My, .ref Mt, .ref Mp, .ref Mx, .int (iZ Mtd), .int (iZ Msz), .int (iZ Mtk), .int (iZ Mfr), .int (iZ Men), .int (iZ Mva), .int (iZ Mfk), .int (iZ Mfp), .int (iZ Mfs), .int (iZ Mse), .int (iZ Mlt), .ref Mo, .int (iZ Mdp), .int (iZ Mct), .ref Mk, .ref Ml, .ref Mb, .ref Mh, .ref Mc, .int (iZ Mdr), .int (iZ Mrs), .ref Mz, .ref Mr, .ref Mq, .int (iZ Mit), .int (iZ Mmk)]))]) (wr := [(Ma, .inl (k 1, 5340, .inl Af)), (Mn, .inl (k 2, 36, .inr (.inl Nf))), (Mx, .inl (k 0, 900, .inl Xf))]) hx hb hml hown hts hKK hP hD hS hA (m_fails l D k hm Ma Mn Ms My Mt Mp Mx Mo Mk Ml Mb Mh Mc Mz Mr Mq Mst Mtd Msz Mtk Mfr Men Mva Mfk Mfp Mfs Mse Mlt Mdp Mct Mdr Mrs Mit Mmk Mtp Mbt 2 ⟨by omega, by omega⟩ ⟨by omega, by omega⟩ ⟨by omega, by omega⟩) ci_X12_fails qm_X12_164 ⟨Nat.le_of_ble_eq_true rfl, Nat.le_of_ble_eq_true rfl⟩ ⟨Nat.le_of_ble_eq_true rfl, Nat.le_of_ble_eq_true rfl⟩ [2] [0, 1, 3] rfl rfl rfl rfl rfl (by decide) 0 rfl rfl rfl hl.1 rfl (Nat.le_of_ble_eq_true rfl) dX12_oldOne_11 (fun u_10 H locs hφ hP hD hS => ?_)
    obtain ⟨I_11, L_12, F_13, G_14⟩ := u_10
    have p_16 : 1 ≤ ((I_11 1) : Int) ∧ ((I_11 1) : Int) ≤ 9 := hφ
    refine W.eq (g2 := F0 m 14 ls [.int (iZ 0)]) rfl ?_
    exact EWz hx hb hr hlocks hS (fun i => [0, Mtk, Mfr, Men, Mva, (I_11 1), (I_11 2)].getD i 0, fun i => [0].getD i 0, fun i => [Af].getD i (fun _ => 0), fun i => [].getD i (fun _ => 0)) rfl rfl ⟨(show (0 ≤ (Mfr : Int) ∧ (Mfr : Int) ≤ Men) ∧ ((Men : Int) ≤ Msz ∧ (Msz : Int) ≤ 900) ∧ (0 ≤ (Mtk : Int) ∧ (Mtk : Int) ≤ 4) ∧ ((Mtk : Int) = 0 ∨ (Mfr : Int) < Men) ∧ (-1 ≤ (Mva : Int) ∧ (Mva : Int) ≤ 100000) from (by first | with_reducible assumption | exact ⟨⟨by omega, by omega⟩, ⟨by omega, by omega⟩, ⟨by omega, by omega⟩, by omega, by omega, by omega⟩)), (show (0 ≤ ((I_11 1) : Int) ∧ ((I_11 1) : Int) ≤ 9) ∧ ((0 : Int) = 0 → 1 ≤ ((I_11 1) : Int)) ∧ ((0 : Int) = 0 ∨ (0 : Int) = 1) ∧ Mfr ≤ Mfr from ⟨⟨by omega, by omega⟩, fun _ => by omega, by omega, by omega⟩), (show ((0 : Int) = 0 ∧ KP Af Af) ∨ ((0 : Int) = 1 ∧ ∃ v6 : Int, 0 ≤ v6 ∧ v6 < y ∧ Af = upd Af (iZ w).toNatClampNeg (iZ v6)) from (Or.inl ⟨rfl, KP.rf _⟩))⟩ (hP.sub [3, 2, 0, 1] rfl) (hD.sub [3, 2, 0, 1] rfl rfl) dX12_oldOne_14
  ·
    rw [s_8]
    refine lv_if_ne (tgt := 15) hx hb dX12_oldOne_6 (by decide) (fun _ => ?_) (fun c => absurd c (by decide))
    refine lv_aload_n hx hb dX12_oldOne_15 rfl (lv_at hl 0 rfl) ?_
    refine va_get (D := D) (ci := 12) (v := .ref Ma) (C := RX12) (T := TX12) (N := 36) hx hb hts iX12 hown hK hP 2 rfl rfl 0 (by decide) (hts _ qf_X12_7) (fun _ h => h) rfl dX12_oldOne_16 ?_
    refine lv_iload_n hx hb dX12_oldOne_19 rfl (lv_at hl 3 rfl) ?_
    refine lv_aload_n hx hb dX12_oldOne_20 rfl (lv_at hl 0 rfl) ?_
    refine lv_iload_n hx hb dX12_oldOne_21 rfl (lv_at hl 1 rfl) ?_
    refine lv_iload_n hx hb dX12_oldOne_22 rfl (lv_at hl 2 rfl) ?_
    refine CWV (As := [.int (iZ x), .int (iZ y)]) (rest := [.int (iZ w), .ref Ma]) (wc := [(hm, .inr (12, [.ref Ma, .ref Mn, .int (iZ Mst), .long Mtp, .long Mbt, .ref Ms, .ref My, .ref Mt, .ref Mp, .ref Mx, .int (iZ Mtd), .int (iZ Msz), .int (iZ Mtk), .int (iZ Mfr), .int (iZ Men), .int (iZ Mva), .int (iZ Mfk), .int (iZ Mfp), .int (iZ Mfs), .int (iZ Mse), .int (iZ Mlt), .ref Mo, .int (iZ Mdp), .int (iZ Mct), .ref Mk, .ref Ml, .ref Mb, .ref Mh, .ref Mc, .int (iZ Mdr), .int (iZ Mrs), .ref Mz, .ref Mr, .ref Mq, .int (iZ Mit), .int (iZ Mmk)])), (Mx, .inl (k 0, 900, .inl Xf)), (Mn, .inl (k 2, 36, .inr (.inl Nf)))]) (wr := [(Ma, .inl (k 1, 5340, .inl Af))]) hx hb hml hown hts hKK hP hD hS hA (m_findHere l D k ([.ref Ma, .ref Mn, .int (iZ Mst), .long Mtp, .long Mbt, .ref Ms, .ref My, .ref Mt, .ref Mp, .ref Mx, .int (iZ Mtd), .int (iZ Msz), .int (iZ Mtk), .int (iZ Mfr), .int (iZ Men), .int (iZ Mva), .int (iZ Mfk), .int (iZ Mfp), .int (iZ Mfs), .int (iZ Mse), .int (iZ Mlt), .ref Mo, .int (iZ Mdp), .int (iZ Mct), .ref Mk, .ref Ml, .ref Mb, .ref Mh, .ref Mc, .int (iZ Mdr), .int (iZ Mrs), .ref Mz, .ref Mr, .ref Mq, .int (iZ Mit), .int (iZ Mmk)]) hm Mx Mn Msz Mfr Men x y Xf Nf rfl rfl rfl rfl rfl ⟨⟨by omega, by omega⟩, by omega, by omega⟩ ⟨by omega, by omega⟩ ⟨by omega, by omega⟩) ci_X12_findHere qm_X12_181 ⟨Nat.le_of_ble_eq_true rfl, Nat.le_of_ble_eq_true rfl⟩ ⟨Nat.le_of_ble_eq_true rfl, Nat.le_of_ble_eq_true rfl⟩ [2, 3, 1] [0] rfl rfl rfl rfl rfl (by decide) 0 rfl rfl rfl hl.1 rfl (Nat.le_of_ble_eq_true rfl) dX12_oldOne_23 (fun u_18 H locs hφ hP hD hS => ?_)
    obtain ⟨I_19, L_20, F_21, G_22⟩ := u_18
    have p_24 : -1 ≤ (I_19 0) ∧ ((I_19 0) < y ∨ (I_19 0) = -1) := hφ
    refine W.eq (g2 := F0 m 26 ls [.int (iZ (I_19 0)), .int (iZ w), .ref Ma]) rfl ?_
    refine va_iast hx hb hK hP hD hS 0 1 rfl rfl (zin (e := w) (n := 5340) ⟨by omega, by omega⟩ (by decide)) dX12_oldOne_26 (fun H locs hP hD hS => ?_)
    obtain ⟨f_25, hf_25⟩ : ∃ gg9, gg9 = upd Af (iZ w).toNatClampNeg (iZ (I_19 0)) := ⟨_, rfl⟩
    rw [← hf_25] at hP hD
    refine lv_aload_n hx hb dX12_oldOne_27 rfl (lv_at hl 0 rfl) ?_
    refine va_get (D := D) (ci := 12) (v := .ref Ma) (C := RX12) (T := TX12) (N := 36) hx hb hts iX12 hown hK hP 1 rfl rfl 0 (by decide) (hts _ qf_X12_7) (fun _ h => h) rfl dX12_oldOne_28 ?_
    refine lv_iload_n hx hb dX12_oldOne_31 rfl (lv_at hl 3 rfl) ?_
    refine va_iald hx hb hK hP 0 1 rfl rfl (zin (e := w) (n := 5340) ⟨by omega, by omega⟩ (by decide)) dX12_oldOne_32 ?_
    refine lv_topi (fun x_26 ex_26 => ?_)
    obtain rfl : x_26 = iZ (gz f_25 w) := ex_26.trans (gz_eq ⟨by omega, by omega⟩)
    have h_27 := gz_rg f_25 w
    have uh_27 := gz_up hf_25 ⟨by omega, by omega⟩ ⟨by omega, by omega⟩ (j := w) (by omega)
    rw [if_pos rfl] at uh_27
    refine lv_iconst (v := iZ (-1)) hx hb dX12_oldOne_33 (by decide) ?_
    refine lv_icmp_ne (tgt := 43) hx hb dX12_oldOne_34 (by decide) (fun c_28 => ?_) (fun c_28 => ?_)
    ·
      have c_28 := mt (zeq (x := iZ (gz f_25 w)) (y := iZ (-1)) rfl rfl ⟨by omega, by omega⟩ ⟨by omega, by omega⟩).mpr c_28
      refine lv_aload_n hx hb dX12_oldOne_43 rfl (lv_at hl 0 rfl) ?_
      refine CWV (As := []) (rest := []) (wc := [(hm, .inr (12, [.ref Ma, .ref Mn, .int (iZ Mst), .long Mtp, .long Mbt, .ref Ms, .ref My, .ref Mt, .ref Mp, .ref Mx, .int (iZ Mtd), .int (iZ Msz), .int (iZ Mtk), .int (iZ Mfr), .int (iZ Men), .int (iZ Mva), .int (iZ Mfk), .int (iZ Mfp), .int (iZ Mfs), .int (iZ Mse), .int (iZ Mlt), .ref Mo, .int (iZ Mdp), .int (iZ Mct), .ref Mk, .ref Ml, .ref Mb, .ref Mh, .ref Mc, .int (iZ Mdr), .int (iZ Mrs), .ref Mz, .ref Mr, .ref Mq, .int (iZ Mit), .int (iZ Mmk)])), (Mx, .inl (k 0, 900, .inl Xf))]) (wr := [(Ma, .inl (k 1, 5340, .inl f_25)), (Mn, .inl (k 2, 36, .inr (.inl Nf)))]) hx hb hml hown hts hKK hP hD hS hA (m_onward l D k hm Ma Mn Ms My Mt Mp Mx Mo Mk Ml Mb Mh Mc Mz Mr Mq Mst Mtd Msz Mtk Mfr Men Mva Mfk Mfp Mfs Mse Mlt Mdp Mct Mdr Mrs Mit Mmk Mtp Mbt Xf ⟨⟨by omega, by omega⟩, by omega⟩) ci_X12_onward qm_X12_158 ⟨Nat.le_of_ble_eq_true rfl, Nat.le_of_ble_eq_true rfl⟩ ⟨Nat.le_of_ble_eq_true rfl, Nat.le_of_ble_eq_true rfl⟩ [1, 2] [0, 3] rfl rfl rfl rfl rfl (by decide) 0 rfl rfl rfl hl.1 rfl (Nat.le_of_ble_eq_true rfl) dX12_oldOne_44 (fun u_29 H locs hφ hP hD hS => ?_)
      obtain ⟨I_30, L_31, F_32, G_33⟩ := u_29
      obtain ⟨p_35, p_36⟩ : ((0 ≤ ((I_30 2) : Int) ∧ ((I_30 2) : Int) ≤ (I_30 3)) ∧ (((I_30 3) : Int) ≤ Msz ∧ (Msz : Int) ≤ 900) ∧ (0 ≤ ((I_30 1) : Int) ∧ ((I_30 1) : Int) ≤ 4) ∧ (((I_30 1) : Int) = 0 ∨ ((I_30 2) : Int) < (I_30 3)) ∧ (-1 ≤ ((I_30 4) : Int) ∧ ((I_30 4) : Int) ≤ 100000)) ∧ (Men ≤ (I_30 2)) := hφ
      refine W.eq (g2 := F0 m 47 ls []) rfl ?_
      refine lv_iconst (v := iZ 1) hx hb dX12_oldOne_47 (by decide) ?_
      exact EWz hx hb hr hlocks hS (fun i => [1, (I_30 1), (I_30 2), (I_30 3), (I_30 4), Mfs, Mfp].getD i 0, fun i => [0].getD i 0, fun i => [f_25].getD i (fun _ => 0), fun i => [].getD i (fun _ => 0)) rfl rfl ⟨(show (0 ≤ ((I_30 2) : Int) ∧ ((I_30 2) : Int) ≤ (I_30 3)) ∧ (((I_30 3) : Int) ≤ Msz ∧ (Msz : Int) ≤ 900) ∧ (0 ≤ ((I_30 1) : Int) ∧ ((I_30 1) : Int) ≤ 4) ∧ (((I_30 1) : Int) = 0 ∨ ((I_30 2) : Int) < (I_30 3)) ∧ (-1 ≤ ((I_30 4) : Int) ∧ ((I_30 4) : Int) ≤ 100000) from (by first | with_reducible assumption | exact ⟨⟨by omega, by omega⟩, ⟨by omega, by omega⟩, ⟨by omega, by omega⟩, by omega, by omega, by omega⟩)), (show (0 ≤ (Mfs : Int) ∧ (Mfs : Int) ≤ 9) ∧ ((1 : Int) = 0 → 1 ≤ (Mfs : Int)) ∧ ((1 : Int) = 0 ∨ (1 : Int) = 1) ∧ Mfr ≤ (I_30 2) from ⟨⟨by omega, by omega⟩, fun _ => by omega, by omega, by omega⟩), (show ((1 : Int) = 0 ∧ KP f_25 Af) ∨ ((1 : Int) = 1 ∧ ∃ v6 : Int, 0 ≤ v6 ∧ v6 < y ∧ f_25 = upd Af (iZ w).toNatClampNeg (iZ v6)) from (Or.inr ⟨rfl, (I_19 0), by omega, by omega, hf_25⟩))⟩ (hP.sub [2, 3, 0, 1] rfl) (hD.sub [2, 3, 0, 1] rfl rfl) dX12_oldOne_48
    ·
      have c_28 := (zeq (x := iZ (gz f_25 w)) (y := iZ (-1)) rfl rfl ⟨by omega, by omega⟩ ⟨by omega, by omega⟩).mp c_28
      refine lv_aload_n hx hb dX12_oldOne_37 rfl (lv_at hl 0 rfl) ?_
      refine lv_iconst (v := iZ 3) hx hb dX12_oldOne_38 (by decide) ?_
      refine CWV (As := [.int (iZ 3)]) (rest := []) (wc := [(hm, .inr (12, [.ref Ma, .ref Mn, .int (iZ Mst), .long Mtp, .long Mbt, .ref Ms, .ref My, .ref Mt, .ref Mp, .ref Mx, .int (iZ Mtd), .int (iZ Msz), .int (iZ Mtk), .int (iZ Mfr), .int (iZ Men), .int (iZ Mva), .int (iZ Mfk), .int (iZ Mfp), .int (iZ Mfs), .int (iZ Mse), .int (iZ Mlt), .ref Mo, .int (iZ Mdp), .int (iZ Mct), .ref Mk, .ref Ml, .ref Mb, .ref Mh, .ref Mc, .int (iZ Mdr), .int (iZ Mrs), .ref Mz, .ref Mr, .ref Mq, .int (iZ Mit), .int (iZ Mmk)]))]) (wr := [(Ma, .inl (k 1, 5340, .inl f_25)), (Mx, .inl (k 0, 900, .inl Xf)), (Mn, .inl (k 2, 36, .inr (.inl Nf)))]) hx hb hml hown hts hKK hP hD hS hA (m_fails l D k hm Ma Mn Ms My Mt Mp Mx Mo Mk Ml Mb Mh Mc Mz Mr Mq Mst Mtd Msz Mtk Mfr Men Mva Mfk Mfp Mfs Mse Mlt Mdp Mct Mdr Mrs Mit Mmk Mtp Mbt 3 ⟨by omega, by omega⟩ ⟨by omega, by omega⟩ ⟨by omega, by omega⟩) ci_X12_fails qm_X12_164 ⟨Nat.le_of_ble_eq_true rfl, Nat.le_of_ble_eq_true rfl⟩ ⟨Nat.le_of_ble_eq_true rfl, Nat.le_of_ble_eq_true rfl⟩ [1] [0, 2, 3] rfl rfl rfl rfl rfl (by decide) 0 rfl rfl rfl hl.1 rfl (Nat.le_of_ble_eq_true rfl) dX12_oldOne_39 (fun u_37 H locs hφ hP hD hS => ?_)
      obtain ⟨I_38, L_39, F_40, G_41⟩ := u_37
      have p_43 : 1 ≤ ((I_38 1) : Int) ∧ ((I_38 1) : Int) ≤ 9 := hφ
      refine W.eq (g2 := F0 m 42 ls [.int (iZ 0)]) rfl ?_
      exact EWz hx hb hr hlocks hS (fun i => [0, Mtk, Mfr, Men, Mva, (I_38 1), (I_38 2)].getD i 0, fun i => [0].getD i 0, fun i => [f_25].getD i (fun _ => 0), fun i => [].getD i (fun _ => 0)) rfl rfl ⟨(show (0 ≤ (Mfr : Int) ∧ (Mfr : Int) ≤ Men) ∧ ((Men : Int) ≤ Msz ∧ (Msz : Int) ≤ 900) ∧ (0 ≤ (Mtk : Int) ∧ (Mtk : Int) ≤ 4) ∧ ((Mtk : Int) = 0 ∨ (Mfr : Int) < Men) ∧ (-1 ≤ (Mva : Int) ∧ (Mva : Int) ≤ 100000) from (by first | with_reducible assumption | exact ⟨⟨by omega, by omega⟩, ⟨by omega, by omega⟩, ⟨by omega, by omega⟩, by omega, by omega, by omega⟩)), (show (0 ≤ ((I_38 1) : Int) ∧ ((I_38 1) : Int) ≤ 9) ∧ ((0 : Int) = 0 → 1 ≤ ((I_38 1) : Int)) ∧ ((0 : Int) = 0 ∨ (0 : Int) = 1) ∧ Mfr ≤ Mfr from ⟨⟨by omega, by omega⟩, fun _ => by omega, by omega, by omega⟩), (show ((0 : Int) = 0 ∧ KP f_25 Af) ∨ ((0 : Int) = 1 ∧ ∃ v6 : Int, 0 ≤ v6 ∧ v6 < y ∧ f_25 = upd Af (iZ w).toNatClampNeg (iZ v6)) from (Or.inl ⟨rfl, KP.up hf_25 ⟨by omega, by omega⟩ ⟨by omega, by omega⟩⟩))⟩ (hP.sub [3, 1, 0, 2] rfl) (hD.sub [3, 1, 0, 2] rfl rfl) dX12_oldOne_42
