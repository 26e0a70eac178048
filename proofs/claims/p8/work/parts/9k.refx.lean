set_option maxHeartbeats 4000000 in
set_option maxRecDepth 100000 in
theorem m_four (l : Launch) (D : va_G) (k : Nat → ClassId) (hm : Nat) (Ma : Nat) (Mn : Nat) (Ms : Nat) (My : Nat) (Mt : Nat) (Mp : Nat) (Mx : Nat) (Mo : Nat) (Mk : Nat) (Ml : Nat) (Mb : Nat) (Mh : Nat) (Mc : Nat) (Mz : Nat) (Mr : Nat) (Mq : Nat) (Mst : Int) (Mtd : Int) (Msz : Int) (Mtk : Int) (Mfr : Int) (Men : Int) (Mva : Int) (Mfk : Int) (Mfp : Int) (Mfs : Int) (Mse : Int) (Mlt : Int) (Mdp : Int) (Mct : Int) (Mdr : Int) (Mrs : Int) (Mit : Int) (Mmk : Int) (Mtp : Int64) (Mbt : Int64) (Pf : Nat → Int32) (x : Int) (ht : 0 ≤ Mtd ∧ Mtd ≤ 896) : WD (σ := ((Nat → Int) × (Nat → Int64) × (Nat → Nat → Int32) × (Nat → Nat → Int64))) l yX12_four cX12_four 3 none 0 0 0 D k [.ref hm, .int (iZ x)] [(hm, .inr (12, [.ref Ma, .ref Mn, .int (iZ Mst), .long Mtp, .long Mbt, .ref Ms, .ref My, .ref Mt, .ref Mp, .ref Mx, .int (iZ Mtd), .int (iZ Msz), .int (iZ Mtk), .int (iZ Mfr), .int (iZ Men), .int (iZ Mva), .int (iZ Mfk), .int (iZ Mfp), .int (iZ Mfs), .int (iZ Mse), .int (iZ Mlt), .ref Mo, .int (iZ Mdp), .int (iZ Mct), .ref Mk, .ref Ml, .ref Mb, .ref Mh, .ref Mc, .int (iZ Mdr), .int (iZ Mrs), .ref Mz, .ref Mr, .ref Mq, .int (iZ Mit), .int (iZ Mmk)])), (Mp, .inl (k 0, 900, .inl Pf))] (fun _ => none) (fun u => (u.1 1) = Mtd + 4) (fun u => [(hm, .inr (12, [.ref Ma, .ref Mn, .int (iZ Mst), .long Mtp, .long Mbt, .ref Ms, .ref My, .ref Mt, .ref Mp, .ref Mx, .int (iZ (u.1 1)), .int (iZ Msz), .int (iZ Mtk), .int (iZ Mfr), .int (iZ Men), .int (iZ Mva), .int (iZ Mfk), .int (iZ Mfp), .int (iZ Mfs), .int (iZ Mse), .int (iZ Mlt), .ref Mo, .int (iZ Mdp), .int (iZ Mct), .ref Mk, .ref Ml, .ref Mb, .ref Mh, .ref Mc, .int (iZ Mdr), .int (iZ Mrs), .ref Mz, .ref Mr, .ref Mq, .int (iZ Mit), .int (iZ Mmk)])), (Mp, .inl (k 0, 900, .inl (u.2.2.1 0)))]) := by
  refine MW (by decide) (Nat.le_of_ble_eq_true rfl) (fun p e s m below meth c ls A hx hb hml hr hlocks hin hts hown hKK hP hD hS hA hl => ?_)
  have hK := hKK.1
  have hl : lv_has ls 3 [(0, .ref hm), (1, .int (iZ x))] := hl
  refine lv_bipush (v := iZ 24) hx hb dX12_four_0 (by decide) ?_
  refine lv_istore_n (lv' := [(2, .int (iZ 24)), (0, .ref hm), (1, .int (iZ x))]) hx hb dX12_four_2 rfl hl (by decide) rfl (fun ls hl => ?_)
  have HL1 : ∀ (fu : Nat) (j : Int) (Mtd3 : Int) (Pf3 : Nat → Int32) (H : Heap) (locs : List Loc) (ls : Array Slot), (j + 9) < (fu : Int) → (-8 ≤ j ∧ j ≤ 24) → (Mtd3 * 8 = Mtd * 8 + 24 - j) → va_P D vwCl [(hm, .inr (12, [.ref Ma, .ref Mn, .int (iZ Mst), .long Mtp, .long Mbt, .ref Ms, .ref My, .ref Mt, .ref Mp, .ref Mx, .int (iZ Mtd3), .int (iZ Msz), .int (iZ Mtk), .int (iZ Mfr), .int (iZ Men), .int (iZ Mva), .int (iZ Mfk), .int (iZ Mfp), .int (iZ Mfs), .int (iZ Mse), .int (iZ Mlt), .ref Mo, .int (iZ Mdp), .int (iZ Mct), .ref Mk, .ref Ml, .ref Mb, .ref Mh, .ref Mc, .int (iZ Mdr), .int (iZ Mrs), .ref Mz, .ref Mr, .ref Mq, .int (iZ Mit), .int (iZ Mmk)])), (Mp, .inl (k 0, 900, .inl Pf3))] H → va_D A [(hm, .inr (12, [.ref Ma, .ref Mn, .int (iZ Mst), .long Mtp, .long Mbt, .ref Ms, .ref My, .ref Mt, .ref Mp, .ref Mx, .int (iZ Mtd3), .int (iZ Msz), .int (iZ Mtk), .int (iZ Mfr), .int (iZ Men), .int (iZ Mva), .int (iZ Mfk), .int (iZ Mfp), .int (iZ Mfs), .int (iZ Mse), .int (iZ Mlt), .ref Mo, .int (iZ Mdp), .int (iZ Mct), .ref Mk, .ref Ml, .ref Mb, .ref Mh, .ref Mc, .int (iZ Mdr), .int (iZ Mrs), .ref Mz, .ref Mr, .ref Mq, .int (iZ Mit), .int (iZ Mmk)])), (Mp, .inl (k 0, 900, .inl Pf3))] → va_S A s.heap H locs → lv_has ls 3 [(2, .int (iZ j)), (0, .ref hm), (1, .int (iZ x))] → W p l e (rj 0 0 0) s m [.ref hm, .int (iZ x)].toArray below meth c H locs 0 0 (MQ below (QW (σ := ((Nat → Int) × (Nat → Int64) × (Nat → Nat → Int32) × (Nat → Nat → Int64))) (fun _ => none) (fun u => (u.1 1) = Mtd + 4) (fun u => [(hm, .inr (12, [.ref Ma, .ref Mn, .int (iZ Mst), .long Mtp, .long Mbt, .ref Ms, .ref My, .ref Mt, .ref Mp, .ref Mx, .int (iZ (u.1 1)), .int (iZ Msz), .int (iZ Mtk), .int (iZ Mfr), .int (iZ Men), .int (iZ Mva), .int (iZ Mfk), .int (iZ Mfp), .int (iZ Mfs), .int (iZ Mse), .int (iZ Mlt), .ref Mo, .int (iZ Mdp), .int (iZ Mct), .ref Mk, .ref Ml, .ref Mb, .ref Mh, .ref Mc, .int (iZ Mdr), .int (iZ Mrs), .ref Mz, .ref Mr, .ref Mq, .int (iZ Mit), .int (iZ Mmk)])), (Mp, .inl (k 0, 900, .inl (u.2.2.1 0)))]) D A) [.ref hm, .int (iZ x)].toArray s 0 0 A) (F0 m 3 ls []) := by
    intro fu
    induction fu with
    | zero => intro j Mtd3 Pf3 H locs ls hμ1 hj1 ht2 hP hD hS hl; exact absurd hμ1 (by omega)
    | succ fu ih1 =>
      intro j Mtd3 Pf3 H locs ls hμ1 hj1 ht2 hP hD hS hl
      refine lv_iload_n hx hb dX12_four_3 rfl (lv_at hl 0 rfl) ?_
      refine lv_if_lt (tgt := 36) hx hb dX12_four_4 (by decide) (fun c_1 => ?_) (fun c_1 => ?_)
      ·
        have c_1 := (zlt (x := iZ j) (y := iZ 0) rfl rfl ⟨by omega, by omega⟩ ⟨by omega, by omega⟩).mp c_1
        exact EWv hx hb hr hlocks hS (fun i => [0, Mtd3].getD i 0, fun i => [0].getD i 0, fun i => [Pf3].getD i (fun _ => 0), fun i => [].getD i (fun _ => 0)) rfl (show Mtd3 = Mtd + 4 from (by omega)) (hP.sub [0, 1] rfl) (hD.sub [0, 1] rfl rfl) dX12_four_36
      ·
        have c_1 := mt (zlt (x := iZ j) (y := iZ 0) rfl rfl ⟨by omega, by omega⟩ ⟨by omega, by omega⟩).mpr c_1
        refine lv_aload_n hx hb dX12_four_7 rfl (lv_at hl 1 rfl) ?_
        refine va_get (D := D) (ci := 12) (v := .ref Mp) (C := RX12) (T := TX12) (N := 36) hx hb hts iX12 hown hK hP 0 rfl rfl 8 (by decide) (hts _ qf_X12_30) (fun _ h => h) rfl dX12_four_8 ?_
        refine lv_aload_n hx hb dX12_four_11 rfl (lv_at hl 1 rfl) ?_
        refine va_get (D := D) (ci := 12) (v := .int (iZ Mtd3)) (C := RX12) (T := TX12) (N := 36) hx hb hts iX12 hown hK hP 0 rfl rfl 10 (by decide) (hts _ qf_X12_106) (fun _ h => h) rfl dX12_four_12 ?_
        refine lv_iload_n hx hb dX12_four_15 rfl (lv_at hl 2 rfl) ?_
        refine lv_iload_n hx hb dX12_four_16 rfl (lv_at hl 0 rfl) ?_
        refine lv_ishr hx hb dX12_four_17 ?_
        refine lv_topi (fun x_3 ex_3 => ?_)
        obtain ⟨z_2, hz_2, hz_2a, hz_2b⟩ := i32_z x_3
        subst hz_2
        refine lv_i2b (v := _) hx hb dX12_four_18 rfl ?_
        refine lv_topi (fun x_5 ex_5 => ?_)
        obtain ⟨z_4, hz_4, hz_4a, hz_4b⟩ := i32_z x_5
        subst hz_4
        refine va_bast hx hb hK hP hD hS 1 0 rfl rfl (zin (e := Mtd3) (n := 900) ⟨by omega, by omega⟩ (by decide)) dX12_four_19 (fun H locs hP hD hS => ?_)
        obtain ⟨f_6, hf_6⟩ : ∃ gg9, gg9 = upd Pf3 (iZ Mtd3).toNatClampNeg (vp_nar .byte (iZ z_4)) := ⟨_, rfl⟩
        rw [← hf_6] at hP hD
        refine lv_aload_n hx hb dX12_four_20 rfl (lv_at hl 1 rfl) ?_
        refine lv_dup hx hb dX12_four_21 rfl ?_
        refine va_get (D := D) (ci := 12) (v := .int (iZ Mtd3)) (C := RX12) (T := TX12) (N := 36) hx hb hts iX12 hown hK hP 0 rfl rfl 10 (by decide) (hts _ qf_X12_106) (fun _ h => h) rfl dX12_four_22 ?_
        refine lv_iconst (v := iZ 1) hx hb dX12_four_25 (by decide) ?_
        refine lv_iadd hx hb dX12_four_26 ?_
        refine lv_topi (fun x_7 ex_7 => ?_)
        obtain rfl : x_7 = iZ (Mtd3 + 1) := ex_7.trans (iZ_add Mtd3 1)
        refine va_put (D := D) (ci := 12) (v := .int (iZ (Mtd3 + 1))) (ty := .int) (C := RX12) (T := TX12) (N := 36) hx hb hts iX12 tyX12 tyX12_ok nmX12 hown hK hP hD hS 0 rfl rfl 10 (by decide) (hts _ qf_X12_106) (fun _ h => h) rfl (by decide +kernel) rfl rfl (Nat.le_of_ble_eq_true rfl) dX12_four_27 (fun H locs hP hD hS => ?_)
        refine lv_iinc (v := iZ (j + (-8))) (lv' := [(2, .int (iZ (j + (-8)))), (0, .ref hm), (1, .int (iZ x))]) hx hb dX12_four_30 hl (k := 0) rfl (iZ_add j (-8)) (by decide) rfl (fun ls hl => ?_)
        refine lv_goto (tgt := 3) hx hb dX12_four_33 (by decide) ?_
        exact ih1  (j + (-8)) (Mtd3 + 1) f_6 _ _ _ (by omega) (show -8 ≤ (j + (-8)) ∧ (j + (-8)) ≤ 24 from ⟨by omega, by omega⟩) (show (Mtd3 + 1) * 8 = Mtd * 8 + 24 - (j + (-8)) from (by omega)) (hP.sub [0, 1] rfl) (hD.sub [0, 1] rfl rfl) hS (lv_sub hl [0, 1, 2] rfl)
  exact HL1 34 24 Mtd Pf _ _ _ (by omega) (show -8 ≤ 24 ∧ 24 ≤ 24 from ⟨by omega, by omega⟩) (show Mtd * 8 = Mtd * 8 + 24 - 24 from (by omega)) (hP.sub [0, 1] rfl) (hD.sub [0, 1] rfl rfl) hS (lv_sub hl [0, 1, 2] rfl)
set_option maxHeartbeats 4000000 in
set_option maxRecDepth 100000 in
theorem q_feed (l : Launch) (D : va_G) (k : Nat → ClassId) (hm : Nat) (Ma : Nat) (Mn : Nat) (Ms : Nat) (My : Nat) (Mt : Nat) (Mp : Nat) (Mx : Nat) (Mo : Nat) (Mk : Nat) (Ml : Nat) (Mb : Nat) (Mh : Nat) (Mc : Nat) (Mz : Nat) (Mr : Nat) (Mq : Nat) (Mst : Int) (Mtd : Int) (Msz : Int) (Mtk : Int) (Mfr : Int) (Men : Int) (Mva : Int) (Mfk : Int) (Mfp : Int) (Mfs : Int) (Mse : Int) (Mlt : Int) (Mdp : Int) (Mct : Int) (Mdr : Int) (Mrs : Int) (Mit : Int) (Mmk : Int) (Mtp : Int64) (Mbt : Int64) (Pf : Nat → Int32) (x1 : Int) (x2 : Int) (x3 : Int) (x4 : Int) (x5 : Int) (htd : 0 ≤ Mtd ∧ Mtd ≤ 900) : WD (σ := ((Nat → Int) × (Nat → Int64) × (Nat → Nat → Int32) × (Nat → Nat → Int64))) l yX12_feed cX12_feed 6 (some .int) 1 0 0 D k [.ref hm, .int (iZ x1), .int (iZ x2), .int (iZ x3), .int (iZ x4), .int (iZ x5)] [(hm, .inr (12, [.ref Ma, .ref Mn, .int (iZ Mst), .long Mtp, .long Mbt, .ref Ms, .ref My, .ref Mt, .ref Mp, .ref Mx, .int (iZ Mtd), .int (iZ Msz), .int (iZ Mtk), .int (iZ Mfr), .int (iZ Men), .int (iZ Mva), .int (iZ Mfk), .int (iZ Mfp), .int (iZ Mfs), .int (iZ Mse), .int (iZ Mlt), .ref Mo, .int (iZ Mdp), .int (iZ Mct), .ref Mk, .ref Ml, .ref Mb, .ref Mh, .ref Mc, .int (iZ Mdr), .int (iZ Mrs), .ref Mz, .ref Mr, .ref Mq, .int (iZ Mit), .int (iZ Mmk)])), (Mp, .inl (k 0, 900, .inl Pf))] (fun u => some (.int (iZ (u.1 0)))) (fun u => (Mtd > 880 ∧ (u.1 0) = -1 ∧ (u.1 1) = Mtd) ∨ (Mtd ≤ 880 ∧ (u.1 0) = Mtd + 20 ∧ (u.1 1) = Mtd + 20)) (fun u => [(hm, .inr (12, [.ref Ma, .ref Mn, .int (iZ Mst), .long Mtp, .long Mbt, .ref Ms, .ref My, .ref Mt, .ref Mp, .ref Mx, .int (iZ (u.1 1)), .int (iZ Msz), .int (iZ Mtk), .int (iZ Mfr), .int (iZ Men), .int (iZ Mva), .int (iZ Mfk), .int (iZ Mfp), .int (iZ Mfs), .int (iZ Mse), .int (iZ Mlt), .ref Mo, .int (iZ Mdp), .int (iZ Mct), .ref Mk, .ref Ml, .ref Mb, .ref Mh, .ref Mc, .int (iZ Mdr), .int (iZ Mrs), .ref Mz, .ref Mr, .ref Mq, .int (iZ Mit), .int (iZ Mmk)])), (Mp, .inl (k 0, 900, .inl (u.2.2.1 0)))]) := by
  refine MW (by decide) (Nat.le_of_ble_eq_true rfl) (fun p e s m below meth c ls A hx hb hml hr hlocks hin hts hown hKK hP hD hS hA hl => ?_)
  have hK := hKK.1
  have hl : lv_has ls 6 [(0, .ref hm), (1, .int (iZ x1)), (2, .int (iZ x2)), (3, .int (iZ x3)), (4, .int (iZ x4)), (5, .int (iZ x5))] := hl
  refine lv_aload_n hx hb dX12_feed_0 rfl (lv_at hl 0 rfl) ?_
  refine va_get (D := D) (ci := 12) (v := .int (iZ Mtd)) (C := RX12) (T := TX12) (N := 36) hx hb hts iX12 hown hK hP 0 rfl rfl 10 (by decide) (hts _ qf_X12_106) (fun _ h => h) rfl dX12_feed_1 ?_
  refine lv_bipush (v := iZ 20) hx hb dX12_feed_4 (by decide) ?_
  refine lv_iadd hx hb dX12_feed_6 ?_
  refine lv_topi (fun x_1 ex_1 => ?_)
  obtain rfl : x_1 = iZ (Mtd + 20) := ex_1.trans (iZ_add Mtd 20)
  refine lv_sipush (v := iZ 900) hx hb dX12_feed_7 (by decide) ?_
  refine lv_icmp_le (tgt := 15) hx hb dX12_feed_10 (by decide) (fun c_2 => ?_) (fun c_2 => ?_)
  ·
    have c_2 := (zle (x := iZ (Mtd + 20)) (y := iZ 900) rfl rfl ⟨by omega, by omega⟩ ⟨by omega, by omega⟩).mp c_2
    refine lv_aload_n hx hb dX12_feed_15 rfl (lv_at hl 0 rfl) ?_
    refine lv_iload_n hx hb dX12_feed_16 rfl (lv_at hl 1 rfl) ?_
    refine CWV (As := [.int (iZ x1)]) (rest := []) (wc := [(hm, .inr (12, [.ref Ma, .ref Mn, .int (iZ Mst), .long Mtp, .long Mbt, .ref Ms, .ref My, .ref Mt, .ref Mp, .ref Mx, .int (iZ Mtd), .int (iZ Msz), .int (iZ Mtk), .int (iZ Mfr), .int (iZ Men), .int (iZ Mva), .int (iZ Mfk), .int (iZ Mfp), .int (iZ Mfs), .int (iZ Mse), .int (iZ Mlt), .ref Mo, .int (iZ Mdp), .int (iZ Mct), .ref Mk, .ref Ml, .ref Mb, .ref Mh, .ref Mc, .int (iZ Mdr), .int (iZ Mrs), .ref Mz, .ref Mr, .ref Mq, .int (iZ Mit), .int (iZ Mmk)])), (Mp, .inl (k 0, 900, .inl Pf))]) (wr := []) hx hb hml hown hts hKK hP hD hS hA (m_four l D k hm Ma Mn Ms My Mt Mp Mx Mo Mk Ml Mb Mh Mc Mz Mr Mq Mst Mtd Msz Mtk Mfr Men Mva Mfk Mfp Mfs Mse Mlt Mdp Mct Mdr Mrs Mit Mmk Mtp Mbt Pf x1 ⟨by omega, by omega⟩) ci_X12_four qm_X12_109 ⟨Nat.le_of_ble_eq_true rfl, Nat.le_of_ble_eq_true rfl⟩ ⟨Nat.le_of_ble_eq_true rfl, Nat.le_of_ble_eq_true rfl⟩ [0, 1] [] rfl rfl rfl rfl rfl (by decide) 0 rfl rfl rfl hl.1 rfl (Nat.le_of_ble_eq_true rfl) dX12_feed_17 (fun u_3 H locs hφ hP hD hS => ?_)
    obtain ⟨I_4, L_5, F_6, G_7⟩ := u_3
    have p_9 : (I_4 1) = Mtd + 4 := hφ
    refine W.eq (g2 := F0 m 20 ls []) rfl ?_
    refine lv_aload_n hx hb dX12_feed_20 rfl (lv_at hl 0 rfl) ?_
    refine lv_iload_n hx hb dX12_feed_21 rfl (lv_at hl 2 rfl) ?_
    refine CWV (As := [.int (iZ x2)]) (rest := []) (wc := [(hm, .inr (12, [.ref Ma, .ref Mn, .int (iZ Mst), .long Mtp, .long Mbt, .ref Ms, .ref My, .ref Mt, .ref Mp, .ref Mx, .int (iZ (I_4 1)), .int (iZ Msz), .int (iZ Mtk), .int (iZ Mfr), .int (iZ Men), .int (iZ Mva), .int (iZ Mfk), .int (iZ Mfp), .int (iZ Mfs), .int (iZ Mse), .int (iZ Mlt), .ref Mo, .int (iZ Mdp), .int (iZ Mct), .ref Mk, .ref Ml, .ref Mb, .ref Mh, .ref Mc, .int (iZ Mdr), .int (iZ Mrs), .ref Mz, .ref Mr, .ref Mq, .int (iZ Mit), .int (iZ Mmk)])), (Mp, .inl (k 0, 900, .inl (F_6 0)))]) (wr := []) hx hb hml hown hts hKK hP hD hS hA (m_four l D k hm Ma Mn Ms My Mt Mp Mx Mo Mk Ml Mb Mh Mc Mz Mr Mq Mst (I_4 1) Msz Mtk Mfr Men Mva Mfk Mfp Mfs Mse Mlt Mdp Mct Mdr Mrs Mit Mmk Mtp Mbt (F_6 0) x2 ⟨by omega, by omega⟩) ci_X12_four qm_X12_109 ⟨Nat.le_of_ble_eq_true rfl, Nat.le_of_ble_eq_true rfl⟩ ⟨Nat.le_of_ble_eq_true rfl, Nat.le_of_ble_eq_true rfl⟩ [0, 1] [] rfl rfl rfl rfl rfl (by decide) 0 rfl rfl rfl hl.1 rfl (Nat.le_of_ble_eq_true rfl) dX12_feed_22 (fun u_10 H locs hφ hP hD hS => ?_)
    obtain ⟨I_11, L_12, F_13, G_14⟩ := u_10
    have p_16 : (I_11 1) = (I_4 1) + 4 := hφ
    refine W.eq (g2 := F0 m 25 ls []) rfl ?_
    refine lv_aload_n hx hb dX12_feed_25 rfl (lv_at hl 0 rfl) ?_
    refine lv_iload_n hx hb dX12_feed_26 rfl (lv_at hl 3 rfl) ?_
    refine CWV (As := [.int (iZ x3)]) (rest := []) (wc := [(hm, .inr (12, [.ref Ma, .ref Mn, .int (iZ Mst), .long Mtp, .long Mbt, .ref Ms, .ref My, .ref Mt, .ref Mp, .ref Mx, .int (iZ (I_11 1)), .int (iZ Msz), .int (iZ Mtk), .int (iZ Mfr), .int (iZ Men), .int (iZ Mva), .int (iZ Mfk), .int (iZ Mfp), .int (iZ Mfs), .int (iZ Mse), .int (iZ Mlt), .ref Mo, .int (iZ Mdp), .int (iZ Mct), .ref Mk, .ref Ml, .ref Mb, .ref Mh, .ref Mc, .int (iZ Mdr), .int (iZ Mrs), .ref Mz, .ref Mr, .ref Mq, .int (iZ Mit), .int (iZ Mmk)])), (Mp, .inl (k 0, 900, .inl (F_13 0)))]) (wr := []) hx hb hml hown hts hKK hP hD hS hA (m_four l D k hm Ma Mn Ms My Mt Mp Mx Mo Mk Ml Mb Mh Mc Mz Mr Mq Mst (I_11 1) Msz Mtk Mfr Men Mva Mfk Mfp Mfs Mse Mlt Mdp Mct Mdr Mrs Mit Mmk Mtp Mbt (F_13 0) x3 ⟨by omega, by omega⟩) ci_X12_four qm_X12_109 ⟨Nat.le_of_ble_eq_true rfl, Nat.le_of_ble_eq_true rfl⟩ ⟨Nat.le_of_ble_eq_true rfl, Nat.le_of_ble_eq_true rfl⟩ [0, 1] [] rfl rfl rfl rfl rfl (by decide) 0 rfl rfl rfl hl.1 rfl (Nat.le_of_ble_eq_true rfl) dX12_feed_27 (fun u_17 H locs hφ hP hD hS => ?_)
    obtain ⟨I_18, L_19, F_20, G_21⟩ := u_17
    have p_23 : (I_18 1) = (I_11 1) + 4 := hφ
    refine W.eq (g2 := F0 m 30 ls []) rfl ?_
    refine lv_aload_n hx hb dX12_feed_30 rfl (lv_at hl 0 rfl) ?_
    refine lv_iload hx hb dX12_feed_31 (lv_at hl 4 rfl) ?_
    refine CWV (As := [.int (iZ x4)]) (rest := []) (wc := [(hm, .inr (12, [.ref Ma, .ref Mn, .int (iZ Mst), .long Mtp, .long Mbt, .ref Ms, .ref My, .ref Mt, .ref Mp, .ref Mx, .int (iZ (I_18 1)), .int (iZ Msz), .int (iZ Mtk), .int (iZ Mfr), .int (iZ Men), .int (iZ Mva), .int (iZ Mfk), .int (iZ Mfp), .int (iZ Mfs), .int (iZ Mse), .int (iZ Mlt), .ref Mo, .int (iZ Mdp), .int (iZ Mct), .ref Mk, .ref Ml, .ref Mb, .ref Mh, .ref Mc, .int (iZ Mdr), .int (iZ Mrs), .ref Mz, .ref Mr, .ref Mq, .int (iZ Mit), .int (iZ Mmk)])), (Mp, .inl (k 0, 900, .inl (F_20 0)))]) (wr := []) hx hb hml hown hts hKK hP hD hS hA (m_four l D k hm Ma Mn Ms My Mt Mp Mx Mo Mk Ml Mb Mh Mc Mz Mr Mq Mst (I_18 1) Msz Mtk Mfr Men Mva Mfk Mfp Mfs Mse Mlt Mdp Mct Mdr Mrs Mit Mmk Mtp Mbt (F_20 0) x4 ⟨by omega, by omega⟩) ci_X12_four qm_X12_109 ⟨Nat.le_of_ble_eq_true rfl, Nat.le_of_ble_eq_true rfl⟩ ⟨Nat.le_of_ble_eq_true rfl, Nat.le_of_ble_eq_true rfl⟩ [0, 1] [] rfl rfl rfl rfl rfl (by decide) 0 rfl rfl rfl hl.1 rfl (Nat.le_of_ble_eq_true rfl) dX12_feed_33 (fun u_24 H locs hφ hP hD hS => ?_)
    obtain ⟨I_25, L_26, F_27, G_28⟩ := u_24
    have p_30 : (I_25 1) = (I_18 1) + 4 := hφ
    refine W.eq (g2 := F0 m 36 ls []) rfl ?_
    refine lv_aload_n hx hb dX12_feed_36 rfl (lv_at hl 0 rfl) ?_
    refine lv_iload hx hb dX12_feed_37 (lv_at hl 5 rfl) ?_
    refine CWV (As := [.int (iZ x5)]) (rest := []) (wc := [(hm, .inr (12, [.ref Ma, .ref Mn, .int (iZ Mst), .long Mtp, .long Mbt, .ref Ms, .ref My, .ref Mt, .ref Mp, .ref Mx, .int (iZ (I_25 1)), .int (iZ Msz), .int (iZ Mtk), .int (iZ Mfr), .int (iZ Men), .int (iZ Mva), .int (iZ Mfk), .int (iZ Mfp), .int (iZ Mfs), .int (iZ Mse), .int (iZ Mlt), .ref Mo, .int (iZ Mdp), .int (iZ Mct), .ref Mk, .ref Ml, .ref Mb, .ref Mh, .ref Mc, .int (iZ Mdr), .int (iZ Mrs), .ref Mz, .ref Mr, .ref Mq, .int (iZ Mit), .int (iZ Mmk)])), (Mp, .inl (k 0, 900, .inl (F_27 0)))]) (wr := []) hx hb hml hown hts hKK hP hD hS hA (m_four l D k hm Ma Mn Ms My Mt Mp Mx Mo Mk Ml Mb Mh Mc Mz Mr Mq Mst (I_25 1) Msz Mtk Mfr Men Mva Mfk Mfp Mfs Mse Mlt Mdp Mct Mdr Mrs Mit Mmk Mtp Mbt (F_27 0) x5 ⟨by omega, by omega⟩) ci_X12_four qm_X12_109 ⟨Nat.le_of_ble_eq_true rfl, Nat.le_of_ble_eq_true rfl⟩ ⟨Nat.le_of_ble_eq_true rfl, Nat.le_of_ble_eq_true rfl⟩ [0, 1] [] rfl rfl rfl rfl rfl (by decide) 0 rfl rfl rfl hl.1 rfl (Nat.le_of_ble_eq_true rfl) dX12_feed_39 (fun u_31 H locs hφ hP hD hS => ?_)
    obtain ⟨I_32, L_33, F_34, G_35⟩ := u_31
    have p_37 : (I_32 1) = (I_25 1) + 4 := hφ
    refine W.eq (g2 := F0 m 42 ls []) rfl ?_
    refine lv_aload_n hx hb dX12_feed_42 rfl (lv_at hl 0 rfl) ?_
    refine va_get (D := D) (ci := 12) (v := .int (iZ (I_32 1))) (C := RX12) (T := TX12) (N := 36) hx hb hts iX12 hown hK hP 0 rfl rfl 10 (by decide) (hts _ qf_X12_106) (fun _ h => h) rfl dX12_feed_43 ?_
    exact EWi hx hb hr hlocks hS (fun i => [(I_32 1), (I_32 1)].getD i 0, fun i => [0].getD i 0, fun i => [(F_34 0)].getD i (fun _ => 0), fun i => [].getD i (fun _ => 0)) rfl (show (Mtd > 880 ∧ (I_32 1) = -1 ∧ (I_32 1) = Mtd) ∨ (Mtd ≤ 880 ∧ (I_32 1) = Mtd + 20 ∧ (I_32 1) = Mtd + 20) from (by omega)) (hP.sub [0, 1] rfl) (hD.sub [0, 1] rfl rfl) dX12_feed_46
  ·
    have c_2 := mt (zle (x := iZ (Mtd + 20)) (y := iZ 900) rfl rfl ⟨by omega, by omega⟩ ⟨by omega, by omega⟩).mpr c_2
    refine lv_iconst (v := iZ (-1)) hx hb dX12_feed_13 (by decide) ?_
    exact EWi hx hb hr hlocks hS (fun i => [(-1), Mtd].getD i 0, fun i => [0].getD i 0, fun i => [Pf].getD i (fun _ => 0), fun i => [].getD i (fun _ => 0)) rfl (show (Mtd > 880 ∧ (-1) = -1 ∧ Mtd = Mtd) ∨ (Mtd ≤ 880 ∧ (-1) = Mtd + 20 ∧ Mtd = Mtd + 20) from (by omega)) (hP.sub [0, 1] rfl) (hD.sub [0, 1] rfl rfl) dX12_feed_14
set_option maxHeartbeats 4000000 in
set_option maxRecDepth 100000 in
theorem q_fault (l : Launch) (D : va_G) (k : Nat → ClassId) (hm : Nat) (Ma : Nat) (Mn : Nat) (Ms : Nat) (My : Nat) (Mt : Nat) (Mp : Nat) (Mx : Nat) (Mo : Nat) (Mk : Nat) (Ml : Nat) (Mb : Nat) (Mh : Nat) (Mc : Nat) (Mz : Nat) (Mr : Nat) (Mq : Nat) (Mst : Int) (Mtd : Int) (Msz : Int) (Mtk : Int) (Mfr : Int) (Men : Int) (Mva : Int) (Mfk : Int) (Mfp : Int) (Mfs : Int) (Mse : Int) (Mlt : Int) (Mdp : Int) (Mct : Int) (Mdr : Int) (Mrs : Int) (Mit : Int) (Mmk : Int) (Mtp : Int64) (Mbt : Int64) (x1 : Int) (h9x1 : -2147483648 ≤ x1 ∧ x1 < 2147483648) : WD (σ := ((Nat → Int) × (Nat → Int64) × (Nat → Nat → Int32) × (Nat → Nat → Int64))) l yX12_fault cX12_fault 2 (some .int) 0 0 0 D k [.ref hm, .int (iZ x1)] [(hm, .inr (12, [.ref Ma, .ref Mn, .int (iZ Mst), .long Mtp, .long Mbt, .ref Ms, .ref My, .ref Mt, .ref Mp, .ref Mx, .int (iZ Mtd), .int (iZ Msz), .int (iZ Mtk), .int (iZ Mfr), .int (iZ Men), .int (iZ Mva), .int (iZ Mfk), .int (iZ Mfp), .int (iZ Mfs), .int (iZ Mse), .int (iZ Mlt), .ref Mo, .int (iZ Mdp), .int (iZ Mct), .ref Mk, .ref Ml, .ref Mb, .ref Mh, .ref Mc, .int (iZ Mdr), .int (iZ Mrs), .ref Mz, .ref Mr, .ref Mq, .int (iZ Mit), .int (iZ Mmk)]))] (fun u => some (.int (iZ (u.1 0)))) (fun _ => True) (fun u => [(hm, .inr (12, [.ref Ma, .ref Mn, .int (iZ Mst), .long Mtp, .long Mbt, .ref Ms, .ref My, .ref Mt, .ref Mp, .ref Mx, .int (iZ Mtd), .int (iZ Msz), .int (iZ Mtk), .int (iZ Mfr), .int (iZ Men), .int (iZ Mva), .int (iZ Mfk), .int (iZ Mfp), .int (iZ Mfs), .int (iZ Mse), .int (iZ Mlt), .ref Mo, .int (iZ Mdp), .int (iZ Mct), .ref Mk, .ref Ml, .ref Mb, .ref Mh, .ref Mc, .int (iZ Mdr), .int (iZ Mrs), .ref Mz, .ref Mr, .ref Mq, .int (iZ Mit), .int (iZ Mmk)]))]) := by
  refine MW (by decide) (Nat.le_of_ble_eq_true rfl) (fun p e s m below meth c ls A hx hb hml hr hlocks hin hts hown hKK hP hD hS hA hl => ?_)
  have hK := hKK.1
  have hl : lv_has ls 2 [(0, .ref hm), (1, .int (iZ x1))] := hl
  refine lv_iload_n hx hb dX12_fault_0 rfl (lv_at hl 1 rfl) ?_
  refine lv_if_ne (tgt := 11) hx hb dX12_fault_1 (by decide) (fun c_1 => ?_) (fun c_1 => ?_)
  ·
    have c_1 := mt (zeq (x := iZ x1) (y := iZ 0) rfl rfl ⟨by omega, by omega⟩ ⟨by omega, by omega⟩).mpr c_1
    refine lv_iload_n hx hb dX12_fault_11 rfl (lv_at hl 1 rfl) ?_
    refine lv_iconst (v := iZ 1) hx hb dX12_fault_12 (by decide) ?_
    refine lv_icmp_ne (tgt := 23) hx hb dX12_fault_13 (by decide) (fun c_2 => ?_) (fun c_2 => ?_)
    ·
      have c_2 := mt (zeq (x := iZ x1) (y := iZ 1) rfl rfl ⟨by omega, by omega⟩ ⟨by omega, by omega⟩).mpr c_2
      refine lv_iconst (v := iZ (-1)) hx hb dX12_fault_23 (by decide) ?_
      exact EWi hx hb hr hlocks hS (fun i => [(-1)].getD i 0, fun i => [0].getD i 0, fun i => [].getD i (fun _ => 0), fun i => [].getD i (fun _ => 0)) rfl trivial (hP.sub [0] rfl) (hD.sub [0] rfl rfl) dX12_fault_24
    ·
      have c_2 := (zeq (x := iZ x1) (y := iZ 1) rfl rfl ⟨by omega, by omega⟩ ⟨by omega, by omega⟩).mp c_2
      refine lv_aload_n hx hb dX12_fault_16 rfl (lv_at hl 0 rfl) ?_
      refine va_get (D := D) (ci := 12) (v := .int (iZ Mfp)) (C := RX12) (T := TX12) (N := 36) hx hb hts iX12 hown hK hP 0 rfl rfl 17 (by decide) (hts _ qf_X12_41) (fun _ h => h) rfl dX12_fault_17 ?_
      refine lv_goto (tgt := 24) hx hb dX12_fault_20 (by decide) ?_
      exact EWi hx hb hr hlocks hS (fun i => [Mfp].getD i 0, fun i => [0].getD i 0, fun i => [].getD i (fun _ => 0), fun i => [].getD i (fun _ => 0)) rfl trivial (hP.sub [0] rfl) (hD.sub [0] rfl rfl) dX12_fault_24
  ·
    have c_1 := (zeq (x := iZ x1) (y := iZ 0) rfl rfl ⟨by omega, by omega⟩ ⟨by omega, by omega⟩).mp c_1
    refine lv_aload_n hx hb dX12_fault_4 rfl (lv_at hl 0 rfl) ?_
    refine va_get (D := D) (ci := 12) (v := .int (iZ Mfk)) (C := RX12) (T := TX12) (N := 36) hx hb hts iX12 hown hK hP 0 rfl rfl 16 (by decide) (hts _ qf_X12_37) (fun _ h => h) rfl dX12_fault_5 ?_
    refine lv_goto (tgt := 24) hx hb dX12_fault_8 (by decide) ?_
    exact EWi hx hb hr hlocks hS (fun i => [Mfk].getD i 0, fun i => [0].getD i 0, fun i => [].getD i (fun _ => 0), fun i => [].getD i (fun _ => 0)) rfl trivial (hP.sub [0] rfl) (hD.sub [0] rfl rfl) dX12_fault_24
set_option maxHeartbeats 4000000 in
set_option maxRecDepth 100000 in
theorem q_tray (l : Launch) (D : va_G) (k : Nat → ClassId) (hm : Nat) (Ma : Nat) (Mn : Nat) (Ms : Nat) (My : Nat) (Mt : Nat) (Mp : Nat) (Mx : Nat) (Mo : Nat) (Mk : Nat) (Ml : Nat) (Mb : Nat) (Mh : Nat) (Mc : Nat) (Mz : Nat) (Mr : Nat) (Mq : Nat) (Mst : Int) (Mtd : Int) (Msz : Int) (Mtk : Int) (Mfr : Int) (Men : Int) (Mva : Int) (Mfk : Int) (Mfp : Int) (Mfs : Int) (Mse : Int) (Mlt : Int) (Mdp : Int) (Mct : Int) (Mdr : Int) (Mrs : Int) (Mit : Int) (Mmk : Int) (Mtp : Int64) (Mbt : Int64) (Sf : Nat → Int32) (Yf : Nat → Int32) (Tf : Nat → Int64) (x1 : Int) (x2 : Int) (x3 : Int) (rgS : rgI Sf 0 3 4) (rgY : rgI Yf (-1) 60 4) (h9x1 : -2147483648 ≤ x1 ∧ x1 < 2147483648) (h9x2 : -2147483648 ≤ x2 ∧ x2 < 2147483648) (h9x3 : -2147483648 ≤ x3 ∧ x3 < 2147483648) : WD (σ := ((Nat → Int) × (Nat → Int64) × (Nat → Nat → Int32) × (Nat → Nat → Int64))) l yX12_tray cX12_tray 5 (some .boolean) 1 0 0 D k [.ref hm, .int (iZ x1), .int (iZ x2), .int (iZ x3)] [(hm, .inr (12, [.ref Ma, .ref Mn, .int (iZ Mst), .long Mtp, .long Mbt, .ref Ms, .ref My, .ref Mt, .ref Mp, .ref Mx, .int (iZ Mtd), .int (iZ Msz), .int (iZ Mtk), .int (iZ Mfr), .int (iZ Men), .int (iZ Mva), .int (iZ Mfk), .int (iZ Mfp), .int (iZ Mfs), .int (iZ Mse), .int (iZ Mlt), .ref Mo, .int (iZ Mdp), .int (iZ Mct), .ref Mk, .ref Ml, .ref Mb, .ref Mh, .ref Mc, .int (iZ Mdr), .int (iZ Mrs), .ref Mz, .ref Mr, .ref Mq, .int (iZ Mit), .int (iZ Mmk)])), (Ms, .inl (k 1, 4, .inl Sf)), (My, .inl (k 1, 4, .inl Yf)), (Mt, .inl (k 2, 240, .inr (.inl Tf)))] (fun u => some (.int (iZ (u.1 0)))) (fun u => (rgI (u.2.2.1 0) 0 3 4) ∧ (rgI (u.2.2.1 1) (-1) 60 4) ∧ ((((u.1 0) : Int) = 1 ∧ ((0 ≤ x1 ∧ x1 ≤ 3) ∧ (0 ≤ x2 ∧ x2 ≤ 3) ∧ (0 ≤ x3 ∧ x3 ≤ 60))) ∨ (((u.1 0) : Int) = 0 ∧ ¬ ((0 ≤ x1 ∧ x1 ≤ 3) ∧ (0 ≤ x2 ∧ x2 ≤ 3) ∧ (0 ≤ x3 ∧ x3 ≤ 60)))) ∧ ((((0 ≤ x1 ∧ x1 ≤ 3) ∧ (0 ≤ x2 ∧ x2 ≤ 3) ∧ (0 ≤ x3 ∧ x3 ≤ 60)) ∧ (u.2.2.1 0) = upd Sf (iZ x1).toNatClampNeg (iZ x2) ∧ (u.2.2.1 1) = upd Yf (iZ x1).toNatClampNeg (iZ x3)) ∨ (¬ ((0 ≤ x1 ∧ x1 ≤ 3) ∧ (0 ≤ x2 ∧ x2 ≤ 3) ∧ (0 ≤ x3 ∧ x3 ≤ 60)) ∧ (u.2.2.1 0) = Sf ∧ (u.2.2.1 1) = Yf))) (fun u => [(hm, .inr (12, [.ref Ma, .ref Mn, .int (iZ (u.1 1)), .long Mtp, .long Mbt, .ref Ms, .ref My, .ref Mt, .ref Mp, .ref Mx, .int (iZ Mtd), .int (iZ Msz), .int (iZ Mtk), .int (iZ Mfr), .int (iZ Men), .int (iZ Mva), .int (iZ Mfk), .int (iZ Mfp), .int (iZ Mfs), .int (iZ Mse), .int (iZ Mlt), .ref Mo, .int (iZ Mdp), .int (iZ Mct), .ref Mk, .ref Ml, .ref Mb, .ref Mh, .ref Mc, .int (iZ Mdr), .int (iZ Mrs), .ref Mz, .ref Mr, .ref Mq, .int (iZ Mit), .int (iZ Mmk)])), (Ms, .inl (k 1, 4, .inl (u.2.2.1 0))), (My, .inl (k 1, 4, .inl (u.2.2.1 1))), (Mt, .inl (k 2, 240, .inr (.inl (u.2.2.2 0))))]) := by
  refine MW (by decide) (Nat.le_of_ble_eq_true rfl) (fun p e s m below meth c ls A hx hb hml hr hlocks hin hts hown hKK hP hD hS hA hl => ?_)
  have hK := hKK.1
  have hl : lv_has ls 5 [(0, .ref hm), (1, .int (iZ x1)), (2, .int (iZ x2)), (3, .int (iZ x3))] := hl
  refine lv_iload_n hx hb dX12_tray_0 rfl (lv_at hl 1 rfl) ?_
  refine CPS (As := [.int (iZ x1)]) (rest := []) hx hb hml hown hts hKK (hP.sub (ws' := []) [] rfl) (m_isTray l D k x1 ⟨by omega, by omega⟩) ci_X12_isTray qm_X12_93 ⟨Nat.le_of_ble_eq_true rfl, Nat.le_of_ble_eq_true rfl⟩ ⟨Nat.le_of_ble_eq_true rfl, Nat.le_of_ble_eq_true rfl⟩ rfl hl.1 rfl (Nat.le_of_ble_eq_true rfl) dX12_tray_1 (fun z_1 hz_1 => ?_)
  rcases hz_1 with ⟨qz_1, hz_1⟩ | ⟨qz_1, hz_1⟩
  ·
    subst qz_1
    refine lv_if_eq (tgt := 26) hx hb dX12_tray_4 (by decide) (fun c => absurd c (by decide)) (fun _ => ?_)
    refine lv_iload_n hx hb dX12_tray_7 rfl (lv_at hl 2 rfl) ?_
    refine lv_if_lt (tgt := 26) hx hb dX12_tray_8 (by decide) (fun c_3 => ?_) (fun c_3 => ?_)
    ·
      have c_3 := (zlt (x := iZ x2) (y := iZ 0) rfl rfl ⟨by omega, by omega⟩ ⟨by omega, by omega⟩).mp c_3
      refine lv_aload_n hx hb dX12_tray_26 rfl (lv_at hl 0 rfl) ?_
      refine lv_iconst (v := iZ 1) hx hb dX12_tray_27 (by decide) ?_
      refine CWV (As := [.int (iZ 1)]) (rest := []) (wc := [(hm, .inr (12, [.ref Ma, .ref Mn, .int (iZ Mst), .long Mtp, .long Mbt, .ref Ms, .ref My, .ref Mt, .ref Mp, .ref Mx, .int (iZ Mtd), .int (iZ Msz), .int (iZ Mtk), .int (iZ Mfr), .int (iZ Men), .int (iZ Mva), .int (iZ Mfk), .int (iZ Mfp), .int (iZ Mfs), .int (iZ Mse), .int (iZ Mlt), .ref Mo, .int (iZ Mdp), .int (iZ Mct), .ref Mk, .ref Ml, .ref Mb, .ref Mh, .ref Mc, .int (iZ Mdr), .int (iZ Mrs), .ref Mz, .ref Mr, .ref Mq, .int (iZ Mit), .int (iZ Mmk)]))]) (wr := [(Ms, .inl (k 1, 4, .inl Sf)), (My, .inl (k 1, 4, .inl Yf)), (Mt, .inl (k 2, 240, .inr (.inl Tf)))]) hx hb hml hown hts hKK hP hD hS hA (m_isN l D k hm Ma Mn Ms My Mt Mp Mx Mo Mk Ml Mb Mh Mc Mz Mr Mq Mst Mtd Msz Mtk Mfr Men Mva Mfk Mfp Mfs Mse Mlt Mdp Mct Mdr Mrs Mit Mmk Mtp Mbt 1 ⟨by omega, by omega⟩ (by omega)) ci_X12_is qm_X12_89 ⟨Nat.le_of_ble_eq_true rfl, Nat.le_of_ble_eq_true rfl⟩ ⟨Nat.le_of_ble_eq_true rfl, Nat.le_of_ble_eq_true rfl⟩ [0] [1, 2, 3] rfl rfl rfl rfl rfl (by decide) 0 rfl rfl rfl hl.1 rfl (Nat.le_of_ble_eq_true rfl) dX12_tray_28 (fun u_4 H locs hφ hP hD hS => ?_)
      obtain ⟨I_5, L_6, F_7, G_8⟩ := u_4
      refine W.eq (g2 := F0 m 31 ls [.int (iZ 0)]) rfl ?_
      exact EWz hx hb hr hlocks hS (fun i => [0, 1].getD i 0, fun i => [0].getD i 0, fun i => [Sf, Yf].getD i (fun _ => 0), fun i => [Tf].getD i (fun _ => 0)) rfl rfl ⟨(show rgI Sf 0 3 4 from rgS), (show rgI Yf (-1) 60 4 from rgY), (show ((0 : Int) = 1 ∧ ((0 ≤ x1 ∧ x1 ≤ 3) ∧ (0 ≤ x2 ∧ x2 ≤ 3) ∧ (0 ≤ x3 ∧ x3 ≤ 60))) ∨ ((0 : Int) = 0 ∧ ¬ ((0 ≤ x1 ∧ x1 ≤ 3) ∧ (0 ≤ x2 ∧ x2 ≤ 3) ∧ (0 ≤ x3 ∧ x3 ≤ 60))) from (by omega)), (show (((0 ≤ x1 ∧ x1 ≤ 3) ∧ (0 ≤ x2 ∧ x2 ≤ 3) ∧ (0 ≤ x3 ∧ x3 ≤ 60)) ∧ Sf = upd Sf (iZ x1).toNatClampNeg (iZ x2) ∧ Yf = upd Yf (iZ x1).toNatClampNeg (iZ x3)) ∨ (¬ ((0 ≤ x1 ∧ x1 ≤ 3) ∧ (0 ≤ x2 ∧ x2 ≤ 3) ∧ (0 ≤ x3 ∧ x3 ≤ 60)) ∧ Sf = Sf ∧ Yf = Yf) from (Or.inr ⟨by omega, rfl, rfl⟩))⟩ (hP.sub [3, 0, 1, 2] rfl) (hD.sub [3, 0, 1, 2] rfl rfl) dX12_tray_31
    ·
      have c_3 := mt (zlt (x := iZ x2) (y := iZ 0) rfl rfl ⟨by omega, by omega⟩ ⟨by omega, by omega⟩).mpr c_3
      refine lv_iload_n hx hb dX12_tray_11 rfl (lv_at hl 2 rfl) ?_
      refine lv_iconst (v := iZ 3) hx hb dX12_tray_12 (by decide) ?_
      refine lv_icmp_gt (tgt := 26) hx hb dX12_tray_13 (by decide) (fun c_10 => ?_) (fun c_10 => ?_)
      ·
        have c_10 := (zlt (x := iZ 3) (y := iZ x2) rfl rfl ⟨by omega, by omega⟩ ⟨by omega, by omega⟩).mp c_10
        refine lv_aload_n hx hb dX12_tray_26 rfl (lv_at hl 0 rfl) ?_
        refine lv_iconst (v := iZ 1) hx hb dX12_tray_27 (by decide) ?_
        refine CWV (As := [.int (iZ 1)]) (rest := []) (wc := [(hm, .inr (12, [.ref Ma, .ref Mn, .int (iZ Mst), .long Mtp, .long Mbt, .ref Ms, .ref My, .ref Mt, .ref Mp, .ref Mx, .int (iZ Mtd), .int (iZ Msz), .int (iZ Mtk), .int (iZ Mfr), .int (iZ Men), .int (iZ Mva), .int (iZ Mfk), .int (iZ Mfp), .int (iZ Mfs), .int (iZ Mse), .int (iZ Mlt), .ref Mo, .int (iZ Mdp), .int (iZ Mct), .ref Mk, .ref Ml, .ref Mb, .ref Mh, .ref Mc, .int (iZ Mdr), .int (iZ Mrs), .ref Mz, .ref Mr, .ref Mq, .int (iZ Mit), .int (iZ Mmk)]))]) (wr := [(Ms, .inl (k 1, 4, .inl Sf)), (My, .inl (k 1, 4, .inl Yf)), (Mt, .inl (k 2, 240, .inr (.inl Tf)))]) hx hb hml hown hts hKK hP hD hS hA (m_isN l D k hm Ma Mn Ms My Mt Mp Mx Mo Mk Ml Mb Mh Mc Mz Mr Mq Mst Mtd Msz Mtk Mfr Men Mva Mfk Mfp Mfs Mse Mlt Mdp Mct Mdr Mrs Mit Mmk Mtp Mbt 1 ⟨by omega, by omega⟩ (by omega)) ci_X12_is qm_X12_89 ⟨Nat.le_of_ble_eq_true rfl, Nat.le_of_ble_eq_true rfl⟩ ⟨Nat.le_of_ble_eq_true rfl, Nat.le_of_ble_eq_true rfl⟩ [0] [1, 2, 3] rfl rfl rfl rfl rfl (by decide) 0 rfl rfl rfl hl.1 rfl (Nat.le_of_ble_eq_true rfl) dX12_tray_28 (fun u_11 H locs hφ hP hD hS => ?_)
        obtain ⟨I_12, L_13, F_14, G_15⟩ := u_11
        refine W.eq (g2 := F0 m 31 ls [.int (iZ 0)]) rfl ?_
        exact EWz hx hb hr hlocks hS (fun i => [0, 1].getD i 0, fun i => [0].getD i 0, fun i => [Sf, Yf].getD i (fun _ => 0), fun i => [Tf].getD i (fun _ => 0)) rfl rfl ⟨(show rgI Sf 0 3 4 from rgS), (show rgI Yf (-1) 60 4 from rgY), (show ((0 : Int) = 1 ∧ ((0 ≤ x1 ∧ x1 ≤ 3) ∧ (0 ≤ x2 ∧ x2 ≤ 3) ∧ (0 ≤ x3 ∧ x3 ≤ 60))) ∨ ((0 : Int) = 0 ∧ ¬ ((0 ≤ x1 ∧ x1 ≤ 3) ∧ (0 ≤ x2 ∧ x2 ≤ 3) ∧ (0 ≤ x3 ∧ x3 ≤ 60))) from (by omega)), (show (((0 ≤ x1 ∧ x1 ≤ 3) ∧ (0 ≤ x2 ∧ x2 ≤ 3) ∧ (0 ≤ x3 ∧ x3 ≤ 60)) ∧ Sf = upd Sf (iZ x1).toNatClampNeg (iZ x2) ∧ Yf = upd Yf (iZ x1).toNatClampNeg (iZ x3)) ∨ (¬ ((0 ≤ x1 ∧ x1 ≤ 3) ∧ (0 ≤ x2 ∧ x2 ≤ 3) ∧ (0 ≤ x3 ∧ x3 ≤ 60)) ∧ Sf = Sf ∧ Yf = Yf) from (Or.inr ⟨by omega, rfl, rfl⟩))⟩ (hP.sub [3, 0, 1, 2] rfl) (hD.sub [3, 0, 1, 2] rfl rfl) dX12_tray_31
      ·
        have c_10 := mt (zlt (x := iZ 3) (y := iZ x2) rfl rfl ⟨by omega, by omega⟩ ⟨by omega, by omega⟩).mpr c_10
        refine lv_iload_n hx hb dX12_tray_16 rfl (lv_at hl 3 rfl) ?_
        refine lv_if_lt (tgt := 26) hx hb dX12_tray_17 (by decide) (fun c_17 => ?_) (fun c_17 => ?_)
        ·
          have c_17 := (zlt (x := iZ x3) (y := iZ 0) rfl rfl ⟨by omega, by omega⟩ ⟨by omega, by omega⟩).mp c_17
          refine lv_aload_n hx hb dX12_tray_26 rfl (lv_at hl 0 rfl) ?_
          refine lv_iconst (v := iZ 1) hx hb dX12_tray_27 (by decide) ?_
          refine CWV (As := [.int (iZ 1)]) (rest := []) (wc := [(hm, .inr (12, [.ref Ma, .ref Mn, .int (iZ Mst), .long Mtp, .long Mbt, .ref Ms, .ref My, .ref Mt, .ref Mp, .ref Mx, .int (iZ Mtd), .int (iZ Msz), .int (iZ Mtk), .int (iZ Mfr), .int (iZ Men), .int (iZ Mva), .int (iZ Mfk), .int (iZ Mfp), .int (iZ Mfs), .int (iZ Mse), .int (iZ Mlt), .ref Mo, .int (iZ Mdp), .int (iZ Mct), .ref Mk, .ref Ml, .ref Mb, .ref Mh, .ref Mc, .int (iZ Mdr), .int (iZ Mrs), .ref Mz, .ref Mr, .ref Mq, .int (iZ Mit), .int (iZ Mmk)]))]) (wr := [(Ms, .inl (k 1, 4, .inl Sf)), (My, .inl (k 1, 4, .inl Yf)), (Mt, .inl (k 2, 240, .inr (.inl Tf)))]) hx hb hml hown hts hKK hP hD hS hA (m_isN l D k hm Ma Mn Ms My Mt Mp Mx Mo Mk Ml Mb Mh Mc Mz Mr Mq Mst Mtd Msz Mtk Mfr Men Mva Mfk Mfp Mfs Mse Mlt Mdp Mct Mdr Mrs Mit Mmk Mtp Mbt 1 ⟨by omega, by omega⟩ (by omega)) ci_X12_is qm_X12_89 ⟨Nat.le_of_ble_eq_true rfl, Nat.le_of_ble_eq_true rfl⟩ ⟨Nat.le_of_ble_eq_true rfl, Nat.le_of_ble_eq_true rfl⟩ [0] [1, 2, 3] rfl rfl rfl rfl rfl (by decide) 0 rfl rfl rfl hl.1 rfl (Nat.le_of_ble_eq_true rfl) dX12_tray_28 (fun u_18 H locs hφ hP hD hS => ?_)
          obtain ⟨I_19, L_20, F_21, G_22⟩ := u_18
          refine W.eq (g2 := F0 m 31 ls [.int (iZ 0)]) rfl ?_
          exact EWz hx hb hr hlocks hS (fun i => [0, 1].getD i 0, fun i => [0].getD i 0, fun i => [Sf, Yf].getD i (fun _ => 0), fun i => [Tf].getD i (fun _ => 0)) rfl rfl ⟨(show rgI Sf 0 3 4 from rgS), (show rgI Yf (-1) 60 4 from rgY), (show ((0 : Int) = 1 ∧ ((0 ≤ x1 ∧ x1 ≤ 3) ∧ (0 ≤ x2 ∧ x2 ≤ 3) ∧ (0 ≤ x3 ∧ x3 ≤ 60))) ∨ ((0 : Int) = 0 ∧ ¬ ((0 ≤ x1 ∧ x1 ≤ 3) ∧ (0 ≤ x2 ∧ x2 ≤ 3) ∧ (0 ≤ x3 ∧ x3 ≤ 60))) from (by omega)), (show (((0 ≤ x1 ∧ x1 ≤ 3) ∧ (0 ≤ x2 ∧ x2 ≤ 3) ∧ (0 ≤ x3 ∧ x3 ≤ 60)) ∧ Sf = upd Sf (iZ x1).toNatClampNeg (iZ x2) ∧ Yf = upd Yf (iZ x1).toNatClampNeg (iZ x3)) ∨ (¬ ((0 ≤ x1 ∧ x1 ≤ 3) ∧ (0 ≤ x2 ∧ x2 ≤ 3) ∧ (0 ≤ x3 ∧ x3 ≤ 60)) ∧ Sf = Sf ∧ Yf = Yf) from (Or.inr ⟨by omega, rfl, rfl⟩))⟩ (hP.sub [3, 0, 1, 2] rfl) (hD.sub [3, 0, 1, 2] rfl rfl) dX12_tray_31
        ·
          have c_17 := mt (zlt (x := iZ x3) (y := iZ 0) rfl rfl ⟨by omega, by omega⟩ ⟨by omega, by omega⟩).mpr c_17
          refine lv_iload_n hx hb dX12_tray_20 rfl (lv_at hl 3 rfl) ?_
          refine lv_bipush (v := iZ 60) hx hb dX12_tray_21 (by decide) ?_
          refine lv_icmp_le (tgt := 32) hx hb dX12_tray_23 (by decide) (fun c_24 => ?_) (fun c_24 => ?_)
          ·
            have c_24 := (zle (x := iZ x3) (y := iZ 60) rfl rfl ⟨by omega, by omega⟩ ⟨by omega, by omega⟩).mp c_24
            refine lv_aload_n hx hb dX12_tray_32 rfl (lv_at hl 0 rfl) ?_
            refine va_get (D := D) (ci := 12) (v := .ref Ms) (C := RX12) (T := TX12) (N := 36) hx hb hts iX12 hown hK hP 0 rfl rfl 5 (by decide) (hts _ qf_X12_21) (fun _ h => h) rfl dX12_tray_33 ?_
            refine lv_iload_n hx hb dX12_tray_36 rfl (lv_at hl 1 rfl) ?_
            refine lv_iload_n hx hb dX12_tray_37 rfl (lv_at hl 2 rfl) ?_
            refine va_iast hx hb hK hP hD hS 1 1 rfl rfl (zin (e := x1) (n := 4) ⟨by omega, by omega⟩ (by decide)) dX12_tray_38 (fun H locs hP hD hS => ?_)
            obtain ⟨f_25, hf_25⟩ : ∃ gg9, gg9 = upd Sf (iZ x1).toNatClampNeg (iZ x2) := ⟨_, rfl⟩
            rw [← hf_25] at hP hD
            have rgf_25 := rg_upd rgS hf_25 (by omega) ⟨by omega, by omega⟩ ⟨by omega, by omega⟩
            refine lv_aload_n hx hb dX12_tray_39 rfl (lv_at hl 0 rfl) ?_
            refine va_get (D := D) (ci := 12) (v := .ref My) (C := RX12) (T := TX12) (N := 36) hx hb hts iX12 hown hK hP 0 rfl rfl 6 (by decide) (hts _ qf_X12_24) (fun _ h => h) rfl dX12_tray_40 ?_
            refine lv_iload_n hx hb dX12_tray_43 rfl (lv_at hl 1 rfl) ?_
            refine lv_iload_n hx hb dX12_tray_44 rfl (lv_at hl 3 rfl) ?_
            refine va_iast hx hb hK hP hD hS 2 1 rfl rfl (zin (e := x1) (n := 4) ⟨by omega, by omega⟩ (by decide)) dX12_tray_45 (fun H locs hP hD hS => ?_)
            obtain ⟨f_26, hf_26⟩ : ∃ gg9, gg9 = upd Yf (iZ x1).toNatClampNeg (iZ x3) := ⟨_, rfl⟩
            rw [← hf_26] at hP hD
            have rgf_26 := rg_upd rgY hf_26 (by omega) ⟨by omega, by omega⟩ ⟨by omega, by omega⟩
            refine lv_iconst (v := iZ 0) hx hb dX12_tray_46 (by decide) ?_
            refine lv_istore (lv' := [(4, .int (iZ 0)), (0, .ref hm), (1, .int (iZ x1)), (2, .int (iZ x2)), (3, .int (iZ x3))]) hx hb dX12_tray_47 hl (by decide) rfl (fun ls hl => ?_)
            have HL49 : ∀ (fu : Nat) (v4_49 : Int) (Tfq49 : Nat → Int64) (H : Heap) (locs : List Loc) (ls : Array Slot), ((59) + 2 - v4_49) < (fu : Int) → ((0 ≤ v4_49 ∧ v4_49 ≤ (59) + 1)) → va_P D vwCl [(hm, .inr (12, [.ref Ma, .ref Mn, .int (iZ Mst), .long Mtp, .long Mbt, .ref Ms, .ref My, .ref Mt, .ref Mp, .ref Mx, .int (iZ Mtd), .int (iZ Msz), .int (iZ Mtk), .int (iZ Mfr), .int (iZ Men), .int (iZ Mva), .int (iZ Mfk), .int (iZ Mfp), .int (iZ Mfs), .int (iZ Mse), .int (iZ Mlt), .ref Mo, .int (iZ Mdp), .int (iZ Mct), .ref Mk, .ref Ml, .ref Mb, .ref Mh, .ref Mc, .int (iZ Mdr), .int (iZ Mrs), .ref Mz, .ref Mr, .ref Mq, .int (iZ Mit), .int (iZ Mmk)])), (Ms, .inl (k 1, 4, .inl f_25)), (My, .inl (k 1, 4, .inl f_26)), (Mt, .inl (k 2, 240, .inr (.inl Tfq49)))] H → va_D A [(hm, .inr (12, [.ref Ma, .ref Mn, .int (iZ Mst), .long Mtp, .long Mbt, .ref Ms, .ref My, .ref Mt, .ref Mp, .ref Mx, .int (iZ Mtd), .int (iZ Msz), .int (iZ Mtk), .int (iZ Mfr), .int (iZ Men), .int (iZ Mva), .int (iZ Mfk), .int (iZ Mfp), .int (iZ Mfs), .int (iZ Mse), .int (iZ Mlt), .ref Mo, .int (iZ Mdp), .int (iZ Mct), .ref Mk, .ref Ml, .ref Mb, .ref Mh, .ref Mc, .int (iZ Mdr), .int (iZ Mrs), .ref Mz, .ref Mr, .ref Mq, .int (iZ Mit), .int (iZ Mmk)])), (Ms, .inl (k 1, 4, .inl f_25)), (My, .inl (k 1, 4, .inl f_26)), (Mt, .inl (k 2, 240, .inr (.inl Tfq49)))] → va_S A s.heap H locs → lv_has ls 5 [(4, .int (iZ v4_49)), (0, .ref hm), (1, .int (iZ x1)), (2, .int (iZ x2)), (3, .int (iZ x3))] → W p l e (rj 1 0 0) s m [.ref hm, .int (iZ x1), .int (iZ x2), .int (iZ x3)].toArray below meth c H locs 0 0 (MQ below (QW (σ := ((Nat → Int) × (Nat → Int64) × (Nat → Nat → Int32) × (Nat → Nat → Int64))) (fun u => some (.int (iZ (u.1 0)))) (fun u => (rgI (u.2.2.1 0) 0 3 4) ∧ (rgI (u.2.2.1 1) (-1) 60 4) ∧ ((((u.1 0) : Int) = 1 ∧ ((0 ≤ x1 ∧ x1 ≤ 3) ∧ (0 ≤ x2 ∧ x2 ≤ 3) ∧ (0 ≤ x3 ∧ x3 ≤ 60))) ∨ (((u.1 0) : Int) = 0 ∧ ¬ ((0 ≤ x1 ∧ x1 ≤ 3) ∧ (0 ≤ x2 ∧ x2 ≤ 3) ∧ (0 ≤ x3 ∧ x3 ≤ 60)))) ∧ ((((0 ≤ x1 ∧ x1 ≤ 3) ∧ (0 ≤ x2 ∧ x2 ≤ 3) ∧ (0 ≤ x3 ∧ x3 ≤ 60)) ∧ (u.2.2.1 0) = upd Sf (iZ x1).toNatClampNeg (iZ x2) ∧ (u.2.2.1 1) = upd Yf (iZ x1).toNatClampNeg (iZ x3)) ∨ (¬ ((0 ≤ x1 ∧ x1 ≤ 3) ∧ (0 ≤ x2 ∧ x2 ≤ 3) ∧ (0 ≤ x3 ∧ x3 ≤ 60)) ∧ (u.2.2.1 0) = Sf ∧ (u.2.2.1 1) = Yf))) (fun u => [(hm, .inr (12, [.ref Ma, .ref Mn, .int (iZ (u.1 1)), .long Mtp, .long Mbt, .ref Ms, .ref My, .ref Mt, .ref Mp, .ref Mx, .int (iZ Mtd), .int (iZ Msz), .int (iZ Mtk), .int (iZ Mfr), .int (iZ Men), .int (iZ Mva), .int (iZ Mfk), .int (iZ Mfp), .int (iZ Mfs), .int (iZ Mse), .int (iZ Mlt), .ref Mo, .int (iZ Mdp), .int (iZ Mct), .ref Mk, .ref Ml, .ref Mb, .ref Mh, .ref Mc, .int (iZ Mdr), .int (iZ Mrs), .ref Mz, .ref Mr, .ref Mq, .int (iZ Mit), .int (iZ Mmk)])), (Ms, .inl (k 1, 4, .inl (u.2.2.1 0))), (My, .inl (k 1, 4, .inl (u.2.2.1 1))), (Mt, .inl (k 2, 240, .inr (.inl (u.2.2.2 0))))]) D A) [.ref hm, .int (iZ x1), .int (iZ x2), .int (iZ x3)].toArray s 0 0 A) (F0 m 49 ls []) := by
              intro fu
              induction fu with
              | zero => intro v4_49 Tfq49 H locs ls hμ49 hi49 hP hD hS hl; exact absurd hμ49 (by omega)
              | succ fu ih49 =>
                intro v4_49 Tfq49 H locs ls hμ49 hi49 hP hD hS hl
                refine lv_iload hx hb dX12_tray_49 (lv_at hl 0 rfl) ?_
                refine lv_iload_n hx hb dX12_tray_51 rfl (lv_at hl 4 rfl) ?_
                refine lv_icmp_ge (tgt := 74) hx hb dX12_tray_52 (by decide) (fun c_27 => ?_) (fun c_27 => ?_)
                ·
                  have c_27 := (zle (x := iZ x3) (y := iZ v4_49) rfl rfl ⟨by omega, by omega⟩ ⟨by omega, by omega⟩).mp c_27
                  refine lv_aload_n hx hb dX12_tray_74 rfl (lv_at hl 1 rfl) ?_
                  refine lv_iconst (v := iZ 0) hx hb dX12_tray_75 (by decide) ?_
                  refine CWV (As := [.int (iZ 0)]) (rest := []) (wc := [(hm, .inr (12, [.ref Ma, .ref Mn, .int (iZ Mst), .long Mtp, .long Mbt, .ref Ms, .ref My, .ref Mt, .ref Mp, .ref Mx, .int (iZ Mtd), .int (iZ Msz), .int (iZ Mtk), .int (iZ Mfr), .int (iZ Men), .int (iZ Mva), .int (iZ Mfk), .int (iZ Mfp), .int (iZ Mfs), .int (iZ Mse), .int (iZ Mlt), .ref Mo, .int (iZ Mdp), .int (iZ Mct), .ref Mk, .ref Ml, .ref Mb, .ref Mh, .ref Mc, .int (iZ Mdr), .int (iZ Mrs), .ref Mz, .ref Mr, .ref Mq, .int (iZ Mit), .int (iZ Mmk)]))]) (wr := [(Ms, .inl (k 1, 4, .inl f_25)), (My, .inl (k 1, 4, .inl f_26)), (Mt, .inl (k 2, 240, .inr (.inl Tfq49)))]) hx hb hml hown hts hKK hP hD hS hA (m_is0 l D k hm Ma Mn Ms My Mt Mp Mx Mo Mk Ml Mb Mh Mc Mz Mr Mq Mst Mtd Msz Mtk Mfr Men Mva Mfk Mfp Mfs Mse Mlt Mdp Mct Mdr Mrs Mit Mmk Mtp Mbt) ci_X12_is qm_X12_89 ⟨Nat.le_of_ble_eq_true rfl, Nat.le_of_ble_eq_true rfl⟩ ⟨Nat.le_of_ble_eq_true rfl, Nat.le_of_ble_eq_true rfl⟩ [0] [1, 2, 3] rfl rfl rfl rfl rfl (by decide) 0 rfl rfl rfl hl.1 rfl (Nat.le_of_ble_eq_true rfl) dX12_tray_76 (fun u_28 H locs hφ hP hD hS => ?_)
                  obtain ⟨I_29, L_30, F_31, G_32⟩ := u_28
                  refine W.eq (g2 := F0 m 79 ls [.int (iZ 1)]) rfl ?_
                  exact EWz hx hb hr hlocks hS (fun i => [1, 0].getD i 0, fun i => [0].getD i 0, fun i => [f_25, f_26].getD i (fun _ => 0), fun i => [Tfq49].getD i (fun _ => 0)) rfl rfl ⟨(show rgI f_25 0 3 4 from rgf_25), (show rgI f_26 (-1) 60 4 from rgf_26), (show ((1 : Int) = 1 ∧ ((0 ≤ x1 ∧ x1 ≤ 3) ∧ (0 ≤ x2 ∧ x2 ≤ 3) ∧ (0 ≤ x3 ∧ x3 ≤ 60))) ∨ ((1 : Int) = 0 ∧ ¬ ((0 ≤ x1 ∧ x1 ≤ 3) ∧ (0 ≤ x2 ∧ x2 ≤ 3) ∧ (0 ≤ x3 ∧ x3 ≤ 60))) from (by omega)), (show (((0 ≤ x1 ∧ x1 ≤ 3) ∧ (0 ≤ x2 ∧ x2 ≤ 3) ∧ (0 ≤ x3 ∧ x3 ≤ 60)) ∧ f_25 = upd Sf (iZ x1).toNatClampNeg (iZ x2) ∧ f_26 = upd Yf (iZ x1).toNatClampNeg (iZ x3)) ∨ (¬ ((0 ≤ x1 ∧ x1 ≤ 3) ∧ (0 ≤ x2 ∧ x2 ≤ 3) ∧ (0 ≤ x3 ∧ x3 ≤ 60)) ∧ f_25 = Sf ∧ f_26 = Yf) from (Or.inl ⟨by omega, hf_25, hf_26⟩))⟩ (hP.sub [3, 0, 1, 2] rfl) (hD.sub [3, 0, 1, 2] rfl rfl) dX12_tray_79
                ·
                  have c_27 := mt (zle (x := iZ x3) (y := iZ v4_49) rfl rfl ⟨by omega, by omega⟩ ⟨by omega, by omega⟩).mpr c_27
                  refine lv_aload_n hx hb dX12_tray_55 rfl (lv_at hl 1 rfl) ?_
                  refine va_get (D := D) (ci := 12) (v := .ref Mt) (C := RX12) (T := TX12) (N := 36) hx hb hts iX12 hown hK hP 0 rfl rfl 7 (by decide) (hts _ qf_X12_27) (fun _ h => h) rfl dX12_tray_56 ?_
                  refine lv_bipush (v := iZ 60) hx hb dX12_tray_59 (by decide) ?_
                  refine lv_iload_n hx hb dX12_tray_61 rfl (lv_at hl 2 rfl) ?_
                  refine lv_imul hx hb dX12_tray_62 ?_
                  refine lv_topi (fun x_34 ex_34 => ?_)
                  obtain rfl : x_34 = iZ (60 * x1) := ex_34.trans (iZ_mul 60 x1)
                  refine lv_iload hx hb dX12_tray_63 (lv_at hl 0 rfl) ?_
                  refine lv_iadd hx hb dX12_tray_65 ?_
                  refine lv_topi (fun x_35 ex_35 => ?_)
                  obtain rfl : x_35 = iZ ((60 * x1) + v4_49) := ex_35.trans (iZ_add (60 * x1) v4_49)
                  refine lv_lconst (v := 0) hx hb dX12_tray_66 rfl ?_
                  refine va_last hx hb hK hP hD hS 3 2 rfl rfl (zin (e := ((60 * x1) + v4_49)) (n := 240) ⟨by omega, by omega⟩ (by decide)) dX12_tray_67 (fun H locs hP hD hS => ?_)
                  obtain ⟨f_36, hf_36⟩ : ∃ gg9, gg9 = vp_updL Tfq49 (iZ ((60 * x1) + v4_49)).toNatClampNeg 0 := ⟨_, rfl⟩
                  rw [← hf_36] at hP hD
                  refine lv_iinc (v := iZ (v4_49 + 1)) (lv' := [(4, .int (iZ (v4_49 + 1))), (0, .ref hm), (1, .int (iZ x1)), (2, .int (iZ x2)), (3, .int (iZ x3))]) hx hb dX12_tray_68 hl (k := 0) rfl (iZ_add v4_49 1) (by decide) rfl (fun ls hl => ?_)
                  refine lv_goto (tgt := 49) hx hb dX12_tray_71 (by decide) ?_
                  exact ih49  (v4_49 + 1) f_36 _ _ _ (by omega) (show (0 ≤ (v4_49 + 1) ∧ (v4_49 + 1) ≤ (59) + 1) from ⟨by omega, by omega⟩) (hP.sub [0, 1, 2, 3] rfl) (hD.sub [0, 1, 2, 3] rfl rfl) hS (lv_sub hl [0, 1, 2, 3, 4] rfl)
            exact HL49 64 0 Tf _ _ _ (by omega) (show (0 ≤ 0 ∧ 0 ≤ (59) + 1) from ⟨by omega, by omega⟩) (hP.sub [0, 1, 2, 3] rfl) (hD.sub [0, 1, 2, 3] rfl rfl) hS (lv_sub hl [0, 1, 2, 3, 4] rfl)
          ·
            have c_24 := mt (zle (x := iZ x3) (y := iZ 60) rfl rfl ⟨by omega, by omega⟩ ⟨by omega, by omega⟩).mpr c_24
            refine lv_aload_n hx hb dX12_tray_26 rfl (lv_at hl 0 rfl) ?_
            refine lv_iconst (v := iZ 1) hx hb dX12_tray_27 (by decide) ?_
            refine CWV (As := [.int (iZ 1)]) (rest := []) (wc := [(hm, .inr (12, [.ref Ma, .ref Mn, .int (iZ Mst), .long Mtp, .long Mbt, .ref Ms, .ref My, .ref Mt, .ref Mp, .ref Mx, .int (iZ Mtd), .int (iZ Msz), .int (iZ Mtk), .int (iZ Mfr), .int (iZ Men), .int (iZ Mva), .int (iZ Mfk), .int (iZ Mfp), .int (iZ Mfs), .int (iZ Mse), .int (iZ Mlt), .ref Mo, .int (iZ Mdp), .int (iZ Mct), .ref Mk, .ref Ml, .ref Mb, .ref Mh, .ref Mc, .int (iZ Mdr), .int (iZ Mrs), .ref Mz, .ref Mr, .ref Mq, .int (iZ Mit), .int (iZ Mmk)]))]) (wr := [(Ms, .inl (k 1, 4, .inl Sf)), (My, .inl (k 1, 4, .inl Yf)), (Mt, .inl (k 2, 240, .inr (.inl Tf)))]) hx hb hml hown hts hKK hP hD hS hA (m_isN l D k hm Ma Mn Ms My Mt Mp Mx Mo Mk Ml Mb Mh Mc Mz Mr Mq Mst Mtd Msz Mtk Mfr Men Mva Mfk Mfp Mfs Mse Mlt Mdp Mct Mdr Mrs Mit Mmk Mtp Mbt 1 ⟨by omega, by omega⟩ (by omega)) ci_X12_is qm_X12_89 ⟨Nat.le_of_ble_eq_true rfl, Nat.le_of_ble_eq_true rfl⟩ ⟨Nat.le_of_ble_eq_true rfl, Nat.le_of_ble_eq_true rfl⟩ [0] [1, 2, 3] rfl rfl rfl rfl rfl (by decide) 0 rfl rfl rfl hl.1 rfl (Nat.le_of_ble_eq_true rfl) dX12_tray_28 (fun u_37 H locs hφ hP hD hS => ?_)
            obtain ⟨I_38, L_39, F_40, G_41⟩ := u_37
            refine W.eq (g2 := F0 m 31 ls [.int (iZ 0)]) rfl ?_
            exact EWz hx hb hr hlocks hS (fun i => [0, 1].getD i 0, fun i => [0].getD i 0, fun i => [Sf, Yf].getD i (fun _ => 0), fun i => [Tf].getD i (fun _ => 0)) rfl rfl ⟨(show rgI Sf 0 3 4 from rgS), (show rgI Yf (-1) 60 4 from rgY), (show ((0 : Int) = 1 ∧ ((0 ≤ x1 ∧ x1 ≤ 3) ∧ (0 ≤ x2 ∧ x2 ≤ 3) ∧ (0 ≤ x3 ∧ x3 ≤ 60))) ∨ ((0 : Int) = 0 ∧ ¬ ((0 ≤ x1 ∧ x1 ≤ 3) ∧ (0 ≤ x2 ∧ x2 ≤ 3) ∧ (0 ≤ x3 ∧ x3 ≤ 60))) from (by omega)), (show (((0 ≤ x1 ∧ x1 ≤ 3) ∧ (0 ≤ x2 ∧ x2 ≤ 3) ∧ (0 ≤ x3 ∧ x3 ≤ 60)) ∧ Sf = upd Sf (iZ x1).toNatClampNeg (iZ x2) ∧ Yf = upd Yf (iZ x1).toNatClampNeg (iZ x3)) ∨ (¬ ((0 ≤ x1 ∧ x1 ≤ 3) ∧ (0 ≤ x2 ∧ x2 ≤ 3) ∧ (0 ≤ x3 ∧ x3 ≤ 60)) ∧ Sf = Sf ∧ Yf = Yf) from (Or.inr ⟨by omega, rfl, rfl⟩))⟩ (hP.sub [3, 0, 1, 2] rfl) (hD.sub [3, 0, 1, 2] rfl rfl) dX12_tray_31
  ·
    subst qz_1
    refine lv_if_eq (tgt := 26) hx hb dX12_tray_4 (by decide) (fun _ => ?_) (fun c => absurd (by decide) c)
    refine lv_aload_n hx hb dX12_tray_26 rfl (lv_at hl 0 rfl) ?_
    refine lv_iconst (v := iZ 1) hx hb dX12_tray_27 (by decide) ?_
    refine CWV (As := [.int (iZ 1)]) (rest := []) (wc := [(hm, .inr (12, [.ref Ma, .ref Mn, .int (iZ Mst), .long Mtp, .long Mbt, .ref Ms, .ref My, .ref Mt, .ref Mp, .ref Mx, .int (iZ Mtd), .int (iZ Msz), .int (iZ Mtk), .int (iZ Mfr), .int (iZ Men), .int (iZ Mva), .int (iZ Mfk), .int (iZ Mfp), .int (iZ Mfs), .int (iZ Mse), .int (iZ Mlt), .ref Mo, .int (iZ Mdp), .int (iZ Mct), .ref Mk, .ref Ml, .ref Mb, .ref Mh, .ref Mc, .int (iZ Mdr), .int (iZ Mrs), .ref Mz, .ref Mr, .ref Mq, .int (iZ Mit), .int (iZ Mmk)]))]) (wr := [(Ms, .inl (k 1, 4, .inl Sf)), (My, .inl (k 1, 4, .inl Yf)), (Mt, .inl (k 2, 240, .inr (.inl Tf)))]) hx hb hml hown hts hKK hP hD hS hA (m_isN l D k hm Ma Mn Ms My Mt Mp Mx Mo Mk Ml Mb Mh Mc Mz Mr Mq Mst Mtd Msz Mtk Mfr Men Mva Mfk Mfp Mfs Mse Mlt Mdp Mct Mdr Mrs Mit Mmk Mtp Mbt 1 ⟨by omega, by omega⟩ (by omega)) ci_X12_is qm_X12_89 ⟨Nat.le_of_ble_eq_true rfl, Nat.le_of_ble_eq_true rfl⟩ ⟨Nat.le_of_ble_eq_true rfl, Nat.le_of_ble_eq_true rfl⟩ [0] [1, 2, 3] rfl rfl rfl rfl rfl (by decide) 0 rfl rfl rfl hl.1 rfl (Nat.le_of_ble_eq_true rfl) dX12_tray_28 (fun u_44 H locs hφ hP hD hS => ?_)
    obtain ⟨I_45, L_46, F_47, G_48⟩ := u_44
    refine W.eq (g2 := F0 m 31 ls [.int (iZ 0)]) rfl ?_
    exact EWz hx hb hr hlocks hS (fun i => [0, 1].getD i 0, fun i => [0].getD i 0, fun i => [Sf, Yf].getD i (fun _ => 0), fun i => [Tf].getD i (fun _ => 0)) rfl rfl ⟨(show rgI Sf 0 3 4 from rgS), (show rgI Yf (-1) 60 4 from rgY), (show ((0 : Int) = 1 ∧ ((0 ≤ x1 ∧ x1 ≤ 3) ∧ (0 ≤ x2 ∧ x2 ≤ 3) ∧ (0 ≤ x3 ∧ x3 ≤ 60))) ∨ ((0 : Int) = 0 ∧ ¬ ((0 ≤ x1 ∧ x1 ≤ 3) ∧ (0 ≤ x2 ∧ x2 ≤ 3) ∧ (0 ≤ x3 ∧ x3 ≤ 60))) from (by omega)), (show (((0 ≤ x1 ∧ x1 ≤ 3) ∧ (0 ≤ x2 ∧ x2 ≤ 3) ∧ (0 ≤ x3 ∧ x3 ≤ 60)) ∧ Sf = upd Sf (iZ x1).toNatClampNeg (iZ x2) ∧ Yf = upd Yf (iZ x1).toNatClampNeg (iZ x3)) ∨ (¬ ((0 ≤ x1 ∧ x1 ≤ 3) ∧ (0 ≤ x2 ∧ x2 ≤ 3) ∧ (0 ≤ x3 ∧ x3 ≤ 60)) ∧ Sf = Sf ∧ Yf = Yf) from (Or.inr ⟨by omega, rfl, rfl⟩))⟩ (hP.sub [3, 0, 1, 2] rfl) (hD.sub [3, 0, 1, 2] rfl rfl) dX12_tray_31
set_option maxHeartbeats 4000000 in
set_option maxRecDepth 100000 in
theorem m_wrongPlace (l : Launch) (D : va_G) (k : Nat → ClassId) (fs : List Value) (hm : Nat) (My : Nat) (Yf : Nat → Int32) (x : Int) (y : Int) (f6 : fs[6]? = some (.ref My)) (rgY : rgI Yf (-1) 60 4) (h9x : -2147483648 ≤ x ∧ x < 2147483648) (h9y : -2147483648 ≤ y ∧ y < 2147483648) : RP l yX12_wrongPlace cX12_wrongPlace 3 (some .int) 1 D k [.ref hm, .int (iZ x), .int (iZ y)] [(hm, .inr (12, fs)), (My, .inl (k 1, 4, .inl Yf))] (fun z => (z = 0 ∧ ((0 ≤ x ∧ x ≤ 3) ∧ 0 ≤ y ∧ y < gz Yf x)) ∨ (¬ z = 0 ∧ ((1 ≤ z ∧ z ≤ 3) ∧ ¬ ((0 ≤ x ∧ x ≤ 3) ∧ 0 ≤ y ∧ y < gz Yf x)))) := by
  refine MRP (by decide) (Nat.le_of_ble_eq_true rfl) (fun p e s m below meth c ls hx hb hml hr hlocks hts hown hKK hP hl => ?_)
  have hK := hKK.1
  have hl : lv_has ls 3 [(0, .ref hm), (1, .int (iZ x)), (2, .int (iZ y))] := hl
  refine lv_iload_n hx hb dX12_wrongPlace_0 rfl (lv_at hl 1 rfl) ?_
  refine CPS (As := [.int (iZ x)]) (rest := []) hx hb hml hown hts hKK (hP.sub (ws' := []) [] rfl) (m_isTray l D k x ⟨by omega, by omega⟩) ci_X12_isTray qm_X12_93 ⟨Nat.le_of_ble_eq_true rfl, Nat.le_of_ble_eq_true rfl⟩ ⟨Nat.le_of_ble_eq_true rfl, Nat.le_of_ble_eq_true rfl⟩ rfl hl.1 rfl (Nat.le_of_ble_eq_true rfl) dX12_wrongPlace_1 (fun z_1 hz_1 => ?_)
  rcases hz_1 with ⟨qz_1, hz_1⟩ | ⟨qz_1, hz_1⟩
  ·
    subst qz_1
    refine lv_if_ne (tgt := 11) hx hb dX12_wrongPlace_4 (by decide) (fun _ => ?_) (fun c => absurd c (by decide))
    refine lv_aload_n hx hb dX12_wrongPlace_11 rfl (lv_at hl 0 rfl) ?_
    refine va_get (D := D) (ci := 12) (v := .ref My) (C := RX12) (T := TX12) (N := 36) hx hb hts iX12 hown hK hP 0 rfl rfl 6 (by decide) (hts _ qf_X12_24) (fun _ h => h) f6 dX12_wrongPlace_12 ?_
    refine lv_iload_n hx hb dX12_wrongPlace_15 rfl (lv_at hl 1 rfl) ?_
    refine va_iald hx hb hK hP 1 1 rfl rfl (zin (e := x) (n := 4) ⟨by omega, by omega⟩ (by decide)) dX12_wrongPlace_16 ?_
    refine lv_topi (fun x_3 ex_3 => ?_)
    obtain rfl : x_3 = iZ (gz Yf x) := ex_3.trans (gz_eq ⟨by omega, by omega⟩)
    have h_4 := rgY x (by omega) (by omega)
    refine lv_iconst (v := iZ (-1)) hx hb dX12_wrongPlace_17 (by decide) ?_
    refine lv_icmp_ne (tgt := 25) hx hb dX12_wrongPlace_18 (by decide) (fun c_5 => ?_) (fun c_5 => ?_)
    ·
      have c_5 := mt (zeq (x := iZ (gz Yf x)) (y := iZ (-1)) rfl rfl ⟨by omega, by omega⟩ ⟨by omega, by omega⟩).mpr c_5
      refine lv_iload_n hx hb dX12_wrongPlace_25 rfl (lv_at hl 2 rfl) ?_
      refine lv_if_lt (tgt := 39) hx hb dX12_wrongPlace_26 (by decide) (fun c_6 => ?_) (fun c_6 => ?_)
      ·
        have c_6 := (zlt (x := iZ y) (y := iZ 0) rfl rfl ⟨by omega, by omega⟩ ⟨by omega, by omega⟩).mp c_6
        refine lv_iconst (v := iZ 3) hx hb dX12_wrongPlace_39 (by decide) ?_
        refine lv_goto (tgt := 44) hx hb dX12_wrongPlace_40 (by decide) ?_
        exact EPi hx hb hr hlocks (by omega) dX12_wrongPlace_44
      ·
        have c_6 := mt (zlt (x := iZ y) (y := iZ 0) rfl rfl ⟨by omega, by omega⟩ ⟨by omega, by omega⟩).mpr c_6
        refine lv_iload_n hx hb dX12_wrongPlace_29 rfl (lv_at hl 2 rfl) ?_
        refine lv_aload_n hx hb dX12_wrongPlace_30 rfl (lv_at hl 0 rfl) ?_
        refine va_get (D := D) (ci := 12) (v := .ref My) (C := RX12) (T := TX12) (N := 36) hx hb hts iX12 hown hK hP 0 rfl rfl 6 (by decide) (hts _ qf_X12_24) (fun _ h => h) f6 dX12_wrongPlace_31 ?_
        refine lv_iload_n hx hb dX12_wrongPlace_34 rfl (lv_at hl 1 rfl) ?_
        refine va_iald hx hb hK hP 1 1 rfl rfl (zin (e := x) (n := 4) ⟨by omega, by omega⟩ (by decide)) dX12_wrongPlace_35 ?_
        refine lv_topi (fun x_7 ex_7 => ?_)
        obtain rfl : x_7 = iZ (gz Yf x) := ex_7.trans (gz_eq ⟨by omega, by omega⟩)
        have h_8 := rgY x (by omega) (by omega)
        refine lv_icmp_lt (tgt := 43) hx hb dX12_wrongPlace_36 (by decide) (fun c_9 => ?_) (fun c_9 => ?_)
        ·
          have c_9 := (zlt (x := iZ y) (y := iZ (gz Yf x)) rfl rfl ⟨by omega, by omega⟩ ⟨by omega, by omega⟩).mp c_9
          refine lv_iconst (v := iZ 0) hx hb dX12_wrongPlace_43 (by decide) ?_
          exact EPi hx hb hr hlocks (by omega) dX12_wrongPlace_44
        ·
          have c_9 := mt (zlt (x := iZ y) (y := iZ (gz Yf x)) rfl rfl ⟨by omega, by omega⟩ ⟨by omega, by omega⟩).mpr c_9
          refine lv_iconst (v := iZ 3) hx hb dX12_wrongPlace_39 (by decide) ?_
          refine lv_goto (tgt := 44) hx hb dX12_wrongPlace_40 (by decide) ?_
          exact EPi hx hb hr hlocks (by omega) dX12_wrongPlace_44
    ·
      have c_5 := (zeq (x := iZ (gz Yf x)) (y := iZ (-1)) rfl rfl ⟨by omega, by omega⟩ ⟨by omega, by omega⟩).mp c_5
      refine lv_iconst (v := iZ 2) hx hb dX12_wrongPlace_21 (by decide) ?_
      refine lv_goto (tgt := 44) hx hb dX12_wrongPlace_22 (by decide) ?_
      exact EPi hx hb hr hlocks (by omega) dX12_wrongPlace_44
  ·
    subst qz_1
    refine lv_if_ne (tgt := 11) hx hb dX12_wrongPlace_4 (by decide) (fun c => absurd (by decide) c) (fun _ => ?_)
    refine lv_iconst (v := iZ 1) hx hb dX12_wrongPlace_7 (by decide) ?_
    refine lv_goto (tgt := 44) hx hb dX12_wrongPlace_8 (by decide) ?_
    exact EPi hx hb hr hlocks (by omega) dX12_wrongPlace_44
set_option maxHeartbeats 4000000 in
set_option maxRecDepth 100000 in
theorem m_cut (l : Launch) (D : va_G) (k : Nat → ClassId) (x : Int64) (y : Int) (h9y : -2147483648 ≤ y ∧ y < 2147483648) : WD (σ := ((Nat → Int) × (Nat → Int64) × (Nat → Nat → Int32) × (Nat → Nat → Int64))) l yX12_cut cX12_cut 3 (some .long) 0 0 0 D k [.long x, .int (iZ y)] [] (fun u => some (.long (u.2.1 0))) (fun _ => True) (fun u => []) := by
  refine MW (by decide) (Nat.le_of_ble_eq_true rfl) (fun p e s m below meth c ls A hx hb hml hr hlocks hin hts hown hKK hP hD hS hA hl => ?_)
  have hK := hKK.1
  have hl : lv_has ls 3 [(0, .long x), (2, .int (iZ y))] := hl
  refine lv_iload_n hx hb dX12_cut_0 rfl (lv_at hl 1 rfl) ?_
  refine lv_if_ne (tgt := 11) hx hb dX12_cut_1 (by decide) (fun c_1 => ?_) (fun c_1 => ?_)
  ·
    have c_1 := mt (zeq (x := iZ y) (y := iZ 0) rfl rfl ⟨by omega, by omega⟩ ⟨by omega, by omega⟩).mpr c_1
    refine lv_iload_n hx hb dX12_cut_11 rfl (lv_at hl 1 rfl) ?_
    refine lv_iconst (v := iZ 1) hx hb dX12_cut_12 (by decide) ?_
    refine lv_icmp_ne (tgt := 23) hx hb dX12_cut_13 (by decide) (fun c_2 => ?_) (fun c_2 => ?_)
    ·
      have c_2 := mt (zeq (x := iZ y) (y := iZ 1) rfl rfl ⟨by omega, by omega⟩ ⟨by omega, by omega⟩).mpr c_2
      refine lv_iload_n hx hb dX12_cut_23 rfl (lv_at hl 1 rfl) ?_
      refine lv_iconst (v := iZ 2) hx hb dX12_cut_24 (by decide) ?_
      refine lv_icmp_ne (tgt := 34) hx hb dX12_cut_25 (by decide) (fun c_3 => ?_) (fun c_3 => ?_)
      ·
        have c_3 := mt (zeq (x := iZ y) (y := iZ 2) rfl rfl ⟨by omega, by omega⟩ ⟨by omega, by omega⟩).mpr c_3
        refine lv_lload_n hx hb dX12_cut_34 rfl (lv_at hl 0 rfl) ?_
        exact EWl hx hb hr hlocks hS (fun i => [0].getD i 0, fun i => [x].getD i 0, fun i => [].getD i (fun _ => 0), fun i => [].getD i (fun _ => 0)) rfl trivial (hP.sub [] rfl) (hD.sub [] rfl rfl) dX12_cut_35
      ·
        have c_3 := (zeq (x := iZ y) (y := iZ 2) rfl rfl ⟨by omega, by omega⟩ ⟨by omega, by omega⟩).mp c_3
        refine lv_lload_n hx hb dX12_cut_28 rfl (lv_at hl 0 rfl) ?_
        refine lv_l2i (v := _) hx hb dX12_cut_29 rfl ?_
        refine lv_topi (fun x_5 ex_5 => ?_)
        obtain ⟨z_4, hz_4, hz_4a, hz_4b⟩ := i32_z x_5
        subst hz_4
        refine lv_i2l (v := (iZ z_4).toInt64) hx hb dX12_cut_30 rfl ?_
        refine lv_goto (tgt := 35) hx hb dX12_cut_31 (by decide) ?_
        exact EWl hx hb hr hlocks hS (fun i => [0].getD i 0, fun i => [(iZ z_4).toInt64].getD i 0, fun i => [].getD i (fun _ => 0), fun i => [].getD i (fun _ => 0)) rfl trivial (hP.sub [] rfl) (hD.sub [] rfl rfl) dX12_cut_35
    ·
      have c_2 := (zeq (x := iZ y) (y := iZ 1) rfl rfl ⟨by omega, by omega⟩ ⟨by omega, by omega⟩).mp c_2
      refine lv_lload_n hx hb dX12_cut_16 rfl (lv_at hl 0 rfl) ?_
      refine lv_l2i (v := _) hx hb dX12_cut_17 rfl ?_
      refine lv_topi (fun x_7 ex_7 => ?_)
      obtain ⟨z_6, hz_6, hz_6a, hz_6b⟩ := i32_z x_7
      subst hz_6
      refine lv_i2s (v := _) hx hb dX12_cut_18 rfl ?_
      refine lv_topi (fun x_9 ex_9 => ?_)
      obtain ⟨z_8, hz_8, hz_8a, hz_8b⟩ := i32_z x_9
      subst hz_8
      refine lv_i2l (v := (iZ z_8).toInt64) hx hb dX12_cut_19 rfl ?_
      refine lv_goto (tgt := 35) hx hb dX12_cut_20 (by decide) ?_
      exact EWl hx hb hr hlocks hS (fun i => [0].getD i 0, fun i => [(iZ z_8).toInt64].getD i 0, fun i => [].getD i (fun _ => 0), fun i => [].getD i (fun _ => 0)) rfl trivial (hP.sub [] rfl) (hD.sub [] rfl rfl) dX12_cut_35
  ·
    have c_1 := (zeq (x := iZ y) (y := iZ 0) rfl rfl ⟨by omega, by omega⟩ ⟨by omega, by omega⟩).mp c_1
    refine lv_lload_n hx hb dX12_cut_4 rfl (lv_at hl 0 rfl) ?_
    refine lv_l2i (v := _) hx hb dX12_cut_5 rfl ?_
    refine lv_topi (fun x_11 ex_11 => ?_)
    obtain ⟨z_10, hz_10, hz_10a, hz_10b⟩ := i32_z x_11
    subst hz_10
    refine lv_i2b (v := _) hx hb dX12_cut_6 rfl ?_
    refine lv_topi (fun x_13 ex_13 => ?_)
    obtain ⟨z_12, hz_12, hz_12a, hz_12b⟩ := i32_z x_13
    subst hz_12
    refine lv_i2l (v := (iZ z_12).toInt64) hx hb dX12_cut_7 rfl ?_
    refine lv_goto (tgt := 35) hx hb dX12_cut_8 (by decide) ?_
    exact EWl hx hb hr hlocks hS (fun i => [0].getD i 0, fun i => [(iZ z_12).toInt64].getD i 0, fun i => [].getD i (fun _ => 0), fun i => [].getD i (fun _ => 0)) rfl trivial (hP.sub [] rfl) (hD.sub [] rfl rfl) dX12_cut_35
set_option maxHeartbeats 4000000 in
set_option maxRecDepth 100000 in
theorem q_write (l : Launch) (D : va_G) (k : Nat → ClassId) (hm : Nat) (Ma : Nat) (Mn : Nat) (Ms : Nat) (My : Nat) (Mt : Nat) (Mp : Nat) (Mx : Nat) (Mo : Nat) (Mk : Nat) (Ml : Nat) (Mb : Nat) (Mh : Nat) (Mc : Nat) (Mz : Nat) (Mr : Nat) (Mq : Nat) (Mst : Int) (Mtd : Int) (Msz : Int) (Mtk : Int) (Mfr : Int) (Men : Int) (Mva : Int) (Mfk : Int) (Mfp : Int) (Mfs : Int) (Mse : Int) (Mlt : Int) (Mdp : Int) (Mct : Int) (Mdr : Int) (Mrs : Int) (Mit : Int) (Mmk : Int) (Mtp : Int64) (Mbt : Int64) (Sf : Nat → Int32) (Yf : Nat → Int32) (Tf : Nat → Int64) (x1 : Int) (x2 : Int) (y : Int64) (rgS : rgI Sf 0 3 4) (rgY : rgI Yf (-1) 60 4) (h9x1 : -2147483648 ≤ x1 ∧ x1 < 2147483648) (h9x2 : -2147483648 ≤ x2 ∧ x2 < 2147483648) : WD (σ := ((Nat → Int) × (Nat → Int64) × (Nat → Nat → Int32) × (Nat → Nat → Int64))) l yX12_write cX12_write 6 (some .boolean) 2 0 0 D k [.ref hm, .int (iZ x1), .int (iZ x2), .long y] [(hm, .inr (12, [.ref Ma, .ref Mn, .int (iZ Mst), .long Mtp, .long Mbt, .ref Ms, .ref My, .ref Mt, .ref Mp, .ref Mx, .int (iZ Mtd), .int (iZ Msz), .int (iZ Mtk), .int (iZ Mfr), .int (iZ Men), .int (iZ Mva), .int (iZ Mfk), .int (iZ Mfp), .int (iZ Mfs), .int (iZ Mse), .int (iZ Mlt), .ref Mo, .int (iZ Mdp), .int (iZ Mct), .ref Mk, .ref Ml, .ref Mb, .ref Mh, .ref Mc, .int (iZ Mdr), .int (iZ Mrs), .ref Mz, .ref Mr, .ref Mq, .int (iZ Mit), .int (iZ Mmk)])), (Ms, .inl (k 1, 4, .inl Sf)), (My, .inl (k 1, 4, .inl Yf)), (Mt, .inl (k 2, 240, .inr (.inl Tf)))] (fun u => some (.int (iZ (u.1 0)))) (fun u => (((u.1 0) : Int) = 1 ∧ ((0 ≤ x1 ∧ x1 ≤ 3) ∧ 0 ≤ x2 ∧ x2 < gz Yf x1)) ∨ (((u.1 0) : Int) = 0 ∧ ¬ ((0 ≤ x1 ∧ x1 ≤ 3) ∧ 0 ≤ x2 ∧ x2 < gz Yf x1))) (fun u => [(hm, .inr (12, [.ref Ma, .ref Mn, .int (iZ (u.1 1)), .long Mtp, .long Mbt, .ref Ms, .ref My, .ref Mt, .ref Mp, .ref Mx, .int (iZ Mtd), .int (iZ Msz), .int (iZ Mtk), .int (iZ Mfr), .int (iZ Men), .int (iZ Mva), .int (iZ Mfk), .int (iZ Mfp), .int (iZ Mfs), .int (iZ Mse), .int (iZ Mlt), .ref Mo, .int (iZ Mdp), .int (iZ Mct), .ref Mk, .ref Ml, .ref Mb, .ref Mh, .ref Mc, .int (iZ Mdr), .int (iZ Mrs), .ref Mz, .ref Mr, .ref Mq, .int (iZ Mit), .int (iZ Mmk)])), (Ms, .inl (k 1, 4, .inl Sf)), (My, .inl (k 1, 4, .inl Yf)), (Mt, .inl (k 2, 240, .inr (.inl (u.2.2.2 0))))]) := by
  refine MW (by decide) (Nat.le_of_ble_eq_true rfl) (fun p e s m below meth c ls A hx hb hml hr hlocks hin hts hown hKK hP hD hS hA hl => ?_)
  have hK := hKK.1
  have hl : lv_has ls 6 [(0, .ref hm), (1, .int (iZ x1)), (2, .int (iZ x2)), (3, .long y)] := hl
  refine lv_aload_n hx hb dX12_write_0 rfl (lv_at hl 0 rfl) ?_
  refine lv_iload_n hx hb dX12_write_1 rfl (lv_at hl 1 rfl) ?_
  refine lv_iload_n hx hb dX12_write_2 rfl (lv_at hl 2 rfl) ?_
  refine CPV (As := [.int (iZ x1), .int (iZ x2)]) (rest := []) hx hb hml hown hts hKK (hP.sub (ws' := [(hm, .inr (12, [.ref Ma, .ref Mn, .int (iZ Mst), .long Mtp, .long Mbt, .ref Ms, .ref My, .ref Mt, .ref Mp, .ref Mx, .int (iZ Mtd), .int (iZ Msz), .int (iZ Mtk), .int (iZ Mfr), .int (iZ Men), .int (iZ Mva), .int (iZ Mfk), .int (iZ Mfp), .int (iZ Mfs), .int (iZ Mse), .int (iZ Mlt), .ref Mo, .int (iZ Mdp), .int (iZ Mct), .ref Mk, .ref Ml, .ref Mb, .ref Mh, .ref Mc, .int (iZ Mdr), .int (iZ Mrs), .ref Mz, .ref Mr, .ref Mq, .int (iZ Mit), .int (iZ Mmk)])), (My, .inl (k 1, 4, .inl Yf))]) [0, 2] rfl) (m_wrongPlace l D k ([.ref Ma, .ref Mn, .int (iZ Mst), .long Mtp, .long Mbt, .ref Ms, .ref My, .ref Mt, .ref Mp, .ref Mx, .int (iZ Mtd), .int (iZ Msz), .int (iZ Mtk), .int (iZ Mfr), .int (iZ Men), .int (iZ Mva), .int (iZ Mfk), .int (iZ Mfp), .int (iZ Mfs), .int (iZ Mse), .int (iZ Mlt), .ref Mo, .int (iZ Mdp), .int (iZ Mct), .ref Mk, .ref Ml, .ref Mb, .ref Mh, .ref Mc, .int (iZ Mdr), .int (iZ Mrs), .ref Mz, .ref Mr, .ref Mq, .int (iZ Mit), .int (iZ Mmk)]) hm My Yf x1 x2 rfl rgY ⟨by omega, by omega⟩ ⟨by omega, by omega⟩) ci_X12_wrongPlace qm_X12_96 ⟨Nat.le_of_ble_eq_true rfl, Nat.le_of_ble_eq_true rfl⟩ ⟨Nat.le_of_ble_eq_true rfl, Nat.le_of_ble_eq_true rfl⟩ 0 rfl rfl rfl hl.1 rfl (Nat.le_of_ble_eq_true rfl) dX12_write_3 (fun z_1 hz_1 => ?_)
  have hy9z_1 : (0 ≤ x1 ∧ x1 ≤ 3) → gz Yf x1 ≤ 60 := fun h9 => (rgY x1 (by omega) (by omega)).2
  rcases hz_1 with ⟨qz_1, hz_1⟩ | ⟨qz_1, hz_1⟩
  ·
    subst qz_1
    refine lv_istore (lv' := [(5, .int (iZ 0)), (0, .ref hm), (1, .int (iZ x1)), (2, .int (iZ x2)), (3, .long y)]) hx hb dX12_write_6 hl (by decide) rfl (fun ls hl => ?_)
    refine lv_iload hx hb dX12_write_8 (lv_at hl 0 rfl) ?_
    refine lv_if_ne (tgt := 34) hx hb dX12_write_10 (by decide) (fun c => absurd (by decide) c) (fun _ => ?_)
    refine lv_aload_n hx hb dX12_write_13 rfl (lv_at hl 1 rfl) ?_
    refine va_get (D := D) (ci := 12) (v := .ref Mt) (C := RX12) (T := TX12) (N := 36) hx hb hts iX12 hown hK hP 0 rfl rfl 7 (by decide) (hts _ qf_X12_27) (fun _ h => h) rfl dX12_write_14 ?_
    refine lv_bipush (v := iZ 60) hx hb dX12_write_17 (by decide) ?_
    refine lv_iload_n hx hb dX12_write_19 rfl (lv_at hl 2 rfl) ?_
    refine lv_imul hx hb dX12_write_20 ?_
    refine lv_topi (fun x_3 ex_3 => ?_)
    obtain rfl : x_3 = iZ (60 * x1) := ex_3.trans (iZ_mul 60 x1)
    refine lv_iload_n hx hb dX12_write_21 rfl (lv_at hl 3 rfl) ?_
    refine lv_iadd hx hb dX12_write_22 ?_
    refine lv_topi (fun x_4 ex_4 => ?_)
    obtain rfl : x_4 = iZ ((60 * x1) + x2) := ex_4.trans (iZ_add (60 * x1) x2)
    refine lv_lload_n hx hb dX12_write_23 rfl (lv_at hl 4 rfl) ?_
    refine lv_aload_n hx hb dX12_write_24 rfl (lv_at hl 1 rfl) ?_
    refine va_get (D := D) (ci := 12) (v := .ref Ms) (C := RX12) (T := TX12) (N := 36) hx hb hts iX12 hown hK hP 0 rfl rfl 5 (by decide) (hts _ qf_X12_21) (fun _ h => h) rfl dX12_write_25 ?_
    refine lv_iload_n hx hb dX12_write_28 rfl (lv_at hl 2 rfl) ?_
    refine va_iald hx hb hK hP 1 1 rfl rfl (zin (e := x1) (n := 4) ⟨by omega, by omega⟩ (by decide)) dX12_write_29 ?_
    refine lv_topi (fun x_5 ex_5 => ?_)
    obtain rfl : x_5 = iZ (gz Sf x1) := ex_5.trans (gz_eq ⟨by omega, by omega⟩)
    have h_6 := rgS x1 (by omega) (by omega)
    refine CWS (As := [.long y, .int (iZ (gz Sf x1))]) (rest := [.int (iZ ((60 * x1) + x2)), .ref Mt]) (wc := []) (wr := [(hm, .inr (12, [.ref Ma, .ref Mn, .int (iZ Mst), .long Mtp, .long Mbt, .ref Ms, .ref My, .ref Mt, .ref Mp, .ref Mx, .int (iZ Mtd), .int (iZ Msz), .int (iZ Mtk), .int (iZ Mfr), .int (iZ Men), .int (iZ Mva), .int (iZ Mfk), .int (iZ Mfp), .int (iZ Mfs), .int (iZ Mse), .int (iZ Mlt), .ref Mo, .int (iZ Mdp), .int (iZ Mct), .ref Mk, .ref Ml, .ref Mb, .ref Mh, .ref Mc, .int (iZ Mdr), .int (iZ Mrs), .ref Mz, .ref Mr, .ref Mq, .int (iZ Mit), .int (iZ Mmk)])), (Ms, .inl (k 1, 4, .inl Sf)), (My, .inl (k 1, 4, .inl Yf)), (Mt, .inl (k 2, 240, .inr (.inl Tf)))]) hx hb hml hown hts hKK hP hD hS hA (m_cut l D k y (gz Sf x1) ⟨by omega, by omega⟩) ci_X12_cut qm_X12_100 ⟨Nat.le_of_ble_eq_true rfl, Nat.le_of_ble_eq_true rfl⟩ ⟨Nat.le_of_ble_eq_true rfl, Nat.le_of_ble_eq_true rfl⟩ [] [0, 1, 2, 3] rfl rfl rfl rfl rfl (by decide) rfl hl.1 rfl (Nat.le_of_ble_eq_true rfl) dX12_write_30 (fun u_7 H locs hφ hP hD hS => ?_)
    obtain ⟨I_8, L_9, F_10, G_11⟩ := u_7
    refine W.eq (g2 := F0 m 33 ls [.long (L_9 0), .int (iZ ((60 * x1) + x2)), .ref Mt]) rfl ?_
    refine va_last hx hb hK hP hD hS 3 2 rfl rfl (zin (e := ((60 * x1) + x2)) (n := 240) ⟨by omega, by omega⟩ (by decide)) dX12_write_33 (fun H locs hP hD hS => ?_)
    obtain ⟨f_13, hf_13⟩ : ∃ gg9, gg9 = vp_updL Tf (iZ ((60 * x1) + x2)).toNatClampNeg (L_9 0) := ⟨_, rfl⟩
    rw [← hf_13] at hP hD
    refine lv_aload_n hx hb dX12_write_34 rfl (lv_at hl 1 rfl) ?_
    refine lv_iload hx hb dX12_write_35 (lv_at hl 0 rfl) ?_
    refine CWV (As := [.int (iZ 0)]) (rest := []) (wc := [(hm, .inr (12, [.ref Ma, .ref Mn, .int (iZ Mst), .long Mtp, .long Mbt, .ref Ms, .ref My, .ref Mt, .ref Mp, .ref Mx, .int (iZ Mtd), .int (iZ Msz), .int (iZ Mtk), .int (iZ Mfr), .int (iZ Men), .int (iZ Mva), .int (iZ Mfk), .int (iZ Mfp), .int (iZ Mfs), .int (iZ Mse), .int (iZ Mlt), .ref Mo, .int (iZ Mdp), .int (iZ Mct), .ref Mk, .ref Ml, .ref Mb, .ref Mh, .ref Mc, .int (iZ Mdr), .int (iZ Mrs), .ref Mz, .ref Mr, .ref Mq, .int (iZ Mit), .int (iZ Mmk)]))]) (wr := [(Ms, .inl (k 1, 4, .inl Sf)), (My, .inl (k 1, 4, .inl Yf)), (Mt, .inl (k 2, 240, .inr (.inl f_13)))]) hx hb hml hown hts hKK hP hD hS hA (m_is0 l D k hm Ma Mn Ms My Mt Mp Mx Mo Mk Ml Mb Mh Mc Mz Mr Mq Mst Mtd Msz Mtk Mfr Men Mva Mfk Mfp Mfs Mse Mlt Mdp Mct Mdr Mrs Mit Mmk Mtp Mbt) ci_X12_is qm_X12_89 ⟨Nat.le_of_ble_eq_true rfl, Nat.le_of_ble_eq_true rfl⟩ ⟨Nat.le_of_ble_eq_true rfl, Nat.le_of_ble_eq_true rfl⟩ [0] [1, 2, 3] rfl rfl rfl rfl rfl (by decide) 0 rfl rfl rfl hl.1 rfl (Nat.le_of_ble_eq_true rfl) dX12_write_37 (fun u_14 H locs hφ hP hD hS => ?_)
    obtain ⟨I_15, L_16, F_17, G_18⟩ := u_14
    refine W.eq (g2 := F0 m 40 ls [.int (iZ 1)]) rfl ?_
    exact EWz hx hb hr hlocks hS (fun i => [1, 0].getD i 0, fun i => [0].getD i 0, fun i => [].getD i (fun _ => 0), fun i => [f_13].getD i (fun _ => 0)) rfl rfl (show ((1 : Int) = 1 ∧ ((0 ≤ x1 ∧ x1 ≤ 3) ∧ 0 ≤ x2 ∧ x2 < gz Yf x1)) ∨ ((1 : Int) = 0 ∧ ¬ ((0 ≤ x1 ∧ x1 ≤ 3) ∧ 0 ≤ x2 ∧ x2 < gz Yf x1)) from (by omega)) (hP.sub [3, 0, 1, 2] rfl) (hD.sub [3, 0, 1, 2] rfl rfl) dX12_write_40
  ·
    refine lv_istore (lv' := [(5, .int (iZ z_1)), (0, .ref hm), (1, .int (iZ x1)), (2, .int (iZ x2)), (3, .long y)]) hx hb dX12_write_6 hl (by decide) rfl (fun ls hl => ?_)
    refine lv_iload hx hb dX12_write_8 (lv_at hl 0 rfl) ?_
    refine lv_if_ne (tgt := 34) hx hb dX12_write_10 (by decide) (fun c_20 => ?_) (fun c_20 => ?_)
    ·
      have c_20 := mt (zeq (x := iZ z_1) (y := iZ 0) rfl rfl ⟨by omega, by omega⟩ ⟨by omega, by omega⟩).mpr c_20
      refine lv_aload_n hx hb dX12_write_34 rfl (lv_at hl 1 rfl) ?_
      refine lv_iload hx hb dX12_write_35 (lv_at hl 0 rfl) ?_
      refine CWV (As := [.int (iZ z_1)]) (rest := []) (wc := [(hm, .inr (12, [.ref Ma, .ref Mn, .int (iZ Mst), .long Mtp, .long Mbt, .ref Ms, .ref My, .ref Mt, .ref Mp, .ref Mx, .int (iZ Mtd), .int (iZ Msz), .int (iZ Mtk), .int (iZ Mfr), .int (iZ Men), .int (iZ Mva), .int (iZ Mfk), .int (iZ Mfp), .int (iZ Mfs), .int (iZ Mse), .int (iZ Mlt), .ref Mo, .int (iZ Mdp), .int (iZ Mct), .ref Mk, .ref Ml, .ref Mb, .ref Mh, .ref Mc, .int (iZ Mdr), .int (iZ Mrs), .ref Mz, .ref Mr, .ref Mq, .int (iZ Mit), .int (iZ Mmk)]))]) (wr := [(Ms, .inl (k 1, 4, .inl Sf)), (My, .inl (k 1, 4, .inl Yf)), (Mt, .inl (k 2, 240, .inr (.inl Tf)))]) hx hb hml hown hts hKK hP hD hS hA (m_isN l D k hm Ma Mn Ms My Mt Mp Mx Mo Mk Ml Mb Mh Mc Mz Mr Mq Mst Mtd Msz Mtk Mfr Men Mva Mfk Mfp Mfs Mse Mlt Mdp Mct Mdr Mrs Mit Mmk Mtp Mbt z_1 ⟨by omega, by omega⟩ (by omega)) ci_X12_is qm_X12_89 ⟨Nat.le_of_ble_eq_true rfl, Nat.le_of_ble_eq_true rfl⟩ ⟨Nat.le_of_ble_eq_true rfl, Nat.le_of_ble_eq_true rfl⟩ [0] [1, 2, 3] rfl rfl rfl rfl rfl (by decide) 0 rfl rfl rfl hl.1 rfl (Nat.le_of_ble_eq_true rfl) dX12_write_37 (fun u_21 H locs hφ hP hD hS => ?_)
      obtain ⟨I_22, L_23, F_24, G_25⟩ := u_21
      refine W.eq (g2 := F0 m 40 ls [.int (iZ 0)]) rfl ?_
      exact EWz hx hb hr hlocks hS (fun i => [0, z_1].getD i 0, fun i => [0].getD i 0, fun i => [].getD i (fun _ => 0), fun i => [Tf].getD i (fun _ => 0)) rfl rfl (show ((0 : Int) = 1 ∧ ((0 ≤ x1 ∧ x1 ≤ 3) ∧ 0 ≤ x2 ∧ x2 < gz Yf x1)) ∨ ((0 : Int) = 0 ∧ ¬ ((0 ≤ x1 ∧ x1 ≤ 3) ∧ 0 ≤ x2 ∧ x2 < gz Yf x1)) from (by omega)) (hP.sub [3, 0, 1, 2] rfl) (hD.sub [3, 0, 1, 2] rfl rfl) dX12_write_40
    ·
      have c_20 := (zeq (x := iZ z_1) (y := iZ 0) rfl rfl ⟨by omega, by omega⟩ ⟨by omega, by omega⟩).mp c_20
      exact absurd c_20 (by omega)
set_option maxHeartbeats 4000000 in
set_option maxRecDepth 100000 in
theorem q_read (l : Launch) (D : va_G) (k : Nat → ClassId) (hm : Nat) (Ma : Nat) (Mn : Nat) (Ms : Nat) (My : Nat) (Mt : Nat) (Mp : Nat) (Mx : Nat) (Mo : Nat) (Mk : Nat) (Ml : Nat) (Mb : Nat) (Mh : Nat) (Mc : Nat) (Mz : Nat) (Mr : Nat) (Mq : Nat) (Mst : Int) (Mtd : Int) (Msz : Int) (Mtk : Int) (Mfr : Int) (Men : Int) (Mva : Int) (Mfk : Int) (Mfp : Int) (Mfs : Int) (Mse : Int) (Mlt : Int) (Mdp : Int) (Mct : Int) (Mdr : Int) (Mrs : Int) (Mit : Int) (Mmk : Int) (Mtp : Int64) (Mbt : Int64) (Sf : Nat → Int32) (Yf : Nat → Int32) (Tf : Nat → Int64) (x1 : Int) (x2 : Int) (rgS : rgI Sf 0 3 4) (rgY : rgI Yf (-1) 60 4) (h9x1 : -2147483648 ≤ x1 ∧ x1 < 2147483648) (h9x2 : -2147483648 ≤ x2 ∧ x2 < 2147483648) : WD (σ := ((Nat → Int) × (Nat → Int64) × (Nat → Nat → Int32) × (Nat → Nat → Int64))) l yX12_read cX12_read 3 (some .long) 2 0 0 D k [.ref hm, .int (iZ x1), .int (iZ x2)] [(hm, .inr (12, [.ref Ma, .ref Mn, .int (iZ Mst), .long Mtp, .long Mbt, .ref Ms, .ref My, .ref Mt, .ref Mp, .ref Mx, .int (iZ Mtd), .int (iZ Msz), .int (iZ Mtk), .int (iZ Mfr), .int (iZ Men), .int (iZ Mva), .int (iZ Mfk), .int (iZ Mfp), .int (iZ Mfs), .int (iZ Mse), .int (iZ Mlt), .ref Mo, .int (iZ Mdp), .int (iZ Mct), .ref Mk, .ref Ml, .ref Mb, .ref Mh, .ref Mc, .int (iZ Mdr), .int (iZ Mrs), .ref Mz, .ref Mr, .ref Mq, .int (iZ Mit), .int (iZ Mmk)])), (Ms, .inl (k 1, 4, .inl Sf)), (My, .inl (k 1, 4, .inl Yf)), (Mt, .inl (k 2, 240, .inr (.inl Tf)))] (fun u => some (.long (u.2.1 0))) (fun _ => True) (fun u => [(hm, .inr (12, [.ref Ma, .ref Mn, .int (iZ (u.1 1)), .long Mtp, .long Mbt, .ref Ms, .ref My, .ref Mt, .ref Mp, .ref Mx, .int (iZ Mtd), .int (iZ Msz), .int (iZ Mtk), .int (iZ Mfr), .int (iZ Men), .int (iZ Mva), .int (iZ Mfk), .int (iZ Mfp), .int (iZ Mfs), .int (iZ Mse), .int (iZ Mlt), .ref Mo, .int (iZ Mdp), .int (iZ Mct), .ref Mk, .ref Ml, .ref Mb, .ref Mh, .ref Mc, .int (iZ Mdr), .int (iZ Mrs), .ref Mz, .ref Mr, .ref Mq, .int (iZ Mit), .int (iZ Mmk)])), (Ms, .inl (k 1, 4, .inl Sf)), (My, .inl (k 1, 4, .inl Yf)), (Mt, .inl (k 2, 240, .inr (.inl Tf)))]) := by
  refine MW (by decide) (Nat.le_of_ble_eq_true rfl) (fun p e s m below meth c ls A hx hb hml hr hlocks hin hts hown hKK hP hD hS hA hl => ?_)
  have hK := hKK.1
  have hl : lv_has ls 3 [(0, .ref hm), (1, .int (iZ x1)), (2, .int (iZ x2))] := hl
  refine lv_aload_n hx hb dX12_read_0 rfl (lv_at hl 0 rfl) ?_
  refine lv_aload_n hx hb dX12_read_1 rfl (lv_at hl 0 rfl) ?_
  refine lv_iload_n hx hb dX12_read_2 rfl (lv_at hl 1 rfl) ?_
  refine lv_iload_n hx hb dX12_read_3 rfl (lv_at hl 2 rfl) ?_
  refine CPV (As := [.int (iZ x1), .int (iZ x2)]) (rest := [.ref hm]) hx hb hml hown hts hKK (hP.sub (ws' := [(hm, .inr (12, [.ref Ma, .ref Mn, .int (iZ Mst), .long Mtp, .long Mbt, .ref Ms, .ref My, .ref Mt, .ref Mp, .ref Mx, .int (iZ Mtd), .int (iZ Msz), .int (iZ Mtk), .int (iZ Mfr), .int (iZ Men), .int (iZ Mva), .int (iZ Mfk), .int (iZ Mfp), .int (iZ Mfs), .int (iZ Mse), .int (iZ Mlt), .ref Mo, .int (iZ Mdp), .int (iZ Mct), .ref Mk, .ref Ml, .ref Mb, .ref Mh, .ref Mc, .int (iZ Mdr), .int (iZ Mrs), .ref Mz, .ref Mr, .ref Mq, .int (iZ Mit), .int (iZ Mmk)])), (My, .inl (k 1, 4, .inl Yf))]) [0, 2] rfl) (m_wrongPlace l D k ([.ref Ma, .ref Mn, .int (iZ Mst), .long Mtp, .long Mbt, .ref Ms, .ref My, .ref Mt, .ref Mp, .ref Mx, .int (iZ Mtd), .int (iZ Msz), .int (iZ Mtk), .int (iZ Mfr), .int (iZ Men), .int (iZ Mva), .int (iZ Mfk), .int (iZ Mfp), .int (iZ Mfs), .int (iZ Mse), .int (iZ Mlt), .ref Mo, .int (iZ Mdp), .int (iZ Mct), .ref Mk, .ref Ml, .ref Mb, .ref Mh, .ref Mc, .int (iZ Mdr), .int (iZ Mrs), .ref Mz, .ref Mr, .ref Mq, .int (iZ Mit), .int (iZ Mmk)]) hm My Yf x1 x2 rfl rgY ⟨by omega, by omega⟩ ⟨by omega, by omega⟩) ci_X12_wrongPlace qm_X12_96 ⟨Nat.le_of_ble_eq_true rfl, Nat.le_of_ble_eq_true rfl⟩ ⟨Nat.le_of_ble_eq_true rfl, Nat.le_of_ble_eq_true rfl⟩ 0 rfl rfl rfl hl.1 rfl (Nat.le_of_ble_eq_true rfl) dX12_read_4 (fun z_1 hz_1 => ?_)
  have hy9z_1 : (0 ≤ x1 ∧ x1 ≤ 3) → gz Yf x1 ≤ 60 := fun h9 => (rgY x1 (by omega) (by omega)).2
  rcases hz_1 with ⟨qz_1, hz_1⟩ | ⟨qz_1, hz_1⟩
  ·
    subst qz_1
    refine va_put (D := D) (ci := 12) (v := .int (iZ 0)) (ty := .int) (C := RX12) (T := TX12) (N := 36) hx hb hts iX12 tyX12 tyX12_ok nmX12 hown hK hP hD hS 0 rfl rfl 2 (by decide) (hts _ qf_X12_75) (fun _ h => h) rfl (by decide +kernel) rfl rfl (Nat.le_of_ble_eq_true rfl) dX12_read_7 (fun H locs hP hD hS => ?_)
    refine lv_aload_n hx hb dX12_read_10 rfl (lv_at hl 0 rfl) ?_
    refine va_get (D := D) (ci := 12) (v := .int (iZ 0)) (C := RX12) (T := TX12) (N := 36) hx hb hts iX12 hown hK hP 0 rfl rfl 2 (by decide) (hts _ qf_X12_75) (fun _ h => h) rfl dX12_read_11 ?_
    refine lv_if_le (tgt := 23) hx hb dX12_read_14 (by decide) (fun _ => ?_) (fun c => absurd (by decide) c)
    refine lv_aload_n hx hb dX12_read_23 rfl (lv_at hl 0 rfl) ?_
    refine va_get (D := D) (ci := 12) (v := .ref Mt) (C := RX12) (T := TX12) (N := 36) hx hb hts iX12 hown hK hP 0 rfl rfl 7 (by decide) (hts _ qf_X12_27) (fun _ h => h) rfl dX12_read_24 ?_
    refine lv_bipush (v := iZ 60) hx hb dX12_read_27 (by decide) ?_
    refine lv_iload_n hx hb dX12_read_29 rfl (lv_at hl 1 rfl) ?_
    refine lv_imul hx hb dX12_read_30 ?_
    refine lv_topi (fun x_3 ex_3 => ?_)
    obtain rfl : x_3 = iZ (60 * x1) := ex_3.trans (iZ_mul 60 x1)
    refine lv_iload_n hx hb dX12_read_31 rfl (lv_at hl 2 rfl) ?_
    refine lv_iadd hx hb dX12_read_32 ?_
    refine lv_topi (fun x_4 ex_4 => ?_)
    obtain rfl : x_4 = iZ ((60 * x1) + x2) := ex_4.trans (iZ_add (60 * x1) x2)
    refine va_lald hx hb hK hP 3 2 rfl rfl (zin (e := ((60 * x1) + x2)) (n := 240) ⟨by omega, by omega⟩ (by decide)) dX12_read_33 ?_
    refine lv_topl (fun y_5 ey_5 => ?_)
    exact EWl hx hb hr hlocks hS (fun i => [0, 0].getD i 0, fun i => [y_5].getD i 0, fun i => [].getD i (fun _ => 0), fun i => [].getD i (fun _ => 0)) rfl trivial (hP.sub [0, 1, 2, 3] rfl) (hD.sub [0, 1, 2, 3] rfl rfl) dX12_read_34
  ·
    refine va_put (D := D) (ci := 12) (v := .int (iZ z_1)) (ty := .int) (C := RX12) (T := TX12) (N := 36) hx hb hts iX12 tyX12 tyX12_ok nmX12 hown hK hP hD hS 0 rfl rfl 2 (by decide) (hts _ qf_X12_75) (fun _ h => h) rfl (by decide +kernel) rfl rfl (Nat.le_of_ble_eq_true rfl) dX12_read_7 (fun H locs hP hD hS => ?_)
    refine lv_aload_n hx hb dX12_read_10 rfl (lv_at hl 0 rfl) ?_
    refine va_get (D := D) (ci := 12) (v := .int (iZ z_1)) (C := RX12) (T := TX12) (N := 36) hx hb hts iX12 hown hK hP 0 rfl rfl 2 (by decide) (hts _ qf_X12_75) (fun _ h => h) rfl dX12_read_11 ?_
    refine lv_if_le (tgt := 23) hx hb dX12_read_14 (by decide) (fun c_6 => ?_) (fun c_6 => ?_)
    ·
      have c_6 := (zle (x := iZ z_1) (y := iZ 0) rfl rfl ⟨by omega, by omega⟩ ⟨by omega, by omega⟩).mp c_6
      refine lv_aload_n hx hb dX12_read_23 rfl (lv_at hl 0 rfl) ?_
      refine va_get (D := D) (ci := 12) (v := .ref Mt) (C := RX12) (T := TX12) (N := 36) hx hb hts iX12 hown hK hP 0 rfl rfl 7 (by decide) (hts _ qf_X12_27) (fun _ h => h) rfl dX12_read_24 ?_
      refine lv_bipush (v := iZ 60) hx hb dX12_read_27 (by decide) ?_
      refine lv_iload_n hx hb dX12_read_29 rfl (lv_at hl 1 rfl) ?_
      refine lv_imul hx hb dX12_read_30 ?_
      refine lv_topi (fun x_7 ex_7 => ?_)
      obtain rfl : x_7 = iZ (60 * x1) := ex_7.trans (iZ_mul 60 x1)
      refine lv_iload_n hx hb dX12_read_31 rfl (lv_at hl 2 rfl) ?_
      refine lv_iadd hx hb dX12_read_32 ?_
      refine lv_topi (fun x_8 ex_8 => ?_)
      obtain rfl : x_8 = iZ ((60 * x1) + x2) := ex_8.trans (iZ_add (60 * x1) x2)
      refine va_lald hx hb hK hP 3 2 rfl rfl (zin (e := ((60 * x1) + x2)) (n := 240) ⟨by omega, by omega⟩ (by decide)) dX12_read_33 ?_
      refine lv_topl (fun y_9 ey_9 => ?_)
      exact EWl hx hb hr hlocks hS (fun i => [0, z_1].getD i 0, fun i => [y_9].getD i 0, fun i => [].getD i (fun _ => 0), fun i => [].getD i (fun _ => 0)) rfl trivial (hP.sub [0, 1, 2, 3] rfl) (hD.sub [0, 1, 2, 3] rfl rfl) dX12_read_34
    ·
      have c_6 := mt (zle (x := iZ z_1) (y := iZ 0) rfl rfl ⟨by omega, by omega⟩ ⟨by omega, by omega⟩).mpr c_6
      refine lv_ldc2 (own := RX12) (v := (-1)) hx hb hown (hts _ qk_X12_104) dX12_read_17 ?_
      refine lv_goto (tgt := 34) hx hb dX12_read_20 (by decide) ?_
      exact EWl hx hb hr hlocks hS (fun i => [0, z_1].getD i 0, fun i => [(-1)].getD i 0, fun i => [].getD i (fun _ => 0), fun i => [].getD i (fun _ => 0)) rfl trivial (hP.sub [0, 1, 2, 3] rfl) (hD.sub [0, 1, 2, 3] rfl rfl) dX12_read_34
set_option maxHeartbeats 4000000 in
set_option maxRecDepth 100000 in
theorem q_pour (l : Launch) (D : va_G) (k : Nat → ClassId) (hm : Nat) (Ma : Nat) (Mn : Nat) (Ms : Nat) (My : Nat) (Mt : Nat) (Mp : Nat) (Mx : Nat) (Mo : Nat) (Mk : Nat) (Ml : Nat) (Mb : Nat) (Mh : Nat) (Mc : Nat) (Mz : Nat) (Mr : Nat) (Mq : Nat) (Mst : Int) (Mtd : Int) (Msz : Int) (Mtk : Int) (Mfr : Int) (Men : Int) (Mva : Int) (Mfk : Int) (Mfp : Int) (Mfs : Int) (Mse : Int) (Mlt : Int) (Mdp : Int) (Mct : Int) (Mdr : Int) (Mrs : Int) (Mit : Int) (Mmk : Int) (Mtp : Int64) (Mbt : Int64) (Sf : Nat → Int32) (Yf : Nat → Int32) (Tf : Nat → Int64) (x1 : Int) (x2 : Int) (x3 : Int) (x4 : Int) (x5 : Int) (rgS : rgI Sf 0 3 4) (rgY : rgI Yf (-1) 60 4) (h9x1 : -2147483648 ≤ x1 ∧ x1 < 2147483648) (h9x2 : -2147483648 ≤ x2 ∧ x2 < 2147483648) (h9x3 : -2147483648 ≤ x3 ∧ x3 < 2147483648) (h9x4 : -2147483648 ≤ x4 ∧ x4 < 2147483648) (h9x5 : -2147483648 ≤ x5 ∧ x5 < 2147483648) : WD (σ := ((Nat → Int) × (Nat → Int64) × (Nat → Nat → Int32) × (Nat → Nat → Int64))) l yX12_pour cX12_pour 8 (some .boolean) 1 0 0 D k [.ref hm, .int (iZ x1), .int (iZ x2), .int (iZ x3), .int (iZ x4), .int (iZ x5)] [(hm, .inr (12, [.ref Ma, .ref Mn, .int (iZ Mst), .long Mtp, .long Mbt, .ref Ms, .ref My, .ref Mt, .ref Mp, .ref Mx, .int (iZ Mtd), .int (iZ Msz), .int (iZ Mtk), .int (iZ Mfr), .int (iZ Men), .int (iZ Mva), .int (iZ Mfk), .int (iZ Mfp), .int (iZ Mfs), .int (iZ Mse), .int (iZ Mlt), .ref Mo, .int (iZ Mdp), .int (iZ Mct), .ref Mk, .ref Ml, .ref Mb, .ref Mh, .ref Mc, .int (iZ Mdr), .int (iZ Mrs), .ref Mz, .ref Mr, .ref Mq, .int (iZ Mit), .int (iZ Mmk)])), (Ms, .inl (k 1, 4, .inl Sf)), (My, .inl (k 1, 4, .inl Yf)), (Mt, .inl (k 2, 240, .inr (.inl Tf)))] (fun u => some (.int (iZ (u.1 0)))) (fun u => (((u.1 0) : Int) = 1 ∧ (((0 ≤ x1 ∧ x1 ≤ 3) ∧ (0 ≤ x3 ∧ x3 ≤ 3) ∧ (0 ≤ x2 ∧ 0 ≤ x4 ∧ 0 ≤ x5)) ∧ (¬ gz Yf x1 = -1 ∧ ¬ gz Yf x3 = -1) ∧ gz Sf x1 = gz Sf x3 ∧ (x5 ≤ gz Yf x1 - x2 ∧ x5 ≤ gz Yf x3 - x4))) ∨ (((u.1 0) : Int) = 0 ∧ ¬ (((0 ≤ x1 ∧ x1 ≤ 3) ∧ (0 ≤ x3 ∧ x3 ≤ 3) ∧ (0 ≤ x2 ∧ 0 ≤ x4 ∧ 0 ≤ x5)) ∧ (¬ gz Yf x1 = -1 ∧ ¬ gz Yf x3 = -1) ∧ gz Sf x1 = gz Sf x3 ∧ (x5 ≤ gz Yf x1 - x2 ∧ x5 ≤ gz Yf x3 - x4)))) (fun u => [(hm, .inr (12, [.ref Ma, .ref Mn, .int (iZ (u.1 1)), .long Mtp, .long Mbt, .ref Ms, .ref My, .ref Mt, .ref Mp, .ref Mx, .int (iZ Mtd), .int (iZ Msz), .int (iZ Mtk), .int (iZ Mfr), .int (iZ Men), .int (iZ Mva), .int (iZ Mfk), .int (iZ Mfp), .int (iZ Mfs), .int (iZ Mse), .int (iZ Mlt), .ref Mo, .int (iZ Mdp), .int (iZ Mct), .ref Mk, .ref Ml, .ref Mb, .ref Mh, .ref Mc, .int (iZ Mdr), .int (iZ Mrs), .ref Mz, .ref Mr, .ref Mq, .int (iZ Mit), .int (iZ Mmk)])), (Ms, .inl (k 1, 4, .inl Sf)), (My, .inl (k 1, 4, .inl Yf)), (Mt, .inl (k 2, 240, .inr (.inl (u.2.2.2 0))))]) := by
  refine MW (by decide) (Nat.le_of_ble_eq_true rfl) (fun p e s m below meth c ls A hx hb hml hr hlocks hin hts hown hKK hP hD hS hA hl => ?_)
  have hK := hKK.1
  have hl : lv_has ls 8 [(0, .ref hm), (1, .int (iZ x1)), (2, .int (iZ x2)), (3, .int (iZ x3)), (4, .int (iZ x4)), (5, .int (iZ x5))] := hl
  refine lv_iload_n hx hb dX12_pour_0 rfl (lv_at hl 1 rfl) ?_
  refine CPS (As := [.int (iZ x1)]) (rest := []) hx hb hml hown hts hKK (hP.sub (ws' := []) [] rfl) (m_isTray l D k x1 ⟨by omega, by omega⟩) ci_X12_isTray qm_X12_93 ⟨Nat.le_of_ble_eq_true rfl, Nat.le_of_ble_eq_true rfl⟩ ⟨Nat.le_of_ble_eq_true rfl, Nat.le_of_ble_eq_true rfl⟩ rfl hl.1 rfl (Nat.le_of_ble_eq_true rfl) dX12_pour_1 (fun z_1 hz_1 => ?_)
  rcases hz_1 with ⟨qz_1, hz_1⟩ | ⟨qz_1, hz_1⟩
  ·
    subst qz_1
    refine lv_if_eq (tgt := 28) hx hb dX12_pour_4 (by decide) (fun c => absurd c (by decide)) (fun _ => ?_)
    refine lv_iload_n hx hb dX12_pour_7 rfl (lv_at hl 3 rfl) ?_
    refine CPS (As := [.int (iZ x3)]) (rest := []) hx hb hml hown hts hKK (hP.sub (ws' := []) [] rfl) (m_isTray l D k x3 ⟨by omega, by omega⟩) ci_X12_isTray qm_X12_93 ⟨Nat.le_of_ble_eq_true rfl, Nat.le_of_ble_eq_true rfl⟩ ⟨Nat.le_of_ble_eq_true rfl, Nat.le_of_ble_eq_true rfl⟩ rfl hl.1 rfl (Nat.le_of_ble_eq_true rfl) dX12_pour_8 (fun z_3 hz_3 => ?_)
    rcases hz_3 with ⟨qz_3, hz_3⟩ | ⟨qz_3, hz_3⟩
    ·
      subst qz_3
      refine lv_if_eq (tgt := 28) hx hb dX12_pour_11 (by decide) (fun c => absurd c (by decide)) (fun _ => ?_)
      refine lv_iload_n hx hb dX12_pour_14 rfl (lv_at hl 2 rfl) ?_
      refine lv_if_lt (tgt := 28) hx hb dX12_pour_15 (by decide) (fun c_5 => ?_) (fun c_5 => ?_)
      ·
        have c_5 := (zlt (x := iZ x2) (y := iZ 0) rfl rfl ⟨by omega, by omega⟩ ⟨by omega, by omega⟩).mp c_5
        refine lv_aload_n hx hb dX12_pour_28 rfl (lv_at hl 0 rfl) ?_
        refine lv_iconst (v := iZ 1) hx hb dX12_pour_29 (by decide) ?_
        refine CWV (As := [.int (iZ 1)]) (rest := []) (wc := [(hm, .inr (12, [.ref Ma, .ref Mn, .int (iZ Mst), .long Mtp, .long Mbt, .ref Ms, .ref My, .ref Mt, .ref Mp, .ref Mx, .int (iZ Mtd), .int (iZ Msz), .int (iZ Mtk), .int (iZ Mfr), .int (iZ Men), .int (iZ Mva), .int (iZ Mfk), .int (iZ Mfp), .int (iZ Mfs), .int (iZ Mse), .int (iZ Mlt), .ref Mo, .int (iZ Mdp), .int (iZ Mct), .ref Mk, .ref Ml, .ref Mb, .ref Mh, .ref Mc, .int (iZ Mdr), .int (iZ Mrs), .ref Mz, .ref Mr, .ref Mq, .int (iZ Mit), .int (iZ Mmk)]))]) (wr := [(Ms, .inl (k 1, 4, .inl Sf)), (My, .inl (k 1, 4, .inl Yf)), (Mt, .inl (k 2, 240, .inr (.inl Tf)))]) hx hb hml hown hts hKK hP hD hS hA (m_isN l D k hm Ma Mn Ms My Mt Mp Mx Mo Mk Ml Mb Mh Mc Mz Mr Mq Mst Mtd Msz Mtk Mfr Men Mva Mfk Mfp Mfs Mse Mlt Mdp Mct Mdr Mrs Mit Mmk Mtp Mbt 1 ⟨by omega, by omega⟩ (by omega)) ci_X12_is qm_X12_89 ⟨Nat.le_of_ble_eq_true rfl, Nat.le_of_ble_eq_true rfl⟩ ⟨Nat.le_of_ble_eq_true rfl, Nat.le_of_ble_eq_true rfl⟩ [0] [1, 2, 3] rfl rfl rfl rfl rfl (by decide) 0 rfl rfl rfl hl.1 rfl (Nat.le_of_ble_eq_true rfl) dX12_pour_30 (fun u_6 H locs hφ hP hD hS => ?_)
        obtain ⟨I_7, L_8, F_9, G_10⟩ := u_6
        refine W.eq (g2 := F0 m 33 ls [.int (iZ 0)]) rfl ?_
        exact EWz hx hb hr hlocks hS (fun i => [0, 1].getD i 0, fun i => [0].getD i 0, fun i => [].getD i (fun _ => 0), fun i => [Tf].getD i (fun _ => 0)) rfl rfl (show ((0 : Int) = 1 ∧ (((0 ≤ x1 ∧ x1 ≤ 3) ∧ (0 ≤ x3 ∧ x3 ≤ 3) ∧ (0 ≤ x2 ∧ 0 ≤ x4 ∧ 0 ≤ x5)) ∧ (¬ gz Yf x1 = -1 ∧ ¬ gz Yf x3 = -1) ∧ gz Sf x1 = gz Sf x3 ∧ (x5 ≤ gz Yf x1 - x2 ∧ x5 ≤ gz Yf x3 - x4))) ∨ ((0 : Int) = 0 ∧ ¬ (((0 ≤ x1 ∧ x1 ≤ 3) ∧ (0 ≤ x3 ∧ x3 ≤ 3) ∧ (0 ≤ x2 ∧ 0 ≤ x4 ∧ 0 ≤ x5)) ∧ (¬ gz Yf x1 = -1 ∧ ¬ gz Yf x3 = -1) ∧ gz Sf x1 = gz Sf x3 ∧ (x5 ≤ gz Yf x1 - x2 ∧ x5 ≤ gz Yf x3 - x4))) from (by omega)) (hP.sub [3, 0, 1, 2] rfl) (hD.sub [3, 0, 1, 2] rfl rfl) dX12_pour_33
      ·
        have c_5 := mt (zlt (x := iZ x2) (y := iZ 0) rfl rfl ⟨by omega, by omega⟩ ⟨by omega, by omega⟩).mpr c_5
        refine lv_iload hx hb dX12_pour_18 (lv_at hl 4 rfl) ?_
        refine lv_if_lt (tgt := 28) hx hb dX12_pour_20 (by decide) (fun c_12 => ?_) (fun c_12 => ?_)
        ·
          have c_12 := (zlt (x := iZ x4) (y := iZ 0) rfl rfl ⟨by omega, by omega⟩ ⟨by omega, by omega⟩).mp c_12
          refine lv_aload_n hx hb dX12_pour_28 rfl (lv_at hl 0 rfl) ?_
          refine lv_iconst (v := iZ 1) hx hb dX12_pour_29 (by decide) ?_
          refine CWV (As := [.int (iZ 1)]) (rest := []) (wc := [(hm, .inr (12, [.ref Ma, .ref Mn, .int (iZ Mst), .long Mtp, .long Mbt, .ref Ms, .ref My, .ref Mt, .ref Mp, .ref Mx, .int (iZ Mtd), .int (iZ Msz), .int (iZ Mtk), .int (iZ Mfr), .int (iZ Men), .int (iZ Mva), .int (iZ Mfk), .int (iZ Mfp), .int (iZ Mfs), .int (iZ Mse), .int (iZ Mlt), .ref Mo, .int (iZ Mdp), .int (iZ Mct), .ref Mk, .ref Ml, .ref Mb, .ref Mh, .ref Mc, .int (iZ Mdr), .int (iZ Mrs), .ref Mz, .ref Mr, .ref Mq, .int (iZ Mit), .int (iZ Mmk)]))]) (wr := [(Ms, .inl (k 1, 4, .inl Sf)), (My, .inl (k 1, 4, .inl Yf)), (Mt, .inl (k 2, 240, .inr (.inl Tf)))]) hx hb hml hown hts hKK hP hD hS hA (m_isN l D k hm Ma Mn Ms My Mt Mp Mx Mo Mk Ml Mb Mh Mc Mz Mr Mq Mst Mtd Msz Mtk Mfr Men Mva Mfk Mfp Mfs Mse Mlt Mdp Mct Mdr Mrs Mit Mmk Mtp Mbt 1 ⟨by omega, by omega⟩ (by omega)) ci_X12_is qm_X12_89 ⟨Nat.le_of_ble_eq_true rfl, Nat.le_of_ble_eq_true rfl⟩ ⟨Nat.le_of_ble_eq_true rfl, Nat.le_of_ble_eq_true rfl⟩ [0] [1, 2, 3] rfl rfl rfl rfl rfl (by decide) 0 rfl rfl rfl hl.1 rfl (Nat.le_of_ble_eq_true rfl) dX12_pour_30 (fun u_13 H locs hφ hP hD hS => ?_)
          obtain ⟨I_14, L_15, F_16, G_17⟩ := u_13
          refine W.eq (g2 := F0 m 33 ls [.int (iZ 0)]) rfl ?_
          exact EWz hx hb hr hlocks hS (fun i => [0, 1].getD i 0, fun i => [0].getD i 0, fun i => [].getD i (fun _ => 0), fun i => [Tf].getD i (fun _ => 0)) rfl rfl (show ((0 : Int) = 1 ∧ (((0 ≤ x1 ∧ x1 ≤ 3) ∧ (0 ≤ x3 ∧ x3 ≤ 3) ∧ (0 ≤ x2 ∧ 0 ≤ x4 ∧ 0 ≤ x5)) ∧ (¬ gz Yf x1 = -1 ∧ ¬ gz Yf x3 = -1) ∧ gz Sf x1 = gz Sf x3 ∧ (x5 ≤ gz Yf x1 - x2 ∧ x5 ≤ gz Yf x3 - x4))) ∨ ((0 : Int) = 0 ∧ ¬ (((0 ≤ x1 ∧ x1 ≤ 3) ∧ (0 ≤ x3 ∧ x3 ≤ 3) ∧ (0 ≤ x2 ∧ 0 ≤ x4 ∧ 0 ≤ x5)) ∧ (¬ gz Yf x1 = -1 ∧ ¬ gz Yf x3 = -1) ∧ gz Sf x1 = gz Sf x3 ∧ (x5 ≤ gz Yf x1 - x2 ∧ x5 ≤ gz Yf x3 - x4))) from (by omega)) (hP.sub [3, 0, 1, 2] rfl) (hD.sub [3, 0, 1, 2] rfl rfl) dX12_pour_33
        ·
          have c_12 := mt (zlt (x := iZ x4) (y := iZ 0) rfl rfl ⟨by omega, by omega⟩ ⟨by omega, by omega⟩).mpr c_12
          refine lv_iload hx hb dX12_pour_23 (lv_at hl 5 rfl) ?_
          refine lv_if_ge (tgt := 34) hx hb dX12_pour_25 (by decide) (fun c_19 => ?_) (fun c_19 => ?_)
          ·
            have c_19 := (zle (x := iZ 0) (y := iZ x5) rfl rfl ⟨by omega, by omega⟩ ⟨by omega, by omega⟩).mp c_19
            refine lv_aload_n hx hb dX12_pour_34 rfl (lv_at hl 0 rfl) ?_
            refine va_get (D := D) (ci := 12) (v := .ref My) (C := RX12) (T := TX12) (N := 36) hx hb hts iX12 hown hK hP 0 rfl rfl 6 (by decide) (hts _ qf_X12_24) (fun _ h => h) rfl dX12_pour_35 ?_
            refine lv_iload_n hx hb dX12_pour_38 rfl (lv_at hl 1 rfl) ?_
            refine va_iald hx hb hK hP 2 1 rfl rfl (zin (e := x1) (n := 4) ⟨by omega, by omega⟩ (by decide)) dX12_pour_39 ?_
            refine lv_topi (fun x_20 ex_20 => ?_)
            obtain rfl : x_20 = iZ (gz Yf x1) := ex_20.trans (gz_eq ⟨by omega, by omega⟩)
            have h_21 := rgY x1 (by omega) (by omega)
            refine lv_iconst (v := iZ (-1)) hx hb dX12_pour_40 (by decide) ?_
            refine lv_icmp_eq (tgt := 54) hx hb dX12_pour_41 (by decide) (fun c_22 => ?_) (fun c_22 => ?_)
            ·
              have c_22 := (zeq (x := iZ (gz Yf x1)) (y := iZ (-1)) rfl rfl ⟨by omega, by omega⟩ ⟨by omega, by omega⟩).mp c_22
              refine lv_aload_n hx hb dX12_pour_54 rfl (lv_at hl 0 rfl) ?_
              refine lv_iconst (v := iZ 2) hx hb dX12_pour_55 (by decide) ?_
              refine CWV (As := [.int (iZ 2)]) (rest := []) (wc := [(hm, .inr (12, [.ref Ma, .ref Mn, .int (iZ Mst), .long Mtp, .long Mbt, .ref Ms, .ref My, .ref Mt, .ref Mp, .ref Mx, .int (iZ Mtd), .int (iZ Msz), .int (iZ Mtk), .int (iZ Mfr), .int (iZ Men), .int (iZ Mva), .int (iZ Mfk), .int (iZ Mfp), .int (iZ Mfs), .int (iZ Mse), .int (iZ Mlt), .ref Mo, .int (iZ Mdp), .int (iZ Mct), .ref Mk, .ref Ml, .ref Mb, .ref Mh, .ref Mc, .int (iZ Mdr), .int (iZ Mrs), .ref Mz, .ref Mr, .ref Mq, .int (iZ Mit), .int (iZ Mmk)]))]) (wr := [(Ms, .inl (k 1, 4, .inl Sf)), (My, .inl (k 1, 4, .inl Yf)), (Mt, .inl (k 2, 240, .inr (.inl Tf)))]) hx hb hml hown hts hKK hP hD hS hA (m_isN l D k hm Ma Mn Ms My Mt Mp Mx Mo Mk Ml Mb Mh Mc Mz Mr Mq Mst Mtd Msz Mtk Mfr Men Mva Mfk Mfp Mfs Mse Mlt Mdp Mct Mdr Mrs Mit Mmk Mtp Mbt 2 ⟨by omega, by omega⟩ (by omega)) ci_X12_is qm_X12_89 ⟨Nat.le_of_ble_eq_true rfl, Nat.le_of_ble_eq_true rfl⟩ ⟨Nat.le_of_ble_eq_true rfl, Nat.le_of_ble_eq_true rfl⟩ [0] [1, 2, 3] rfl rfl rfl rfl rfl (by decide) 0 rfl rfl rfl hl.1 rfl (Nat.le_of_ble_eq_true rfl) dX12_pour_56 (fun u_23 H locs hφ hP hD hS => ?_)
              obtain ⟨I_24, L_25, F_26, G_27⟩ := u_23
              refine W.eq (g2 := F0 m 59 ls [.int (iZ 0)]) rfl ?_
              exact EWz hx hb hr hlocks hS (fun i => [0, 2].getD i 0, fun i => [0].getD i 0, fun i => [].getD i (fun _ => 0), fun i => [Tf].getD i (fun _ => 0)) rfl rfl (show ((0 : Int) = 1 ∧ (((0 ≤ x1 ∧ x1 ≤ 3) ∧ (0 ≤ x3 ∧ x3 ≤ 3) ∧ (0 ≤ x2 ∧ 0 ≤ x4 ∧ 0 ≤ x5)) ∧ (¬ gz Yf x1 = -1 ∧ ¬ gz Yf x3 = -1) ∧ gz Sf x1 = gz Sf x3 ∧ (x5 ≤ gz Yf x1 - x2 ∧ x5 ≤ gz Yf x3 - x4))) ∨ ((0 : Int) = 0 ∧ ¬ (((0 ≤ x1 ∧ x1 ≤ 3) ∧ (0 ≤ x3 ∧ x3 ≤ 3) ∧ (0 ≤ x2 ∧ 0 ≤ x4 ∧ 0 ≤ x5)) ∧ (¬ gz Yf x1 = -1 ∧ ¬ gz Yf x3 = -1) ∧ gz Sf x1 = gz Sf x3 ∧ (x5 ≤ gz Yf x1 - x2 ∧ x5 ≤ gz Yf x3 - x4))) from (by omega)) (hP.sub [3, 0, 1, 2] rfl) (hD.sub [3, 0, 1, 2] rfl rfl) dX12_pour_59
            ·
              have c_22 := mt (zeq (x := iZ (gz Yf x1)) (y := iZ (-1)) rfl rfl ⟨by omega, by omega⟩ ⟨by omega, by omega⟩).mpr c_22
              refine lv_aload_n hx hb dX12_pour_44 rfl (lv_at hl 0 rfl) ?_
              refine va_get (D := D) (ci := 12) (v := .ref My) (C := RX12) (T := TX12) (N := 36) hx hb hts iX12 hown hK hP 0 rfl rfl 6 (by decide) (hts _ qf_X12_24) (fun _ h => h) rfl dX12_pour_45 ?_
              refine lv_iload_n hx hb dX12_pour_48 rfl (lv_at hl 3 rfl) ?_
              refine va_iald hx hb hK hP 2 1 rfl rfl (zin (e := x3) (n := 4) ⟨by omega, by omega⟩ (by decide)) dX12_pour_49 ?_
              refine lv_topi (fun x_29 ex_29 => ?_)
              obtain rfl : x_29 = iZ (gz Yf x3) := ex_29.trans (gz_eq ⟨by omega, by omega⟩)
              have h_30 := rgY x3 (by omega) (by omega)
              refine lv_iconst (v := iZ (-1)) hx hb dX12_pour_50 (by decide) ?_
              refine lv_icmp_ne (tgt := 60) hx hb dX12_pour_51 (by decide) (fun c_31 => ?_) (fun c_31 => ?_)
              ·
                have c_31 := mt (zeq (x := iZ (gz Yf x3)) (y := iZ (-1)) rfl rfl ⟨by omega, by omega⟩ ⟨by omega, by omega⟩).mpr c_31
                refine lv_aload_n hx hb dX12_pour_60 rfl (lv_at hl 0 rfl) ?_
                refine va_get (D := D) (ci := 12) (v := .ref Ms) (C := RX12) (T := TX12) (N := 36) hx hb hts iX12 hown hK hP 0 rfl rfl 5 (by decide) (hts _ qf_X12_21) (fun _ h => h) rfl dX12_pour_61 ?_
                refine lv_iload_n hx hb dX12_pour_64 rfl (lv_at hl 1 rfl) ?_
                refine va_iald hx hb hK hP 1 1 rfl rfl (zin (e := x1) (n := 4) ⟨by omega, by omega⟩ (by decide)) dX12_pour_65 ?_
                refine lv_topi (fun x_32 ex_32 => ?_)
                obtain rfl : x_32 = iZ (gz Sf x1) := ex_32.trans (gz_eq ⟨by omega, by omega⟩)
                have h_33 := rgS x1 (by omega) (by omega)
                refine lv_aload_n hx hb dX12_pour_66 rfl (lv_at hl 0 rfl) ?_
                refine va_get (D := D) (ci := 12) (v := .ref Ms) (C := RX12) (T := TX12) (N := 36) hx hb hts iX12 hown hK hP 0 rfl rfl 5 (by decide) (hts _ qf_X12_21) (fun _ h => h) rfl dX12_pour_67 ?_
                refine lv_iload_n hx hb dX12_pour_70 rfl (lv_at hl 3 rfl) ?_
                refine va_iald hx hb hK hP 1 1 rfl rfl (zin (e := x3) (n := 4) ⟨by omega, by omega⟩ (by decide)) dX12_pour_71 ?_
                refine lv_topi (fun x_34 ex_34 => ?_)
                obtain rfl : x_34 = iZ (gz Sf x3) := ex_34.trans (gz_eq ⟨by omega, by omega⟩)
                have h_35 := rgS x3 (by omega) (by omega)
                refine lv_icmp_eq (tgt := 82) hx hb dX12_pour_72 (by decide) (fun c_36 => ?_) (fun c_36 => ?_)
                ·
                  have c_36 := (zeq (x := iZ (gz Sf x1)) (y := iZ (gz Sf x3)) rfl rfl ⟨by omega, by omega⟩ ⟨by omega, by omega⟩).mp c_36
                  refine lv_iload hx hb dX12_pour_82 (lv_at hl 5 rfl) ?_
                  refine lv_aload_n hx hb dX12_pour_84 rfl (lv_at hl 0 rfl) ?_
                  refine va_get (D := D) (ci := 12) (v := .ref My) (C := RX12) (T := TX12) (N := 36) hx hb hts iX12 hown hK hP 0 rfl rfl 6 (by decide) (hts _ qf_X12_24) (fun _ h => h) rfl dX12_pour_85 ?_
                  refine lv_iload_n hx hb dX12_pour_88 rfl (lv_at hl 1 rfl) ?_
                  refine va_iald hx hb hK hP 2 1 rfl rfl (zin (e := x1) (n := 4) ⟨by omega, by omega⟩ (by decide)) dX12_pour_89 ?_
                  refine lv_topi (fun x_37 ex_37 => ?_)
                  obtain rfl : x_37 = iZ (gz Yf x1) := ex_37.trans (gz_eq ⟨by omega, by omega⟩)
                  have h_38 := rgY x1 (by omega) (by omega)
                  refine lv_iload_n hx hb dX12_pour_90 rfl (lv_at hl 2 rfl) ?_
                  refine lv_isub hx hb dX12_pour_91 ?_
                  refine lv_topi (fun x_39 ex_39 => ?_)
                  obtain rfl : x_39 = iZ ((gz Yf x1) - x2) := ex_39.trans (iZ_sub (gz Yf x1) x2)
                  refine lv_icmp_gt (tgt := 109) hx hb dX12_pour_92 (by decide) (fun c_40 => ?_) (fun c_40 => ?_)
                  ·
                    have c_40 := (zlt (x := iZ ((gz Yf x1) - x2)) (y := iZ x5) rfl rfl ⟨by omega, by omega⟩ ⟨by omega, by omega⟩).mp c_40
                    refine lv_aload_n hx hb dX12_pour_109 rfl (lv_at hl 0 rfl) ?_
                    refine lv_iconst (v := iZ 3) hx hb dX12_pour_110 (by decide) ?_
                    refine CWV (As := [.int (iZ 3)]) (rest := []) (wc := [(hm, .inr (12, [.ref Ma, .ref Mn, .int (iZ Mst), .long Mtp, .long Mbt, .ref Ms, .ref My, .ref Mt, .ref Mp, .ref Mx, .int (iZ Mtd), .int (iZ Msz), .int (iZ Mtk), .int (iZ Mfr), .int (iZ Men), .int (iZ Mva), .int (iZ Mfk), .int (iZ Mfp), .int (iZ Mfs), .int (iZ Mse), .int (iZ Mlt), .ref Mo, .int (iZ Mdp), .int (iZ Mct), .ref Mk, .ref Ml, .ref Mb, .ref Mh, .ref Mc, .int (iZ Mdr), .int (iZ Mrs), .ref Mz, .ref Mr, .ref Mq, .int (iZ Mit), .int (iZ Mmk)]))]) (wr := [(Ms, .inl (k 1, 4, .inl Sf)), (My, .inl (k 1, 4, .inl Yf)), (Mt, .inl (k 2, 240, .inr (.inl Tf)))]) hx hb hml hown hts hKK hP hD hS hA (m_isN l D k hm Ma Mn Ms My Mt Mp Mx Mo Mk Ml Mb Mh Mc Mz Mr Mq Mst Mtd Msz Mtk Mfr Men Mva Mfk Mfp Mfs Mse Mlt Mdp Mct Mdr Mrs Mit Mmk Mtp Mbt 3 ⟨by omega, by omega⟩ (by omega)) ci_X12_is qm_X12_89 ⟨Nat.le_of_ble_eq_true rfl, Nat.le_of_ble_eq_true rfl⟩ ⟨Nat.le_of_ble_eq_true rfl, Nat.le_of_ble_eq_true rfl⟩ [0] [1, 2, 3] rfl rfl rfl rfl rfl (by decide) 0 rfl rfl rfl hl.1 rfl (Nat.le_of_ble_eq_true rfl) dX12_pour_111 (fun u_41 H locs hφ hP hD hS => ?_)
                    obtain ⟨I_42, L_43, F_44, G_45⟩ := u_41
                    refine W.eq (g2 := F0 m 114 ls [.int (iZ 0)]) rfl ?_
                    exact EWz hx hb hr hlocks hS (fun i => [0, 3].getD i 0, fun i => [0].getD i 0, fun i => [].getD i (fun _ => 0), fun i => [Tf].getD i (fun _ => 0)) rfl rfl (show ((0 : Int) = 1 ∧ (((0 ≤ x1 ∧ x1 ≤ 3) ∧ (0 ≤ x3 ∧ x3 ≤ 3) ∧ (0 ≤ x2 ∧ 0 ≤ x4 ∧ 0 ≤ x5)) ∧ (¬ gz Yf x1 = -1 ∧ ¬ gz Yf x3 = -1) ∧ gz Sf x1 = gz Sf x3 ∧ (x5 ≤ gz Yf x1 - x2 ∧ x5 ≤ gz Yf x3 - x4))) ∨ ((0 : Int) = 0 ∧ ¬ (((0 ≤ x1 ∧ x1 ≤ 3) ∧ (0 ≤ x3 ∧ x3 ≤ 3) ∧ (0 ≤ x2 ∧ 0 ≤ x4 ∧ 0 ≤ x5)) ∧ (¬ gz Yf x1 = -1 ∧ ¬ gz Yf x3 = -1) ∧ gz Sf x1 = gz Sf x3 ∧ (x5 ≤ gz Yf x1 - x2 ∧ x5 ≤ gz Yf x3 - x4))) from (by omega)) (hP.sub [3, 0, 1, 2] rfl) (hD.sub [3, 0, 1, 2] rfl rfl) dX12_pour_114
                  ·
                    have c_40 := mt (zlt (x := iZ ((gz Yf x1) - x2)) (y := iZ x5) rfl rfl ⟨by omega, by omega⟩ ⟨by omega, by omega⟩).mpr c_40
                    refine lv_iload hx hb dX12_pour_95 (lv_at hl 5 rfl) ?_
                    refine lv_aload_n hx hb dX12_pour_97 rfl (lv_at hl 0 rfl) ?_
                    refine va_get (D := D) (ci := 12) (v := .ref My) (C := RX12) (T := TX12) (N := 36) hx hb hts iX12 hown hK hP 0 rfl rfl 6 (by decide) (hts _ qf_X12_24) (fun _ h => h) rfl dX12_pour_98 ?_
                    refine lv_iload_n hx hb dX12_pour_101 rfl (lv_at hl 3 rfl) ?_
                    refine va_iald hx hb hK hP 2 1 rfl rfl (zin (e := x3) (n := 4) ⟨by omega, by omega⟩ (by decide)) dX12_pour_102 ?_
                    refine lv_topi (fun x_47 ex_47 => ?_)
                    obtain rfl : x_47 = iZ (gz Yf x3) := ex_47.trans (gz_eq ⟨by omega, by omega⟩)
                    have h_48 := rgY x3 (by omega) (by omega)
                    refine lv_iload hx hb dX12_pour_103 (lv_at hl 4 rfl) ?_
                    refine lv_isub hx hb dX12_pour_105 ?_
                    refine lv_topi (fun x_49 ex_49 => ?_)
                    obtain rfl : x_49 = iZ ((gz Yf x3) - x4) := ex_49.trans (iZ_sub (gz Yf x3) x4)
                    refine lv_icmp_le (tgt := 115) hx hb dX12_pour_106 (by decide) (fun c_50 => ?_) (fun c_50 => ?_)
                    ·
                      have c_50 := (zle (x := iZ x5) (y := iZ ((gz Yf x3) - x4)) rfl rfl ⟨by omega, by omega⟩ ⟨by omega, by omega⟩).mp c_50
                      refine lv_iconst (v := iZ 0) hx hb dX12_pour_115 (by decide) ?_
                      refine lv_istore (lv' := [(6, .int (iZ 0)), (0, .ref hm), (1, .int (iZ x1)), (2, .int (iZ x2)), (3, .int (iZ x3)), (4, .int (iZ x4)), (5, .int (iZ x5))]) hx hb dX12_pour_116 hl (by decide) rfl (fun ls hl => ?_)
                      have HL118 : ∀ (fu : Nat) (v6_118 : Int) (Tfq118 : Nat → Int64) (H : Heap) (locs : List Loc) (ls : Array Slot), ((60) + 2 - v6_118) < (fu : Int) → ((0 ≤ v6_118 ∧ v6_118 ≤ (60) + 1)) → va_P D vwCl [(hm, .inr (12, [.ref Ma, .ref Mn, .int (iZ Mst), .long Mtp, .long Mbt, .ref Ms, .ref My, .ref Mt, .ref Mp, .ref Mx, .int (iZ Mtd), .int (iZ Msz), .int (iZ Mtk), .int (iZ Mfr), .int (iZ Men), .int (iZ Mva), .int (iZ Mfk), .int (iZ Mfp), .int (iZ Mfs), .int (iZ Mse), .int (iZ Mlt), .ref Mo, .int (iZ Mdp), .int (iZ Mct), .ref Mk, .ref Ml, .ref Mb, .ref Mh, .ref Mc, .int (iZ Mdr), .int (iZ Mrs), .ref Mz, .ref Mr, .ref Mq, .int (iZ Mit), .int (iZ Mmk)])), (Ms, .inl (k 1, 4, .inl Sf)), (My, .inl (k 1, 4, .inl Yf)), (Mt, .inl (k 2, 240, .inr (.inl Tfq118)))] H → va_D A [(hm, .inr (12, [.ref Ma, .ref Mn, .int (iZ Mst), .long Mtp, .long Mbt, .ref Ms, .ref My, .ref Mt, .ref Mp, .ref Mx, .int (iZ Mtd), .int (iZ Msz), .int (iZ Mtk), .int (iZ Mfr), .int (iZ Men), .int (iZ Mva), .int (iZ Mfk), .int (iZ Mfp), .int (iZ Mfs), .int (iZ Mse), .int (iZ Mlt), .ref Mo, .int (iZ Mdp), .int (iZ Mct), .ref Mk, .ref Ml, .ref Mb, .ref Mh, .ref Mc, .int (iZ Mdr), .int (iZ Mrs), .ref Mz, .ref Mr, .ref Mq, .int (iZ Mit), .int (iZ Mmk)])), (Ms, .inl (k 1, 4, .inl Sf)), (My, .inl (k 1, 4, .inl Yf)), (Mt, .inl (k 2, 240, .inr (.inl Tfq118)))] → va_S A s.heap H locs → lv_has ls 8 [(6, .int (iZ v6_118)), (0, .ref hm), (1, .int (iZ x1)), (2, .int (iZ x2)), (3, .int (iZ x3)), (4, .int (iZ x4)), (5, .int (iZ x5))] → W p l e (rj 1 0 0) s m [.ref hm, .int (iZ x1), .int (iZ x2), .int (iZ x3), .int (iZ x4), .int (iZ x5)].toArray below meth c H locs 0 0 (MQ below (QW (σ := ((Nat → Int) × (Nat → Int64) × (Nat → Nat → Int32) × (Nat → Nat → Int64))) (fun u => some (.int (iZ (u.1 0)))) (fun u => (((u.1 0) : Int) = 1 ∧ (((0 ≤ x1 ∧ x1 ≤ 3) ∧ (0 ≤ x3 ∧ x3 ≤ 3) ∧ (0 ≤ x2 ∧ 0 ≤ x4 ∧ 0 ≤ x5)) ∧ (¬ gz Yf x1 = -1 ∧ ¬ gz Yf x3 = -1) ∧ gz Sf x1 = gz Sf x3 ∧ (x5 ≤ gz Yf x1 - x2 ∧ x5 ≤ gz Yf x3 - x4))) ∨ (((u.1 0) : Int) = 0 ∧ ¬ (((0 ≤ x1 ∧ x1 ≤ 3) ∧ (0 ≤ x3 ∧ x3 ≤ 3) ∧ (0 ≤ x2 ∧ 0 ≤ x4 ∧ 0 ≤ x5)) ∧ (¬ gz Yf x1 = -1 ∧ ¬ gz Yf x3 = -1) ∧ gz Sf x1 = gz Sf x3 ∧ (x5 ≤ gz Yf x1 - x2 ∧ x5 ≤ gz Yf x3 - x4)))) (fun u => [(hm, .inr (12, [.ref Ma, .ref Mn, .int (iZ (u.1 1)), .long Mtp, .long Mbt, .ref Ms, .ref My, .ref Mt, .ref Mp, .ref Mx, .int (iZ Mtd), .int (iZ Msz), .int (iZ Mtk), .int (iZ Mfr), .int (iZ Men), .int (iZ Mva), .int (iZ Mfk), .int (iZ Mfp), .int (iZ Mfs), .int (iZ Mse), .int (iZ Mlt), .ref Mo, .int (iZ Mdp), .int (iZ Mct), .ref Mk, .ref Ml, .ref Mb, .ref Mh, .ref Mc, .int (iZ Mdr), .int (iZ Mrs), .ref Mz, .ref Mr, .ref Mq, .int (iZ Mit), .int (iZ Mmk)])), (Ms, .inl (k 1, 4, .inl Sf)), (My, .inl (k 1, 4, .inl Yf)), (Mt, .inl (k 2, 240, .inr (.inl (u.2.2.2 0))))]) D A) [.ref hm, .int (iZ x1), .int (iZ x2), .int (iZ x3), .int (iZ x4), .int (iZ x5)].toArray s 0 0 A) (F0 m 118 ls []) := by
                        intro fu
                        induction fu with
                        | zero => intro v6_118 Tfq118 H locs ls hμ118 hi118 hP hD hS hl; exact absurd hμ118 (by omega)
                        | succ fu ih118 =>
                          intro v6_118 Tfq118 H locs ls hμ118 hi118 hP hD hS hl
                          refine lv_iload hx hb dX12_pour_118 (lv_at hl 0 rfl) ?_
                          refine lv_iload hx hb dX12_pour_120 (lv_at hl 6 rfl) ?_
                          refine lv_icmp_ge (tgt := 180) hx hb dX12_pour_122 (by decide) (fun c_51 => ?_) (fun c_51 => ?_)
                          ·
                            have c_51 := (zle (x := iZ x5) (y := iZ v6_118) rfl rfl ⟨by omega, by omega⟩ ⟨by omega, by omega⟩).mp c_51
                            refine lv_aload_n hx hb dX12_pour_180 rfl (lv_at hl 1 rfl) ?_
                            refine lv_iconst (v := iZ 0) hx hb dX12_pour_181 (by decide) ?_
                            refine CWV (As := [.int (iZ 0)]) (rest := []) (wc := [(hm, .inr (12, [.ref Ma, .ref Mn, .int (iZ Mst), .long Mtp, .long Mbt, .ref Ms, .ref My, .ref Mt, .ref Mp, .ref Mx, .int (iZ Mtd), .int (iZ Msz), .int (iZ Mtk), .int (iZ Mfr), .int (iZ Men), .int (iZ Mva), .int (iZ Mfk), .int (iZ Mfp), .int (iZ Mfs), .int (iZ Mse), .int (iZ Mlt), .ref Mo, .int (iZ Mdp), .int (iZ Mct), .ref Mk, .ref Ml, .ref Mb, .ref Mh, .ref Mc, .int (iZ Mdr), .int (iZ Mrs), .ref Mz, .ref Mr, .ref Mq, .int (iZ Mit), .int (iZ Mmk)]))]) (wr := [(Ms, .inl (k 1, 4, .inl Sf)), (My, .inl (k 1, 4, .inl Yf)), (Mt, .inl (k 2, 240, .inr (.inl Tfq118)))]) hx hb hml hown hts hKK hP hD hS hA (m_is0 l D k hm Ma Mn Ms My Mt Mp Mx Mo Mk Ml Mb Mh Mc Mz Mr Mq Mst Mtd Msz Mtk Mfr Men Mva Mfk Mfp Mfs Mse Mlt Mdp Mct Mdr Mrs Mit Mmk Mtp Mbt) ci_X12_is qm_X12_89 ⟨Nat.le_of_ble_eq_true rfl, Nat.le_of_ble_eq_true rfl⟩ ⟨Nat.le_of_ble_eq_true rfl, Nat.le_of_ble_eq_true rfl⟩ [0] [1, 2, 3] rfl rfl rfl rfl rfl (by decide) 0 rfl rfl rfl hl.1 rfl (Nat.le_of_ble_eq_true rfl) dX12_pour_182 (fun u_52 H locs hφ hP hD hS => ?_)
                            obtain ⟨I_53, L_54, F_55, G_56⟩ := u_52
                            refine W.eq (g2 := F0 m 185 ls [.int (iZ 1)]) rfl ?_
                            exact EWz hx hb hr hlocks hS (fun i => [1, 0].getD i 0, fun i => [0].getD i 0, fun i => [].getD i (fun _ => 0), fun i => [Tfq118].getD i (fun _ => 0)) rfl rfl (show ((1 : Int) = 1 ∧ (((0 ≤ x1 ∧ x1 ≤ 3) ∧ (0 ≤ x3 ∧ x3 ≤ 3) ∧ (0 ≤ x2 ∧ 0 ≤ x4 ∧ 0 ≤ x5)) ∧ (¬ gz Yf x1 = -1 ∧ ¬ gz Yf x3 = -1) ∧ gz Sf x1 = gz Sf x3 ∧ (x5 ≤ gz Yf x1 - x2 ∧ x5 ≤ gz Yf x3 - x4))) ∨ ((1 : Int) = 0 ∧ ¬ (((0 ≤ x1 ∧ x1 ≤ 3) ∧ (0 ≤ x3 ∧ x3 ≤ 3) ∧ (0 ≤ x2 ∧ 0 ≤ x4 ∧ 0 ≤ x5)) ∧ (¬ gz Yf x1 = -1 ∧ ¬ gz Yf x3 = -1) ∧ gz Sf x1 = gz Sf x3 ∧ (x5 ≤ gz Yf x1 - x2 ∧ x5 ≤ gz Yf x3 - x4))) from (by omega)) (hP.sub [3, 0, 1, 2] rfl) (hD.sub [3, 0, 1, 2] rfl rfl) dX12_pour_185
                          ·
                            have c_51 := mt (zle (x := iZ x5) (y := iZ v6_118) rfl rfl ⟨by omega, by omega⟩ ⟨by omega, by omega⟩).mpr c_51
                            refine lv_iload_n hx hb dX12_pour_125 rfl (lv_at hl 3 rfl) ?_
                            refine lv_iload hx hb dX12_pour_126 (lv_at hl 5 rfl) ?_
                            refine lv_icmp_ge (tgt := 141) hx hb dX12_pour_128 (by decide) (fun c_58 => ?_) (fun c_58 => ?_)
                            ·
                              have c_58 := (zle (x := iZ x4) (y := iZ x2) rfl rfl ⟨by omega, by omega⟩ ⟨by omega, by omega⟩).mp c_58
                              refine lv_iload hx hb dX12_pour_141 (lv_at hl 0 rfl) ?_
                              refine lv_istore (lv' := [(7, .int (iZ v6_118)), (6, .int (iZ v6_118)), (0, .ref hm), (1, .int (iZ x1)), (2, .int (iZ x2)), (3, .int (iZ x3)), (4, .int (iZ x4)), (5, .int (iZ x5))]) hx hb dX12_pour_143 hl (by decide) rfl (fun ls hl => ?_)
                              refine lv_aload_n hx hb dX12_pour_145 rfl (lv_at hl 2 rfl) ?_
                              refine va_get (D := D) (ci := 12) (v := .ref Mt) (C := RX12) (T := TX12) (N := 36) hx hb hts iX12 hown hK hP 0 rfl rfl 7 (by decide) (hts _ qf_X12_27) (fun _ h => h) rfl dX12_pour_146 ?_
                              refine lv_bipush (v := iZ 60) hx hb dX12_pour_149 (by decide) ?_
                              refine lv_iload_n hx hb dX12_pour_151 rfl (lv_at hl 5 rfl) ?_
                              refine lv_imul hx hb dX12_pour_152 ?_
                              refine lv_topi (fun x_59 ex_59 => ?_)
                              obtain rfl : x_59 = iZ (60 * x3) := ex_59.trans (iZ_mul 60 x3)
                              refine lv_iload hx hb dX12_pour_153 (lv_at hl 6 rfl) ?_
                              refine lv_iadd hx hb dX12_pour_155 ?_
                              refine lv_topi (fun x_60 ex_60 => ?_)
                              obtain rfl : x_60 = iZ ((60 * x3) + x4) := ex_60.trans (iZ_add (60 * x3) x4)
                              refine lv_iload hx hb dX12_pour_156 (lv_at hl 0 rfl) ?_
                              refine lv_iadd hx hb dX12_pour_158 ?_
                              refine lv_topi (fun x_61 ex_61 => ?_)
                              obtain rfl : x_61 = iZ (((60 * x3) + x4) + v6_118) := ex_61.trans (iZ_add ((60 * x3) + x4) v6_118)
                              refine lv_aload_n hx hb dX12_pour_159 rfl (lv_at hl 2 rfl) ?_
                              refine va_get (D := D) (ci := 12) (v := .ref Mt) (C := RX12) (T := TX12) (N := 36) hx hb hts iX12 hown hK hP 0 rfl rfl 7 (by decide) (hts _ qf_X12_27) (fun _ h => h) rfl dX12_pour_160 ?_
                              refine lv_bipush (v := iZ 60) hx hb dX12_pour_163 (by decide) ?_
                              refine lv_iload_n hx hb dX12_pour_165 rfl (lv_at hl 3 rfl) ?_
                              refine lv_imul hx hb dX12_pour_166 ?_
                              refine lv_topi (fun x_62 ex_62 => ?_)
                              obtain rfl : x_62 = iZ (60 * x1) := ex_62.trans (iZ_mul 60 x1)
                              refine lv_iload_n hx hb dX12_pour_167 rfl (lv_at hl 4 rfl) ?_
                              refine lv_iadd hx hb dX12_pour_168 ?_
                              refine lv_topi (fun x_63 ex_63 => ?_)
                              obtain rfl : x_63 = iZ ((60 * x1) + x2) := ex_63.trans (iZ_add (60 * x1) x2)
                              refine lv_iload hx hb dX12_pour_169 (lv_at hl 0 rfl) ?_
                              refine lv_iadd hx hb dX12_pour_171 ?_
                              refine lv_topi (fun x_64 ex_64 => ?_)
                              obtain rfl : x_64 = iZ (((60 * x1) + x2) + v6_118) := ex_64.trans (iZ_add ((60 * x1) + x2) v6_118)
                              refine va_lald hx hb hK hP 3 2 rfl rfl (zin (e := (((60 * x1) + x2) + v6_118)) (n := 240) ⟨by omega, by omega⟩ (by decide)) dX12_pour_172 ?_
                              refine lv_topl (fun y_65 ey_65 => ?_)
                              refine va_last hx hb hK hP hD hS 3 2 rfl rfl (zin (e := (((60 * x3) + x4) + v6_118)) (n := 240) ⟨by omega, by omega⟩ (by decide)) dX12_pour_173 (fun H locs hP hD hS => ?_)
                              obtain ⟨f_66, hf_66⟩ : ∃ gg9, gg9 = vp_updL Tfq118 (iZ (((60 * x3) + x4) + v6_118)).toNatClampNeg y_65 := ⟨_, rfl⟩
                              rw [← hf_66] at hP hD
                              refine lv_iinc (v := iZ (v6_118 + 1)) (lv' := [(6, .int (iZ (v6_118 + 1))), (7, .int (iZ v6_118)), (0, .ref hm), (1, .int (iZ x1)), (2, .int (iZ x2)), (3, .int (iZ x3)), (4, .int (iZ x4)), (5, .int (iZ x5))]) hx hb dX12_pour_174 hl (k := 1) rfl (iZ_add v6_118 1) (by decide) rfl (fun ls hl => ?_)
                              refine lv_goto (tgt := 118) hx hb dX12_pour_177 (by decide) ?_
                              exact ih118  (v6_118 + 1) f_66 _ _ _ (by omega) (show (0 ≤ (v6_118 + 1) ∧ (v6_118 + 1) ≤ (60) + 1) from ⟨by omega, by omega⟩) (hP.sub [0, 1, 2, 3] rfl) (hD.sub [0, 1, 2, 3] rfl rfl) hS (lv_sub hl [0, 2, 3, 4, 5, 6, 7] rfl)
                            ·
                              have c_58 := mt (zle (x := iZ x4) (y := iZ x2) rfl rfl ⟨by omega, by omega⟩ ⟨by omega, by omega⟩).mpr c_58
                              refine lv_iload hx hb dX12_pour_131 (lv_at hl 6 rfl) ?_
                              refine lv_iconst (v := iZ 1) hx hb dX12_pour_133 (by decide) ?_
                              refine lv_isub hx hb dX12_pour_134 ?_
                              refine lv_topi (fun x_67 ex_67 => ?_)
                              obtain rfl : x_67 = iZ (x5 - 1) := ex_67.trans (iZ_sub x5 1)
                              refine lv_iload hx hb dX12_pour_135 (lv_at hl 0 rfl) ?_
                              refine lv_isub hx hb dX12_pour_137 ?_
                              refine lv_topi (fun x_68 ex_68 => ?_)
                              obtain rfl : x_68 = iZ ((x5 - 1) - v6_118) := ex_68.trans (iZ_sub (x5 - 1) v6_118)
                              refine lv_goto (tgt := 143) hx hb dX12_pour_138 (by decide) ?_
                              refine lv_istore (lv' := [(7, .int (iZ ((x5 - 1) - v6_118))), (6, .int (iZ v6_118)), (0, .ref hm), (1, .int (iZ x1)), (2, .int (iZ x2)), (3, .int (iZ x3)), (4, .int (iZ x4)), (5, .int (iZ x5))]) hx hb dX12_pour_143 hl (by decide) rfl (fun ls hl => ?_)
                              refine lv_aload_n hx hb dX12_pour_145 rfl (lv_at hl 2 rfl) ?_
                              refine va_get (D := D) (ci := 12) (v := .ref Mt) (C := RX12) (T := TX12) (N := 36) hx hb hts iX12 hown hK hP 0 rfl rfl 7 (by decide) (hts _ qf_X12_27) (fun _ h => h) rfl dX12_pour_146 ?_
                              refine lv_bipush (v := iZ 60) hx hb dX12_pour_149 (by decide) ?_
                              refine lv_iload_n hx hb dX12_pour_151 rfl (lv_at hl 5 rfl) ?_
                              refine lv_imul hx hb dX12_pour_152 ?_
                              refine lv_topi (fun x_69 ex_69 => ?_)
                              obtain rfl : x_69 = iZ (60 * x3) := ex_69.trans (iZ_mul 60 x3)
                              refine lv_iload hx hb dX12_pour_153 (lv_at hl 6 rfl) ?_
                              refine lv_iadd hx hb dX12_pour_155 ?_
                              refine lv_topi (fun x_70 ex_70 => ?_)
                              obtain rfl : x_70 = iZ ((60 * x3) + x4) := ex_70.trans (iZ_add (60 * x3) x4)
                              refine lv_iload hx hb dX12_pour_156 (lv_at hl 0 rfl) ?_
                              refine lv_iadd hx hb dX12_pour_158 ?_
                              refine lv_topi (fun x_71 ex_71 => ?_)
                              obtain rfl : x_71 = iZ (((60 * x3) + x4) + ((x5 - 1) - v6_118)) := ex_71.trans (iZ_add ((60 * x3) + x4) ((x5 - 1) - v6_118))
                              refine lv_aload_n hx hb dX12_pour_159 rfl (lv_at hl 2 rfl) ?_
                              refine va_get (D := D) (ci := 12) (v := .ref Mt) (C := RX12) (T := TX12) (N := 36) hx hb hts iX12 hown hK hP 0 rfl rfl 7 (by decide) (hts _ qf_X12_27) (fun _ h => h) rfl dX12_pour_160 ?_
                              refine lv_bipush (v := iZ 60) hx hb dX12_pour_163 (by decide) ?_
                              refine lv_iload_n hx hb dX12_pour_165 rfl (lv_at hl 3 rfl) ?_
                              refine lv_imul hx hb dX12_pour_166 ?_
                              refine lv_topi (fun x_72 ex_72 => ?_)
                              obtain rfl : x_72 = iZ (60 * x1) := ex_72.trans (iZ_mul 60 x1)
                              refine lv_iload_n hx hb dX12_pour_167 rfl (lv_at hl 4 rfl) ?_
                              refine lv_iadd hx hb dX12_pour_168 ?_
                              refine lv_topi (fun x_73 ex_73 => ?_)
                              obtain rfl : x_73 = iZ ((60 * x1) + x2) := ex_73.trans (iZ_add (60 * x1) x2)
                              refine lv_iload hx hb dX12_pour_169 (lv_at hl 0 rfl) ?_
                              refine lv_iadd hx hb dX12_pour_171 ?_
                              refine lv_topi (fun x_74 ex_74 => ?_)
                              obtain rfl : x_74 = iZ (((60 * x1) + x2) + ((x5 - 1) - v6_118)) := ex_74.trans (iZ_add ((60 * x1) + x2) ((x5 - 1) - v6_118))
                              refine va_lald hx hb hK hP 3 2 rfl rfl (zin (e := (((60 * x1) + x2) + ((x5 - 1) - v6_118))) (n := 240) ⟨by omega, by omega⟩ (by decide)) dX12_pour_172 ?_
                              refine lv_topl (fun y_75 ey_75 => ?_)
                              refine va_last hx hb hK hP hD hS 3 2 rfl rfl (zin (e := (((60 * x3) + x4) + ((x5 - 1) - v6_118))) (n := 240) ⟨by omega, by omega⟩ (by decide)) dX12_pour_173 (fun H locs hP hD hS => ?_)
                              obtain ⟨f_76, hf_76⟩ : ∃ gg9, gg9 = vp_updL Tfq118 (iZ (((60 * x3) + x4) + ((x5 - 1) - v6_118))).toNatClampNeg y_75 := ⟨_, rfl⟩
                              rw [← hf_76] at hP hD
                              refine lv_iinc (v := iZ (v6_118 + 1)) (lv' := [(6, .int (iZ (v6_118 + 1))), (7, .int (iZ ((x5 - 1) - v6_118))), (0, .ref hm), (1, .int (iZ x1)), (2, .int (iZ x2)), (3, .int (iZ x3)), (4, .int (iZ x4)), (5, .int (iZ x5))]) hx hb dX12_pour_174 hl (k := 1) rfl (iZ_add v6_118 1) (by decide) rfl (fun ls hl => ?_)
                              refine lv_goto (tgt := 118) hx hb dX12_pour_177 (by decide) ?_
                              exact ih118  (v6_118 + 1) f_76 _ _ _ (by omega) (show (0 ≤ (v6_118 + 1) ∧ (v6_118 + 1) ≤ (60) + 1) from ⟨by omega, by omega⟩) (hP.sub [0, 1, 2, 3] rfl) (hD.sub [0, 1, 2, 3] rfl rfl) hS (lv_sub hl [0, 2, 3, 4, 5, 6, 7] rfl)
                      exact HL118 64 0 Tf _ _ _ (by omega) (show (0 ≤ 0 ∧ 0 ≤ (60) + 1) from ⟨by omega, by omega⟩) (hP.sub [0, 1, 2, 3] rfl) (hD.sub [0, 1, 2, 3] rfl rfl) hS (lv_sub hl [0, 1, 2, 3, 4, 5, 6] rfl)
                    ·
                      have c_50 := mt (zle (x := iZ x5) (y := iZ ((gz Yf x3) - x4)) rfl rfl ⟨by omega, by omega⟩ ⟨by omega, by omega⟩).mpr c_50
                      refine lv_aload_n hx hb dX12_pour_109 rfl (lv_at hl 0 rfl) ?_
                      refine lv_iconst (v := iZ 3) hx hb dX12_pour_110 (by decide) ?_
                      refine CWV (As := [.int (iZ 3)]) (rest := []) (wc := [(hm, .inr (12, [.ref Ma, .ref Mn, .int (iZ Mst), .long Mtp, .long Mbt, .ref Ms, .ref My, .ref Mt, .ref Mp, .ref Mx, .int (iZ Mtd), .int (iZ Msz), .int (iZ Mtk), .int (iZ Mfr), .int (iZ Men), .int (iZ Mva), .int (iZ Mfk), .int (iZ Mfp), .int (iZ Mfs), .int (iZ Mse), .int (iZ Mlt), .ref Mo, .int (iZ Mdp), .int (iZ Mct), .ref Mk, .ref Ml, .ref Mb, .ref Mh, .ref Mc, .int (iZ Mdr), .int (iZ Mrs), .ref Mz, .ref Mr, .ref Mq, .int (iZ Mit), .int (iZ Mmk)]))]) (wr := [(Ms, .inl (k 1, 4, .inl Sf)), (My, .inl (k 1, 4, .inl Yf)), (Mt, .inl (k 2, 240, .inr (.inl Tf)))]) hx hb hml hown hts hKK hP hD hS hA (m_isN l D k hm Ma Mn Ms My Mt Mp Mx Mo Mk Ml Mb Mh Mc Mz Mr Mq Mst Mtd Msz Mtk Mfr Men Mva Mfk Mfp Mfs Mse Mlt Mdp Mct Mdr Mrs Mit Mmk Mtp Mbt 3 ⟨by omega, by omega⟩ (by omega)) ci_X12_is qm_X12_89 ⟨Nat.le_of_ble_eq_true rfl, Nat.le_of_ble_eq_true rfl⟩ ⟨Nat.le_of_ble_eq_true rfl, Nat.le_of_ble_eq_true rfl⟩ [0] [1, 2, 3] rfl rfl rfl rfl rfl (by decide) 0 rfl rfl rfl hl.1 rfl (Nat.le_of_ble_eq_true rfl) dX12_pour_111 (fun u_77 H locs hφ hP hD hS => ?_)
                      obtain ⟨I_78, L_79, F_80, G_81⟩ := u_77
                      refine W.eq (g2 := F0 m 114 ls [.int (iZ 0)]) rfl ?_
                      exact EWz hx hb hr hlocks hS (fun i => [0, 3].getD i 0, fun i => [0].getD i 0, fun i => [].getD i (fun _ => 0), fun i => [Tf].getD i (fun _ => 0)) rfl rfl (show ((0 : Int) = 1 ∧ (((0 ≤ x1 ∧ x1 ≤ 3) ∧ (0 ≤ x3 ∧ x3 ≤ 3) ∧ (0 ≤ x2 ∧ 0 ≤ x4 ∧ 0 ≤ x5)) ∧ (¬ gz Yf x1 = -1 ∧ ¬ gz Yf x3 = -1) ∧ gz Sf x1 = gz Sf x3 ∧ (x5 ≤ gz Yf x1 - x2 ∧ x5 ≤ gz Yf x3 - x4))) ∨ ((0 : Int) = 0 ∧ ¬ (((0 ≤ x1 ∧ x1 ≤ 3) ∧ (0 ≤ x3 ∧ x3 ≤ 3) ∧ (0 ≤ x2 ∧ 0 ≤ x4 ∧ 0 ≤ x5)) ∧ (¬ gz Yf x1 = -1 ∧ ¬ gz Yf x3 = -1) ∧ gz Sf x1 = gz Sf x3 ∧ (x5 ≤ gz Yf x1 - x2 ∧ x5 ≤ gz Yf x3 - x4))) from (by omega)) (hP.sub [3, 0, 1, 2] rfl) (hD.sub [3, 0, 1, 2] rfl rfl) dX12_pour_114
                ·
                  have c_36 := mt (zeq (x := iZ (gz Sf x1)) (y := iZ (gz Sf x3)) rfl rfl ⟨by omega, by omega⟩ ⟨by omega, by omega⟩).mpr c_36
                  refine lv_aload_n hx hb dX12_pour_75 rfl (lv_at hl 0 rfl) ?_
                  refine lv_bipush (v := iZ 8) hx hb dX12_pour_76 (by decide) ?_
                  refine CWV (As := [.int (iZ 8)]) (rest := []) (wc := [(hm, .inr (12, [.ref Ma, .ref Mn, .int (iZ Mst), .long Mtp, .long Mbt, .ref Ms, .ref My, .ref Mt, .ref Mp, .ref Mx, .int (iZ Mtd), .int (iZ Msz), .int (iZ Mtk), .int (iZ Mfr), .int (iZ Men), .int (iZ Mva), .int (iZ Mfk), .int (iZ Mfp), .int (iZ Mfs), .int (iZ Mse), .int (iZ Mlt), .ref Mo, .int (iZ Mdp), .int (iZ Mct), .ref Mk, .ref Ml, .ref Mb, .ref Mh, .ref Mc, .int (iZ Mdr), .int (iZ Mrs), .ref Mz, .ref Mr, .ref Mq, .int (iZ Mit), .int (iZ Mmk)]))]) (wr := [(Ms, .inl (k 1, 4, .inl Sf)), (My, .inl (k 1, 4, .inl Yf)), (Mt, .inl (k 2, 240, .inr (.inl Tf)))]) hx hb hml hown hts hKK hP hD hS hA (m_isN l D k hm Ma Mn Ms My Mt Mp Mx Mo Mk Ml Mb Mh Mc Mz Mr Mq Mst Mtd Msz Mtk Mfr Men Mva Mfk Mfp Mfs Mse Mlt Mdp Mct Mdr Mrs Mit Mmk Mtp Mbt 8 ⟨by omega, by omega⟩ (by omega)) ci_X12_is qm_X12_89 ⟨Nat.le_of_ble_eq_true rfl, Nat.le_of_ble_eq_true rfl⟩ ⟨Nat.le_of_ble_eq_true rfl, Nat.le_of_ble_eq_true rfl⟩ [0] [1, 2, 3] rfl rfl rfl rfl rfl (by decide) 0 rfl rfl rfl hl.1 rfl (Nat.le_of_ble_eq_true rfl) dX12_pour_78 (fun u_83 H locs hφ hP hD hS => ?_)
                  obtain ⟨I_84, L_85, F_86, G_87⟩ := u_83
                  refine W.eq (g2 := F0 m 81 ls [.int (iZ 0)]) rfl ?_
                  exact EWz hx hb hr hlocks hS (fun i => [0, 8].getD i 0, fun i => [0].getD i 0, fun i => [].getD i (fun _ => 0), fun i => [Tf].getD i (fun _ => 0)) rfl rfl (show ((0 : Int) = 1 ∧ (((0 ≤ x1 ∧ x1 ≤ 3) ∧ (0 ≤ x3 ∧ x3 ≤ 3) ∧ (0 ≤ x2 ∧ 0 ≤ x4 ∧ 0 ≤ x5)) ∧ (¬ gz Yf x1 = -1 ∧ ¬ gz Yf x3 = -1) ∧ gz Sf x1 = gz Sf x3 ∧ (x5 ≤ gz Yf x1 - x2 ∧ x5 ≤ gz Yf x3 - x4))) ∨ ((0 : Int) = 0 ∧ ¬ (((0 ≤ x1 ∧ x1 ≤ 3) ∧ (0 ≤ x3 ∧ x3 ≤ 3) ∧ (0 ≤ x2 ∧ 0 ≤ x4 ∧ 0 ≤ x5)) ∧ (¬ gz Yf x1 = -1 ∧ ¬ gz Yf x3 = -1) ∧ gz Sf x1 = gz Sf x3 ∧ (x5 ≤ gz Yf x1 - x2 ∧ x5 ≤ gz Yf x3 - x4))) from (by omega)) (hP.sub [3, 0, 1, 2] rfl) (hD.sub [3, 0, 1, 2] rfl rfl) dX12_pour_81
              ·
                have c_31 := (zeq (x := iZ (gz Yf x3)) (y := iZ (-1)) rfl rfl ⟨by omega, by omega⟩ ⟨by omega, by omega⟩).mp c_31
                refine lv_aload_n hx hb dX12_pour_54 rfl (lv_at hl 0 rfl) ?_
                refine lv_iconst (v := iZ 2) hx hb dX12_pour_55 (by decide) ?_
                refine CWV (As := [.int (iZ 2)]) (rest := []) (wc := [(hm, .inr (12, [.ref Ma, .ref Mn, .int (iZ Mst), .long Mtp, .long Mbt, .ref Ms, .ref My, .ref Mt, .ref Mp, .ref Mx, .int (iZ Mtd), .int (iZ Msz), .int (iZ Mtk), .int (iZ Mfr), .int (iZ Men), .int (iZ Mva), .int (iZ Mfk), .int (iZ Mfp), .int (iZ Mfs), .int (iZ Mse), .int (iZ Mlt), .ref Mo, .int (iZ Mdp), .int (iZ Mct), .ref Mk, .ref Ml, .ref Mb, .ref Mh, .ref Mc, .int (iZ Mdr), .int (iZ Mrs), .ref Mz, .ref Mr, .ref Mq, .int (iZ Mit), .int (iZ Mmk)]))]) (wr := [(Ms, .inl (k 1, 4, .inl Sf)), (My, .inl (k 1, 4, .inl Yf)), (Mt, .inl (k 2, 240, .inr (.inl Tf)))]) hx hb hml hown hts hKK hP hD hS hA (m_isN l D k hm Ma Mn Ms My Mt Mp Mx Mo Mk Ml Mb Mh Mc Mz Mr Mq Mst Mtd Msz Mtk Mfr Men Mva Mfk Mfp Mfs Mse Mlt Mdp Mct Mdr Mrs Mit Mmk Mtp Mbt 2 ⟨by omega, by omega⟩ (by omega)) ci_X12_is qm_X12_89 ⟨Nat.le_of_ble_eq_true rfl, Nat.le_of_ble_eq_true rfl⟩ ⟨Nat.le_of_ble_eq_true rfl, Nat.le_of_ble_eq_true rfl⟩ [0] [1, 2, 3] rfl rfl rfl rfl rfl (by decide) 0 rfl rfl rfl hl.1 rfl (Nat.le_of_ble_eq_true rfl) dX12_pour_56 (fun u_89 H locs hφ hP hD hS => ?_)
                obtain ⟨I_90, L_91, F_92, G_93⟩ := u_89
                refine W.eq (g2 := F0 m 59 ls [.int (iZ 0)]) rfl ?_
                exact EWz hx hb hr hlocks hS (fun i => [0, 2].getD i 0, fun i => [0].getD i 0, fun i => [].getD i (fun _ => 0), fun i => [Tf].getD i (fun _ => 0)) rfl rfl (show ((0 : Int) = 1 ∧ (((0 ≤ x1 ∧ x1 ≤ 3) ∧ (0 ≤ x3 ∧ x3 ≤ 3) ∧ (0 ≤ x2 ∧ 0 ≤ x4 ∧ 0 ≤ x5)) ∧ (¬ gz Yf x1 = -1 ∧ ¬ gz Yf x3 = -1) ∧ gz Sf x1 = gz Sf x3 ∧ (x5 ≤ gz Yf x1 - x2 ∧ x5 ≤ gz Yf x3 - x4))) ∨ ((0 : Int) = 0 ∧ ¬ (((0 ≤ x1 ∧ x1 ≤ 3) ∧ (0 ≤ x3 ∧ x3 ≤ 3) ∧ (0 ≤ x2 ∧ 0 ≤ x4 ∧ 0 ≤ x5)) ∧ (¬ gz Yf x1 = -1 ∧ ¬ gz Yf x3 = -1) ∧ gz Sf x1 = gz Sf x3 ∧ (x5 ≤ gz Yf x1 - x2 ∧ x5 ≤ gz Yf x3 - x4))) from (by omega)) (hP.sub [3, 0, 1, 2] rfl) (hD.sub [3, 0, 1, 2] rfl rfl) dX12_pour_59
          ·
            have c_19 := mt (zle (x := iZ 0) (y := iZ x5) rfl rfl ⟨by omega, by omega⟩ ⟨by omega, by omega⟩).mpr c_19
            refine lv_aload_n hx hb dX12_pour_28 rfl (lv_at hl 0 rfl) ?_
            refine lv_iconst (v := iZ 1) hx hb dX12_pour_29 (by decide) ?_
            refine CWV (As := [.int (iZ 1)]) (rest := []) (wc := [(hm, .inr (12, [.ref Ma, .ref Mn, .int (iZ Mst), .long Mtp, .long Mbt, .ref Ms, .ref My, .ref Mt, .ref Mp, .ref Mx, .int (iZ Mtd), .int (iZ Msz), .int (iZ Mtk), .int (iZ Mfr), .int (iZ Men), .int (iZ Mva), .int (iZ Mfk), .int (iZ Mfp), .int (iZ Mfs), .int (iZ Mse), .int (iZ Mlt), .ref Mo, .int (iZ Mdp), .int (iZ Mct), .ref Mk, .ref Ml, .ref Mb, .ref Mh, .ref Mc, .int (iZ Mdr), .int (iZ Mrs), .ref Mz, .ref Mr, .ref Mq, .int (iZ Mit), .int (iZ Mmk)]))]) (wr := [(Ms, .inl (k 1, 4, .inl Sf)), (My, .inl (k 1, 4, .inl Yf)), (Mt, .inl (k 2, 240, .inr (.inl Tf)))]) hx hb hml hown hts hKK hP hD hS hA (m_isN l D k hm Ma Mn Ms My Mt Mp Mx Mo Mk Ml Mb Mh Mc Mz Mr Mq Mst Mtd Msz Mtk Mfr Men Mva Mfk Mfp Mfs Mse Mlt Mdp Mct Mdr Mrs Mit Mmk Mtp Mbt 1 ⟨by omega, by omega⟩ (by omega)) ci_X12_is qm_X12_89 ⟨Nat.le_of_ble_eq_true rfl, Nat.le_of_ble_eq_true rfl⟩ ⟨Nat.le_of_ble_eq_true rfl, Nat.le_of_ble_eq_true rfl⟩ [0] [1, 2, 3] rfl rfl rfl rfl rfl (by decide) 0 rfl rfl rfl hl.1 rfl (Nat.le_of_ble_eq_true rfl) dX12_pour_30 (fun u_95 H locs hφ hP hD hS => ?_)
            obtain ⟨I_96, L_97, F_98, G_99⟩ := u_95
            refine W.eq (g2 := F0 m 33 ls [.int (iZ 0)]) rfl ?_
            exact EWz hx hb hr hlocks hS (fun i => [0, 1].getD i 0, fun i => [0].getD i 0, fun i => [].getD i (fun _ => 0), fun i => [Tf].getD i (fun _ => 0)) rfl rfl (show ((0 : Int) = 1 ∧ (((0 ≤ x1 ∧ x1 ≤ 3) ∧ (0 ≤ x3 ∧ x3 ≤ 3) ∧ (0 ≤ x2 ∧ 0 ≤ x4 ∧ 0 ≤ x5)) ∧ (¬ gz Yf x1 = -1 ∧ ¬ gz Yf x3 = -1) ∧ gz Sf x1 = gz Sf x3 ∧ (x5 ≤ gz Yf x1 - x2 ∧ x5 ≤ gz Yf x3 - x4))) ∨ ((0 : Int) = 0 ∧ ¬ (((0 ≤ x1 ∧ x1 ≤ 3) ∧ (0 ≤ x3 ∧ x3 ≤ 3) ∧ (0 ≤ x2 ∧ 0 ≤ x4 ∧ 0 ≤ x5)) ∧ (¬ gz Yf x1 = -1 ∧ ¬ gz Yf x3 = -1) ∧ gz Sf x1 = gz Sf x3 ∧ (x5 ≤ gz Yf x1 - x2 ∧ x5 ≤ gz Yf x3 - x4))) from (by omega)) (hP.sub [3, 0, 1, 2] rfl) (hD.sub [3, 0, 1, 2] rfl rfl) dX12_pour_33
    ·
      subst qz_3
      refine lv_if_eq (tgt := 28) hx hb dX12_pour_11 (by decide) (fun _ => ?_) (fun c => absurd (by decide) c)
      refine lv_aload_n hx hb dX12_pour_28 rfl (lv_at hl 0 rfl) ?_
      refine lv_iconst (v := iZ 1) hx hb dX12_pour_29 (by decide) ?_
      refine CWV (As := [.int (iZ 1)]) (rest := []) (wc := [(hm, .inr (12, [.ref Ma, .ref Mn, .int (iZ Mst), .long Mtp, .long Mbt, .ref Ms, .ref My, .ref Mt, .ref Mp, .ref Mx, .int (iZ Mtd), .int (iZ Msz), .int (iZ Mtk), .int (iZ Mfr), .int (iZ Men), .int (iZ Mva), .int (iZ Mfk), .int (iZ Mfp), .int (iZ Mfs), .int (iZ Mse), .int (iZ Mlt), .ref Mo, .int (iZ Mdp), .int (iZ Mct), .ref Mk, .ref Ml, .ref Mb, .ref Mh, .ref Mc, .int (iZ Mdr), .int (iZ Mrs), .ref Mz, .ref Mr, .ref Mq, .int (iZ Mit), .int (iZ Mmk)]))]) (wr := [(Ms, .inl (k 1, 4, .inl Sf)), (My, .inl (k 1, 4, .inl Yf)), (Mt, .inl (k 2, 240, .inr (.inl Tf)))]) hx hb hml hown hts hKK hP hD hS hA (m_isN l D k hm Ma Mn Ms My Mt Mp Mx Mo Mk Ml Mb Mh Mc Mz Mr Mq Mst Mtd Msz Mtk Mfr Men Mva Mfk Mfp Mfs Mse Mlt Mdp Mct Mdr Mrs Mit Mmk Mtp Mbt 1 ⟨by omega, by omega⟩ (by omega)) ci_X12_is qm_X12_89 ⟨Nat.le_of_ble_eq_true rfl, Nat.le_of_ble_eq_true rfl⟩ ⟨Nat.le_of_ble_eq_true rfl, Nat.le_of_ble_eq_true rfl⟩ [0] [1, 2, 3] rfl rfl rfl rfl rfl (by decide) 0 rfl rfl rfl hl.1 rfl (Nat.le_of_ble_eq_true rfl) dX12_pour_30 (fun u_102 H locs hφ hP hD hS => ?_)
      obtain ⟨I_103, L_104, F_105, G_106⟩ := u_102
      refine W.eq (g2 := F0 m 33 ls [.int (iZ 0)]) rfl ?_
      exact EWz hx hb hr hlocks hS (fun i => [0, 1].getD i 0, fun i => [0].getD i 0, fun i => [].getD i (fun _ => 0), fun i => [Tf].getD i (fun _ => 0)) rfl rfl (show ((0 : Int) = 1 ∧ (((0 ≤ x1 ∧ x1 ≤ 3) ∧ (0 ≤ x3 ∧ x3 ≤ 3) ∧ (0 ≤ x2 ∧ 0 ≤ x4 ∧ 0 ≤ x5)) ∧ (¬ gz Yf x1 = -1 ∧ ¬ gz Yf x3 = -1) ∧ gz Sf x1 = gz Sf x3 ∧ (x5 ≤ gz Yf x1 - x2 ∧ x5 ≤ gz Yf x3 - x4))) ∨ ((0 : Int) = 0 ∧ ¬ (((0 ≤ x1 ∧ x1 ≤ 3) ∧ (0 ≤ x3 ∧ x3 ≤ 3) ∧ (0 ≤ x2 ∧ 0 ≤ x4 ∧ 0 ≤ x5)) ∧ (¬ gz Yf x1 = -1 ∧ ¬ gz Yf x3 = -1) ∧ gz Sf x1 = gz Sf x3 ∧ (x5 ≤ gz Yf x1 - x2 ∧ x5 ≤ gz Yf x3 - x4))) from (by omega)) (hP.sub [3, 0, 1, 2] rfl) (hD.sub [3, 0, 1, 2] rfl rfl) dX12_pour_33
  ·
    subst qz_1
    refine lv_if_eq (tgt := 28) hx hb dX12_pour_4 (by decide) (fun _ => ?_) (fun c => absurd (by decide) c)
    refine lv_aload_n hx hb dX12_pour_28 rfl (lv_at hl 0 rfl) ?_
    refine lv_iconst (v := iZ 1) hx hb dX12_pour_29 (by decide) ?_
    refine CWV (As := [.int (iZ 1)]) (rest := []) (wc := [(hm, .inr (12, [.ref Ma, .ref Mn, .int (iZ Mst), .long Mtp, .long Mbt, .ref Ms, .ref My, .ref Mt, .ref Mp, .ref Mx, .int (iZ Mtd), .int (iZ Msz), .int (iZ Mtk), .int (iZ Mfr), .int (iZ Men), .int (iZ Mva), .int (iZ Mfk), .int (iZ Mfp), .int (iZ Mfs), .int (iZ Mse), .int (iZ Mlt), .ref Mo, .int (iZ Mdp), .int (iZ Mct), .ref Mk, .ref Ml, .ref Mb, .ref Mh, .ref Mc, .int (iZ Mdr), .int (iZ Mrs), .ref Mz, .ref Mr, .ref Mq, .int (iZ Mit), .int (iZ Mmk)]))]) (wr := [(Ms, .inl (k 1, 4, .inl Sf)), (My, .inl (k 1, 4, .inl Yf)), (Mt, .inl (k 2, 240, .inr (.inl Tf)))]) hx hb hml hown hts hKK hP hD hS hA (m_isN l D k hm Ma Mn Ms My Mt Mp Mx Mo Mk Ml Mb Mh Mc Mz Mr Mq Mst Mtd Msz Mtk Mfr Men Mva Mfk Mfp Mfs Mse Mlt Mdp Mct Mdr Mrs Mit Mmk Mtp Mbt 1 ⟨by omega, by omega⟩ (by omega)) ci_X12_is qm_X12_89 ⟨Nat.le_of_ble_eq_true rfl, Nat.le_of_ble_eq_true rfl⟩ ⟨Nat.le_of_ble_eq_true rfl, Nat.le_of_ble_eq_true rfl⟩ [0] [1, 2, 3] rfl rfl rfl rfl rfl (by decide) 0 rfl rfl rfl hl.1 rfl (Nat.le_of_ble_eq_true rfl) dX12_pour_30 (fun u_109 H locs hφ hP hD hS => ?_)
    obtain ⟨I_110, L_111, F_112, G_113⟩ := u_109
    refine W.eq (g2 := F0 m 33 ls [.int (iZ 0)]) rfl ?_
    exact EWz hx hb hr hlocks hS (fun i => [0, 1].getD i 0, fun i => [0].getD i 0, fun i => [].getD i (fun _ => 0), fun i => [Tf].getD i (fun _ => 0)) rfl rfl (show ((0 : Int) = 1 ∧ (((0 ≤ x1 ∧ x1 ≤ 3) ∧ (0 ≤ x3 ∧ x3 ≤ 3) ∧ (0 ≤ x2 ∧ 0 ≤ x4 ∧ 0 ≤ x5)) ∧ (¬ gz Yf x1 = -1 ∧ ¬ gz Yf x3 = -1) ∧ gz Sf x1 = gz Sf x3 ∧ (x5 ≤ gz Yf x1 - x2 ∧ x5 ≤ gz Yf x3 - x4))) ∨ ((0 : Int) = 0 ∧ ¬ (((0 ≤ x1 ∧ x1 ≤ 3) ∧ (0 ≤ x3 ∧ x3 ≤ 3) ∧ (0 ≤ x2 ∧ 0 ≤ x4 ∧ 0 ≤ x5)) ∧ (¬ gz Yf x1 = -1 ∧ ¬ gz Yf x3 = -1) ∧ gz Sf x1 = gz Sf x3 ∧ (x5 ≤ gz Yf x1 - x2 ∧ x5 ≤ gz Yf x3 - x4))) from (by omega)) (hP.sub [3, 0, 1, 2] rfl) (hD.sub [3, 0, 1, 2] rfl rfl) dX12_pour_33
set_option maxHeartbeats 4000000 in
set_option maxRecDepth 100000 in
theorem q_cheap (l : Launch) (D : va_G) (k : Nat → ClassId) (hm : Nat) (Ma : Nat) (Mn : Nat) (Ms : Nat) (My : Nat) (Mt : Nat) (Mp : Nat) (Mx : Nat) (Mo : Nat) (Mk : Nat) (Ml : Nat) (Mb : Nat) (Mh : Nat) (Mc : Nat) (Mz : Nat) (Mr : Nat) (Mq : Nat) (Mst : Int) (Mtd : Int) (Msz : Int) (Mtk : Int) (Mfr : Int) (Men : Int) (Mva : Int) (Mfk : Int) (Mfp : Int) (Mfs : Int) (Mse : Int) (Mlt : Int) (Mdp : Int) (Mct : Int) (Mdr : Int) (Mrs : Int) (Mit : Int) (Mmk : Int) (Mtp : Int64) (Mbt : Int64) (Af : Nat → Int32) (Cf : Nat → Int32) (x1 : Int) (x2 : Int) (x3 : Int) (x4 : Int) (hM : M0 Af) (h9x1 : -2147483648 ≤ x1 ∧ x1 < 2147483648) (h9x2 : -2147483648 ≤ x2 ∧ x2 < 2147483648) (h9x3 : -2147483648 ≤ x3 ∧ x3 < 2147483648) (h9x4 : -2147483648 ≤ x4 ∧ x4 < 2147483648) : WD (σ := ((Nat → Int) × (Nat → Int64) × (Nat → Nat → Int32) × (Nat → Nat → Int64))) l yX12_cheap cX12_cheap 10 (some .int) 5 0 0 D k [.ref hm, .int (iZ x1), .int (iZ x2), .int (iZ x3), .int (iZ x4)] [(hm, .inr (12, [.ref Ma, .ref Mn, .int (iZ Mst), .long Mtp, .long Mbt, .ref Ms, .ref My, .ref Mt, .ref Mp, .ref Mx, .int (iZ Mtd), .int (iZ Msz), .int (iZ Mtk), .int (iZ Mfr), .int (iZ Men), .int (iZ Mva), .int (iZ Mfk), .int (iZ Mfp), .int (iZ Mfs), .int (iZ Mse), .int (iZ Mlt), .ref Mo, .int (iZ Mdp), .int (iZ Mct), .ref Mk, .ref Ml, .ref Mb, .ref Mh, .ref Mc, .int (iZ Mdr), .int (iZ Mrs), .ref Mz, .ref Mr, .ref Mq, .int (iZ Mit), .int (iZ Mmk)])), (Ma, .inl (k 1, 5340, .inl Af)), (Mc, .inl (k 1, 2766, .inl Cf))] (fun u => some (.int (iZ (u.1 0)))) (fun _ => True) (fun u => [(hm, .inr (12, [.ref Ma, .ref Mn, .int (iZ (u.1 1)), .long Mtp, .long Mbt, .ref Ms, .ref My, .ref Mt, .ref Mp, .ref Mx, .int (iZ Mtd), .int (iZ Msz), .int (iZ Mtk), .int (iZ Mfr), .int (iZ Men), .int (iZ Mva), .int (iZ Mfk), .int (iZ Mfp), .int (iZ Mfs), .int (iZ Mse), .int (iZ Mlt), .ref Mo, .int (iZ Mdp), .int (iZ Mct), .ref Mk, .ref Ml, .ref Mb, .ref Mh, .ref Mc, .int (iZ Mdr), .int (iZ Mrs), .ref Mz, .ref Mr, .ref Mq, .int (iZ Mit), .int (iZ Mmk)])), (Ma, .inl (k 1, 5340, .inl Af)), (Mc, .inl (k 1, 2766, .inl (u.2.2.1 0)))]) := by
  refine MW (by decide) (Nat.le_of_ble_eq_true rfl) (fun p e s m below meth c ls A hx hb hml hr hlocks hin hts hown hKK hP hD hS hA hl => ?_)
  have hK := hKK.1
  have hl : lv_has ls 10 [(0, .ref hm), (1, .int (iZ x1)), (2, .int (iZ x2)), (3, .int (iZ x3)), (4, .int (iZ x4))] := hl
  obtain ⟨m0, m1, m3, m4, m5, mF, mO, mS⟩ := id hM
  refine lv_aload_n hx hb dX12_cheap_0 rfl (lv_at hl 0 rfl) ?_
  refine lv_iload_n hx hb dX12_cheap_1 rfl (lv_at hl 1 rfl) ?_
  refine lv_iload_n hx hb dX12_cheap_2 rfl (lv_at hl 2 rfl) ?_
  refine lv_iload_n hx hb dX12_cheap_3 rfl (lv_at hl 3 rfl) ?_
  refine CPV (As := [.int (iZ x1), .int (iZ x2), .int (iZ x3)]) (rest := []) hx hb hml hown hts hKK (hP.sub (ws' := [(hm, .inr (12, [.ref Ma, .ref Mn, .int (iZ Mst), .long Mtp, .long Mbt, .ref Ms, .ref My, .ref Mt, .ref Mp, .ref Mx, .int (iZ Mtd), .int (iZ Msz), .int (iZ Mtk), .int (iZ Mfr), .int (iZ Men), .int (iZ Mva), .int (iZ Mfk), .int (iZ Mfp), .int (iZ Mfs), .int (iZ Mse), .int (iZ Mlt), .ref Mo, .int (iZ Mdp), .int (iZ Mct), .ref Mk, .ref Ml, .ref Mb, .ref Mh, .ref Mc, .int (iZ Mdr), .int (iZ Mrs), .ref Mz, .ref Mr, .ref Mq, .int (iZ Mit), .int (iZ Mmk)])), (Ma, .inl (k 1, 5340, .inl Af))]) [0, 1] rfl) (m_isSent l D k ([.ref Ma, .ref Mn, .int (iZ Mst), .long Mtp, .long Mbt, .ref Ms, .ref My, .ref Mt, .ref Mp, .ref Mx, .int (iZ Mtd), .int (iZ Msz), .int (iZ Mtk), .int (iZ Mfr), .int (iZ Men), .int (iZ Mva), .int (iZ Mfk), .int (iZ Mfp), .int (iZ Mfs), .int (iZ Mse), .int (iZ Mlt), .ref Mo, .int (iZ Mdp), .int (iZ Mct), .ref Mk, .ref Ml, .ref Mb, .ref Mh, .ref Mc, .int (iZ Mdr), .int (iZ Mrs), .ref Mz, .ref Mr, .ref Mq, .int (iZ Mit), .int (iZ Mmk)]) hm Ma Af x1 x2 x3 rfl hM ⟨by omega, by omega⟩ ⟨by omega, by omega⟩ ⟨by omega, by omega⟩) ci_X12_isSent qm_X12_277 ⟨Nat.le_of_ble_eq_true rfl, Nat.le_of_ble_eq_true rfl⟩ ⟨Nat.le_of_ble_eq_true rfl, Nat.le_of_ble_eq_true rfl⟩ 0 rfl rfl rfl hl.1 rfl (Nat.le_of_ble_eq_true rfl) dX12_cheap_4 (fun z_1 hz_1 => ?_)
  rcases hz_1 with ⟨qz_1, hz_1⟩ | ⟨qz_1, hz_1⟩
  ·
    subst qz_1
    refine lv_if_eq (tgt := 23) hx hb dX12_cheap_7 (by decide) (fun c => absurd c (by decide)) (fun _ => ?_)
    refine lv_iload hx hb dX12_cheap_10 (lv_at hl 4 rfl) ?_
    refine lv_i2l (v := (iZ x4).toInt64) hx hb dX12_cheap_12 rfl ?_
    refine lv_lconst (v := 0) hx hb dX12_cheap_13 rfl ?_
    refine lv_ldc2 (own := RX12) (v := 460) hx hb hown (hts _ qk_X12_351) dX12_cheap_14 ?_
    refine CPS (As := [.long ((iZ x4).toInt64), .long 0, .long 460]) (rest := []) hx hb hml hown hts hKK (hP.sub (ws' := []) [] rfl) (m_isFrom l D k ((iZ x4).toInt64) 0 460) ci_X12_isFrom qm_X12_295 ⟨Nat.le_of_ble_eq_true rfl, Nat.le_of_ble_eq_true rfl⟩ ⟨Nat.le_of_ble_eq_true rfl, Nat.le_of_ble_eq_true rfl⟩ rfl hl.1 rfl (Nat.le_of_ble_eq_true rfl) dX12_cheap_17 (fun z_3 hz_3 => ?_)
    have tt_4_z_3 := tI64 (z := x4) ⟨by omega, by omega⟩
    have tt_5_z_3 := show (0 : Int64).toInt = 0 from (by decide)
    have tt_6_z_3 := show (460 : Int64).toInt = 460 from (by decide)
    rcases hz_3 with ⟨qz_3, hz_3⟩ | ⟨qz_3, hz_3⟩
    ·
      subst qz_3
      refine lv_if_ne (tgt := 29) hx hb dX12_cheap_20 (by decide) (fun _ => ?_) (fun c => absurd c (by decide))
      refine lv_iconst (v := iZ 0) hx hb dX12_cheap_29 (by decide) ?_
      refine lv_istore (lv' := [(5, .int (iZ 0)), (0, .ref hm), (1, .int (iZ x1)), (2, .int (iZ x2)), (3, .int (iZ x3)), (4, .int (iZ x4))]) hx hb dX12_cheap_30 hl (by decide) rfl (fun ls hl => ?_)
      have HL32 : ∀ (fu : Nat) (v5_32 : Int) (Cfq32 : Nat → Int32) (H : Heap) (locs : List Loc) (ls : Array Slot), ((2765) + 2 - v5_32) < (fu : Int) → ((0 ≤ v5_32 ∧ v5_32 ≤ (2765) + 1)) → (rgI Cfq32 0 1000000 v5_32) → va_P D vwCl [(hm, .inr (12, [.ref Ma, .ref Mn, .int (iZ Mst), .long Mtp, .long Mbt, .ref Ms, .ref My, .ref Mt, .ref Mp, .ref Mx, .int (iZ Mtd), .int (iZ Msz), .int (iZ Mtk), .int (iZ Mfr), .int (iZ Men), .int (iZ Mva), .int (iZ Mfk), .int (iZ Mfp), .int (iZ Mfs), .int (iZ Mse), .int (iZ Mlt), .ref Mo, .int (iZ Mdp), .int (iZ Mct), .ref Mk, .ref Ml, .ref Mb, .ref Mh, .ref Mc, .int (iZ Mdr), .int (iZ Mrs), .ref Mz, .ref Mr, .ref Mq, .int (iZ Mit), .int (iZ Mmk)])), (Ma, .inl (k 1, 5340, .inl Af)), (Mc, .inl (k 1, 2766, .inl Cfq32))] H → va_D A [(hm, .inr (12, [.ref Ma, .ref Mn, .int (iZ Mst), .long Mtp, .long Mbt, .ref Ms, .ref My, .ref Mt, .ref Mp, .ref Mx, .int (iZ Mtd), .int (iZ Msz), .int (iZ Mtk), .int (iZ Mfr), .int (iZ Men), .int (iZ Mva), .int (iZ Mfk), .int (iZ Mfp), .int (iZ Mfs), .int (iZ Mse), .int (iZ Mlt), .ref Mo, .int (iZ Mdp), .int (iZ Mct), .ref Mk, .ref Ml, .ref Mb, .ref Mh, .ref Mc, .int (iZ Mdr), .int (iZ Mrs), .ref Mz, .ref Mr, .ref Mq, .int (iZ Mit), .int (iZ Mmk)])), (Ma, .inl (k 1, 5340, .inl Af)), (Mc, .inl (k 1, 2766, .inl Cfq32))] → va_S A s.heap H locs → lv_has ls 10 [(5, .int (iZ v5_32)), (0, .ref hm), (1, .int (iZ x1)), (2, .int (iZ x2)), (3, .int (iZ x3)), (4, .int (iZ x4))] → W p l e (rj 5 0 0) s m [.ref hm, .int (iZ x1), .int (iZ x2), .int (iZ x3), .int (iZ x4)].toArray below meth c H locs 0 0 (MQ below (QW (σ := ((Nat → Int) × (Nat → Int64) × (Nat → Nat → Int32) × (Nat → Nat → Int64))) (fun u => some (.int (iZ (u.1 0)))) (fun _ => True) (fun u => [(hm, .inr (12, [.ref Ma, .ref Mn, .int (iZ (u.1 1)), .long Mtp, .long Mbt, .ref Ms, .ref My, .ref Mt, .ref Mp, .ref Mx, .int (iZ Mtd), .int (iZ Msz), .int (iZ Mtk), .int (iZ Mfr), .int (iZ Men), .int (iZ Mva), .int (iZ Mfk), .int (iZ Mfp), .int (iZ Mfs), .int (iZ Mse), .int (iZ Mlt), .ref Mo, .int (iZ Mdp), .int (iZ Mct), .ref Mk, .ref Ml, .ref Mb, .ref Mh, .ref Mc, .int (iZ Mdr), .int (iZ Mrs), .ref Mz, .ref Mr, .ref Mq, .int (iZ Mit), .int (iZ Mmk)])), (Ma, .inl (k 1, 5340, .inl Af)), (Mc, .inl (k 1, 2766, .inl (u.2.2.1 0)))]) D A) [.ref hm, .int (iZ x1), .int (iZ x2), .int (iZ x3), .int (iZ x4)].toArray s 0 0 A) (F0 m 32 ls []) := by
        intro fu
        induction fu with
        | zero => intro v5_32 Cfq32 H locs ls hμ32 hi32 hcx hP hD hS hl; exact absurd hμ32 (by omega)
        | succ fu ih32 =>
          intro v5_32 Cfq32 H locs ls hμ32 hi32 hcx hP hD hS hl
          refine lv_iload hx hb dX12_cheap_32 (lv_at hl 0 rfl) ?_
          refine lv_sipush (v := iZ 2766) hx hb dX12_cheap_34 (by decide) ?_
          refine lv_icmp_ge (tgt := 55) hx hb dX12_cheap_37 (by decide) (fun c_8 => ?_) (fun c_8 => ?_)
          ·
            have c_8 := (zle (x := iZ 2766) (y := iZ v5_32) rfl rfl ⟨by omega, by omega⟩ ⟨by omega, by omega⟩).mp c_8
            obtain rfl : v5_32 = 2766 := by omega
            refine lv_aload_n hx hb dX12_cheap_55 rfl (lv_at hl 1 rfl) ?_
            refine va_get (D := D) (ci := 12) (v := .ref Mc) (C := RX12) (T := TX12) (N := 36) hx hb hts iX12 hown hK hP 0 rfl rfl 28 (by decide) (hts _ qf_X12_59) (fun _ h => h) rfl dX12_cheap_56 ?_
            refine lv_bipush (v := iZ 6) hx hb dX12_cheap_59 (by decide) ?_
            refine lv_iload_n hx hb dX12_cheap_61 rfl (lv_at hl 3 rfl) ?_
            refine lv_imul hx hb dX12_cheap_62 ?_
            refine lv_topi (fun x_9 ex_9 => ?_)
            obtain rfl : x_9 = iZ (6 * x2) := ex_9.trans (iZ_mul 6 x2)
            refine lv_iload_n hx hb dX12_cheap_63 rfl (lv_at hl 2 rfl) ?_
            refine lv_iadd hx hb dX12_cheap_64 ?_
            refine lv_topi (fun x_10 ex_10 => ?_)
            obtain rfl : x_10 = iZ ((6 * x2) + x1) := ex_10.trans (iZ_add (6 * x2) x1)
            refine lv_iconst (v := iZ 0) hx hb dX12_cheap_65 (by decide) ?_
            refine va_iast hx hb hK hP hD hS 2 1 rfl rfl (zin (e := ((6 * x2) + x1)) (n := 2766) ⟨by omega, by omega⟩ (by decide)) dX12_cheap_66 (fun H locs hP hD hS => ?_)
            obtain ⟨f_11, hf_11⟩ : ∃ gg9, gg9 = upd Cfq32 (iZ ((6 * x2) + x1)).toNatClampNeg (iZ 0) := ⟨_, rfl⟩
            rw [← hf_11] at hP hD
            have rgf_11 := rg_upd hcx hf_11 (by omega) ⟨by omega, by omega⟩ ⟨by omega, by omega⟩
            refine lv_ldc (own := RX12) (v := 1000000) hx hb hown (hts _ qk_X12_88) dX12_cheap_67 ?_
            refine W.eq (g2 := F0 m 69 ls [.int (iZ 1000000)]) rfl ?_
            refine lv_istore (lv' := [(5, .int (iZ 1000000)), (0, .ref hm), (1, .int (iZ x1)), (2, .int (iZ x2)), (3, .int (iZ x3)), (4, .int (iZ x4))]) hx hb dX12_cheap_69 hl (by decide) rfl (fun ls hl => ?_)
            refine lv_iload_n hx hb dX12_cheap_71 rfl (lv_at hl 3 rfl) ?_
            refine lv_istore (lv' := [(6, .int (iZ x2)), (5, .int (iZ 1000000)), (0, .ref hm), (1, .int (iZ x1)), (2, .int (iZ x2)), (3, .int (iZ x3)), (4, .int (iZ x4))]) hx hb dX12_cheap_72 hl (by decide) rfl (fun ls hl => ?_)
            have HL74 : ∀ (fu : Nat) (v5_74 : Int) (v6_74 : Int) (Cfq74 : Nat → Int32) (H : Heap) (locs : List Loc) (ls : Array Slot), ((460) + 2 - v6_74) < (fu : Int) → ((x2 ≤ v6_74 ∧ v6_74 ≤ (460) + 1)) → (0 ≤ v5_74 ∧ v5_74 ≤ 1000000) → (rgI Cfq74 0 1000000 2766) → va_P D vwCl [(hm, .inr (12, [.ref Ma, .ref Mn, .int (iZ Mst), .long Mtp, .long Mbt, .ref Ms, .ref My, .ref Mt, .ref Mp, .ref Mx, .int (iZ Mtd), .int (iZ Msz), .int (iZ Mtk), .int (iZ Mfr), .int (iZ Men), .int (iZ Mva), .int (iZ Mfk), .int (iZ Mfp), .int (iZ Mfs), .int (iZ Mse), .int (iZ Mlt), .ref Mo, .int (iZ Mdp), .int (iZ Mct), .ref Mk, .ref Ml, .ref Mb, .ref Mh, .ref Mc, .int (iZ Mdr), .int (iZ Mrs), .ref Mz, .ref Mr, .ref Mq, .int (iZ Mit), .int (iZ Mmk)])), (Ma, .inl (k 1, 5340, .inl Af)), (Mc, .inl (k 1, 2766, .inl Cfq74))] H → va_D A [(hm, .inr (12, [.ref Ma, .ref Mn, .int (iZ Mst), .long Mtp, .long Mbt, .ref Ms, .ref My, .ref Mt, .ref Mp, .ref Mx, .int (iZ Mtd), .int (iZ Msz), .int (iZ Mtk), .int (iZ Mfr), .int (iZ Men), .int (iZ Mva), .int (iZ Mfk), .int (iZ Mfp), .int (iZ Mfs), .int (iZ Mse), .int (iZ Mlt), .ref Mo, .int (iZ Mdp), .int (iZ Mct), .ref Mk, .ref Ml, .ref Mb, .ref Mh, .ref Mc, .int (iZ Mdr), .int (iZ Mrs), .ref Mz, .ref Mr, .ref Mq, .int (iZ Mit), .int (iZ Mmk)])), (Ma, .inl (k 1, 5340, .inl Af)), (Mc, .inl (k 1, 2766, .inl Cfq74))] → va_S A s.heap H locs → lv_has ls 10 [(6, .int (iZ v6_74)), (5, .int (iZ v5_74)), (0, .ref hm), (1, .int (iZ x1)), (2, .int (iZ x2)), (3, .int (iZ x3)), (4, .int (iZ x4))] → W p l e (rj 5 0 0) s m [.ref hm, .int (iZ x1), .int (iZ x2), .int (iZ x3), .int (iZ x4)].toArray below meth c H locs 0 0 (MQ below (QW (σ := ((Nat → Int) × (Nat → Int64) × (Nat → Nat → Int32) × (Nat → Nat → Int64))) (fun u => some (.int (iZ (u.1 0)))) (fun _ => True) (fun u => [(hm, .inr (12, [.ref Ma, .ref Mn, .int (iZ (u.1 1)), .long Mtp, .long Mbt, .ref Ms, .ref My, .ref Mt, .ref Mp, .ref Mx, .int (iZ Mtd), .int (iZ Msz), .int (iZ Mtk), .int (iZ Mfr), .int (iZ Men), .int (iZ Mva), .int (iZ Mfk), .int (iZ Mfp), .int (iZ Mfs), .int (iZ Mse), .int (iZ Mlt), .ref Mo, .int (iZ Mdp), .int (iZ Mct), .ref Mk, .ref Ml, .ref Mb, .ref Mh, .ref Mc, .int (iZ Mdr), .int (iZ Mrs), .ref Mz, .ref Mr, .ref Mq, .int (iZ Mit), .int (iZ Mmk)])), (Ma, .inl (k 1, 5340, .inl Af)), (Mc, .inl (k 1, 2766, .inl (u.2.2.1 0)))]) D A) [.ref hm, .int (iZ x1), .int (iZ x2), .int (iZ x3), .int (iZ x4)].toArray s 0 0 A) (F0 m 74 ls []) := by
              intro fu
              induction fu with
              | zero => intro v5_74 v6_74 Cfq74 H locs ls hμ74 hi74 hf0_74 rgc74 hP hD hS hl; exact absurd hμ74 (by omega)
              | succ fu ih74 =>
                intro v5_74 v6_74 Cfq74 H locs ls hμ74 hi74 hf0_74 rgc74 hP hD hS hl
                refine lv_iload hx hb dX12_cheap_74 (lv_at hl 0 rfl) ?_
                refine lv_iload hx hb dX12_cheap_76 (lv_at hl 6 rfl) ?_
                refine lv_icmp_gt (tgt := 253) hx hb dX12_cheap_78 (by decide) (fun c_12 => ?_) (fun c_12 => ?_)
                ·
                  have c_12 := (zlt (x := iZ x4) (y := iZ v6_74) rfl rfl ⟨by omega, by omega⟩ ⟨by omega, by omega⟩).mp c_12
                  refine lv_aload_n hx hb dX12_cheap_253 rfl (lv_at hl 2 rfl) ?_
                  refine lv_iload hx hb dX12_cheap_254 (lv_at hl 1 rfl) ?_
                  refine CWV (As := [.int (iZ v5_74)]) (rest := []) (wc := [(hm, .inr (12, [.ref Ma, .ref Mn, .int (iZ Mst), .long Mtp, .long Mbt, .ref Ms, .ref My, .ref Mt, .ref Mp, .ref Mx, .int (iZ Mtd), .int (iZ Msz), .int (iZ Mtk), .int (iZ Mfr), .int (iZ Men), .int (iZ Mva), .int (iZ Mfk), .int (iZ Mfp), .int (iZ Mfs), .int (iZ Mse), .int (iZ Mlt), .ref Mo, .int (iZ Mdp), .int (iZ Mct), .ref Mk, .ref Ml, .ref Mb, .ref Mh, .ref Mc, .int (iZ Mdr), .int (iZ Mrs), .ref Mz, .ref Mr, .ref Mq, .int (iZ Mit), .int (iZ Mmk)]))]) (wr := [(Ma, .inl (k 1, 5340, .inl Af)), (Mc, .inl (k 1, 2766, .inl Cfq74))]) hx hb hml hown hts hKK hP hD hS hA (m_orNever l D k hm Ma Mn Ms My Mt Mp Mx Mo Mk Ml Mb Mh Mc Mz Mr Mq Mst Mtd Msz Mtk Mfr Men Mva Mfk Mfp Mfs Mse Mlt Mdp Mct Mdr Mrs Mit Mmk Mtp Mbt v5_74 ⟨by omega, by omega⟩) ci_X12_orNever qm_X12_284 ⟨Nat.le_of_ble_eq_true rfl, Nat.le_of_ble_eq_true rfl⟩ ⟨Nat.le_of_ble_eq_true rfl, Nat.le_of_ble_eq_true rfl⟩ [0] [1, 2] rfl rfl rfl rfl rfl (by decide) 0 rfl rfl rfl hl.1 rfl (Nat.le_of_ble_eq_true rfl) dX12_cheap_256 (fun u_13 H locs hφ hP hD hS => ?_)
                  obtain ⟨I_14, L_15, F_16, G_17⟩ := u_13
                  have p_19 : ((v5_74 : Int) ≥ 1000000 ∧ (I_14 0) = -1 ∧ (I_14 1) = 6) ∨ ((v5_74 : Int) < 1000000 ∧ (I_14 0) = v5_74 ∧ (I_14 1) = 0) := hφ
                  refine W.eq (g2 := F0 m 259 ls [.int (iZ (I_14 0))]) rfl ?_
                  exact EWi hx hb hr hlocks hS (fun i => [(I_14 0), (I_14 1)].getD i 0, fun i => [0].getD i 0, fun i => [Cfq74].getD i (fun _ => 0), fun i => [].getD i (fun _ => 0)) rfl trivial (hP.sub [2, 0, 1] rfl) (hD.sub [2, 0, 1] rfl rfl) dX12_cheap_259
                ·
                  have c_12 := mt (zlt (x := iZ x4) (y := iZ v6_74) rfl rfl ⟨by omega, by omega⟩ ⟨by omega, by omega⟩).mpr c_12
                  refine lv_iload hx hb dX12_cheap_81 (lv_at hl 1 rfl) ?_
                  refine lv_aload_n hx hb dX12_cheap_83 rfl (lv_at hl 2 rfl) ?_
                  refine va_get (D := D) (ci := 12) (v := .ref Mc) (C := RX12) (T := TX12) (N := 36) hx hb hts iX12 hown hK hP 0 rfl rfl 28 (by decide) (hts _ qf_X12_59) (fun _ h => h) rfl dX12_cheap_84 ?_
                  refine lv_bipush (v := iZ 6) hx hb dX12_cheap_87 (by decide) ?_
                  refine lv_iload hx hb dX12_cheap_89 (lv_at hl 0 rfl) ?_
                  refine lv_imul hx hb dX12_cheap_91 ?_
                  refine lv_topi (fun x_20 ex_20 => ?_)
                  obtain rfl : x_20 = iZ (6 * v6_74) := ex_20.trans (iZ_mul 6 v6_74)
                  refine lv_iload_n hx hb dX12_cheap_92 rfl (lv_at hl 5 rfl) ?_
                  refine lv_iadd hx hb dX12_cheap_93 ?_
                  refine lv_topi (fun x_21 ex_21 => ?_)
                  obtain rfl : x_21 = iZ ((6 * v6_74) + x3) := ex_21.trans (iZ_add (6 * v6_74) x3)
                  refine va_iald hx hb hK hP 2 1 rfl rfl (zin (e := ((6 * v6_74) + x3)) (n := 2766) ⟨by omega, by omega⟩ (by decide)) dX12_cheap_94 ?_
                  refine lv_topi (fun x_22 ex_22 => ?_)
                  obtain rfl : x_22 = iZ (gz Cfq74 ((6 * v6_74) + x3)) := ex_22.trans (gz_eq ⟨by omega, by omega⟩)
                  have h_23 := rgc74 ((6 * v6_74) + x3) (by omega) (by omega)
                  refine va_mmin (rest := []) hx hb (by rw [hml]; exact hl.1.symm) (own := RX12) hown (hts _ qm_X12_137) (hts _ qt_yJ9_min_7cf53) (hts _ qz_J9) (hts _ qc_J9_min_7cf53) (Nat.le_of_ble_eq_true rfl) (Nat.le_of_ble_eq_true rfl) (Nat.le_of_ble_eq_true rfl) (Nat.le_of_ble_eq_true rfl) dX12_cheap_95 ?_
                  refine lv_topi (fun x_24 ex_24 => ?_)
                  obtain rfl : x_24 = iZ (min v5_74 (gz Cfq74 ((6 * v6_74) + x3))) := ex_24.trans (zmin ⟨by omega, by omega⟩ ⟨by omega, by omega⟩)
                  refine lv_istore (lv' := [(5, .int (iZ (min v5_74 (gz Cfq74 ((6 * v6_74) + x3))))), (6, .int (iZ v6_74)), (0, .ref hm), (1, .int (iZ x1)), (2, .int (iZ x2)), (3, .int (iZ x3)), (4, .int (iZ x4))]) hx hb dX12_cheap_98 hl (by decide) rfl (fun ls hl => ?_)
                  refine lv_iconst (v := iZ 0) hx hb dX12_cheap_100 (by decide) ?_
                  refine lv_istore (lv' := [(7, .int (iZ 0)), (5, .int (iZ (min v5_74 (gz Cfq74 ((6 * v6_74) + x3))))), (6, .int (iZ v6_74)), (0, .ref hm), (1, .int (iZ x1)), (2, .int (iZ x2)), (3, .int (iZ x3)), (4, .int (iZ x4))]) hx hb dX12_cheap_101 hl (by decide) rfl (fun ls hl => ?_)
                  have HL103 : ∀ (fu : Nat) (v7_103 : Int) (Cfq103 : Nat → Int32) (H : Heap) (locs : List Loc) (ls : Array Slot), ((gz Af 0) + 2 - v7_103) < (fu : Int) → ((0 ≤ v7_103 ∧ v7_103 ≤ (gz Af 0) + 1)) → (rgI Cfq103 0 1000000 2766) → va_P D vwCl [(hm, .inr (12, [.ref Ma, .ref Mn, .int (iZ Mst), .long Mtp, .long Mbt, .ref Ms, .ref My, .ref Mt, .ref Mp, .ref Mx, .int (iZ Mtd), .int (iZ Msz), .int (iZ Mtk), .int (iZ Mfr), .int (iZ Men), .int (iZ Mva), .int (iZ Mfk), .int (iZ Mfp), .int (iZ Mfs), .int (iZ Mse), .int (iZ Mlt), .ref Mo, .int (iZ Mdp), .int (iZ Mct), .ref Mk, .ref Ml, .ref Mb, .ref Mh, .ref Mc, .int (iZ Mdr), .int (iZ Mrs), .ref Mz, .ref Mr, .ref Mq, .int (iZ Mit), .int (iZ Mmk)])), (Ma, .inl (k 1, 5340, .inl Af)), (Mc, .inl (k 1, 2766, .inl Cfq103))] H → va_D A [(hm, .inr (12, [.ref Ma, .ref Mn, .int (iZ Mst), .long Mtp, .long Mbt, .ref Ms, .ref My, .ref Mt, .ref Mp, .ref Mx, .int (iZ Mtd), .int (iZ Msz), .int (iZ Mtk), .int (iZ Mfr), .int (iZ Men), .int (iZ Mva), .int (iZ Mfk), .int (iZ Mfp), .int (iZ Mfs), .int (iZ Mse), .int (iZ Mlt), .ref Mo, .int (iZ Mdp), .int (iZ Mct), .ref Mk, .ref Ml, .ref Mb, .ref Mh, .ref Mc, .int (iZ Mdr), .int (iZ Mrs), .ref Mz, .ref Mr, .ref Mq, .int (iZ Mit), .int (iZ Mmk)])), (Ma, .inl (k 1, 5340, .inl Af)), (Mc, .inl (k 1, 2766, .inl Cfq103))] → va_S A s.heap H locs → lv_has ls 10 [(7, .int (iZ v7_103)), (5, .int (iZ (min v5_74 (gz Cfq74 ((6 * v6_74) + x3))))), (6, .int (iZ v6_74)), (0, .ref hm), (1, .int (iZ x1)), (2, .int (iZ x2)), (3, .int (iZ x3)), (4, .int (iZ x4))] → W p l e (rj 5 0 0) s m [.ref hm, .int (iZ x1), .int (iZ x2), .int (iZ x3), .int (iZ x4)].toArray below meth c H locs 0 0 (MQ below (QW (σ := ((Nat → Int) × (Nat → Int64) × (Nat → Nat → Int32) × (Nat → Nat → Int64))) (fun u => some (.int (iZ (u.1 0)))) (fun _ => True) (fun u => [(hm, .inr (12, [.ref Ma, .ref Mn, .int (iZ (u.1 1)), .long Mtp, .long Mbt, .ref Ms, .ref My, .ref Mt, .ref Mp, .ref Mx, .int (iZ Mtd), .int (iZ Msz), .int (iZ Mtk), .int (iZ Mfr), .int (iZ Men), .int (iZ Mva), .int (iZ Mfk), .int (iZ Mfp), .int (iZ Mfs), .int (iZ Mse), .int (iZ Mlt), .ref Mo, .int (iZ Mdp), .int (iZ Mct), .ref Mk, .ref Ml, .ref Mb, .ref Mh, .ref Mc, .int (iZ Mdr), .int (iZ Mrs), .ref Mz, .ref Mr, .ref Mq, .int (iZ Mit), .int (iZ Mmk)])), (Ma, .inl (k 1, 5340, .inl Af)), (Mc, .inl (k 1, 2766, .inl (u.2.2.1 0)))]) D A) [.ref hm, .int (iZ x1), .int (iZ x2), .int (iZ x3), .int (iZ x4)].toArray s 0 0 A) (F0 m 103 ls []) := by
                    intro fu
                    induction fu with
                    | zero => intro v7_103 Cfq103 H locs ls hμ103 hi103 rgc103 hP hD hS hl; exact absurd hμ103 (by omega)
                    | succ fu ih103 =>
                      intro v7_103 Cfq103 H locs ls hμ103 hi103 rgc103 hP hD hS hl
                      refine lv_iload hx hb dX12_cheap_103 (lv_at hl 0 rfl) ?_
                      refine lv_aload_n hx hb dX12_cheap_105 rfl (lv_at hl 3 rfl) ?_
                      refine va_get (D := D) (ci := 12) (v := .ref Ma) (C := RX12) (T := TX12) (N := 36) hx hb hts iX12 hown hK hP 0 rfl rfl 0 (by decide) (hts _ qf_X12_7) (fun _ h => h) rfl dX12_cheap_106 ?_
                      refine lv_iconst (v := iZ 0) hx hb dX12_cheap_109 (by decide) ?_
                      refine va_iald hx hb hK hP 1 1 rfl rfl (zin (e := 0) (n := 5340) ⟨by omega, by omega⟩ (by decide)) dX12_cheap_110 ?_
                      refine lv_topi (fun x_25 ex_25 => ?_)
                      obtain rfl : x_25 = iZ (gz Af 0) := ex_25.trans (gz_eq ⟨by omega, by omega⟩)
                      have h_26 := gz_rg Af 0
                      refine lv_icmp_ge (tgt := 247) hx hb dX12_cheap_111 (by decide) (fun c_27 => ?_) (fun c_27 => ?_)
                      ·
                        have c_27 := (zle (x := iZ (gz Af 0)) (y := iZ v7_103) rfl rfl ⟨by omega, by omega⟩ ⟨by omega, by omega⟩).mp c_27
                        refine lv_iinc (v := iZ (v6_74 + 1)) (lv' := [(6, .int (iZ (v6_74 + 1))), (7, .int (iZ v7_103)), (5, .int (iZ (min v5_74 (gz Cfq74 ((6 * v6_74) + x3))))), (0, .ref hm), (1, .int (iZ x1)), (2, .int (iZ x2)), (3, .int (iZ x3)), (4, .int (iZ x4))]) hx hb dX12_cheap_247 hl (k := 2) rfl (iZ_add v6_74 1) (by decide) rfl (fun ls hl => ?_)
                        refine lv_goto (tgt := 74) hx hb dX12_cheap_250 (by decide) ?_
                        exact ih74  (min v5_74 (gz Cfq74 ((6 * v6_74) + x3))) (v6_74 + 1) Cfq103 _ _ _ (by omega) (show (x2 ≤ (v6_74 + 1) ∧ (v6_74 + 1) ≤ (460) + 1) from ⟨by omega, by omega⟩) (show 0 ≤ (min v5_74 (gz Cfq74 ((6 * v6_74) + x3))) ∧ (min v5_74 (gz Cfq74 ((6 * v6_74) + x3))) ≤ 1000000 from (by omega)) (show rgI Cfq103 0 1000000 2766 from rgc103) (hP.sub [0, 1, 2] rfl) (hD.sub [0, 1, 2] rfl rfl) hS (lv_sub hl [0, 2, 3, 4, 5, 6, 7] rfl)
                      ·
                        have c_27 := mt (zle (x := iZ (gz Af 0)) (y := iZ v7_103) rfl rfl ⟨by omega, by omega⟩ ⟨by omega, by omega⟩).mpr c_27
                        refine lv_aload_n hx hb dX12_cheap_114 rfl (lv_at hl 3 rfl) ?_
                        refine va_get (D := D) (ci := 12) (v := .ref Mc) (C := RX12) (T := TX12) (N := 36) hx hb hts iX12 hown hK hP 0 rfl rfl 28 (by decide) (hts _ qf_X12_59) (fun _ h => h) rfl dX12_cheap_115 ?_
                        refine lv_bipush (v := iZ 6) hx hb dX12_cheap_118 (by decide) ?_
                        refine lv_iload hx hb dX12_cheap_120 (lv_at hl 2 rfl) ?_
                        refine lv_imul hx hb dX12_cheap_122 ?_
                        refine lv_topi (fun x_28 ex_28 => ?_)
                        obtain rfl : x_28 = iZ (6 * v6_74) := ex_28.trans (iZ_mul 6 v6_74)
                        refine lv_iload hx hb dX12_cheap_123 (lv_at hl 0 rfl) ?_
                        refine lv_iadd hx hb dX12_cheap_125 ?_
                        refine lv_topi (fun x_29 ex_29 => ?_)
                        obtain rfl : x_29 = iZ ((6 * v6_74) + v7_103) := ex_29.trans (iZ_add (6 * v6_74) v7_103)
                        refine va_iald hx hb hK hP 2 1 rfl rfl (zin (e := ((6 * v6_74) + v7_103)) (n := 2766) ⟨by omega, by omega⟩ (by decide)) dX12_cheap_126 ?_
                        refine lv_topi (fun x_30 ex_30 => ?_)
                        obtain rfl : x_30 = iZ (gz Cfq103 ((6 * v6_74) + v7_103)) := ex_30.trans (gz_eq ⟨by omega, by omega⟩)
                        have h_31 := rgc103 ((6 * v6_74) + v7_103) (by omega) (by omega)
                        refine lv_ldc (own := RX12) (v := 1000000) hx hb hown (hts _ qk_X12_88) dX12_cheap_127 ?_
                        refine W.eq (g2 := F0 m 129 ls [.int (iZ 1000000), .int (iZ (gz Cfq103 ((6 * v6_74) + v7_103)))]) rfl ?_
                        refine lv_icmp_ne (tgt := 135) hx hb dX12_cheap_129 (by decide) (fun c_32 => ?_) (fun c_32 => ?_)
                        ·
                          have c_32 := mt (zeq (x := iZ (gz Cfq103 ((6 * v6_74) + v7_103))) (y := iZ 1000000) rfl rfl ⟨by omega, by omega⟩ ⟨by omega, by omega⟩).mpr c_32
                          refine lv_iconst (v := iZ 0) hx hb dX12_cheap_135 (by decide) ?_
                          refine lv_istore (lv' := [(8, .int (iZ 0)), (7, .int (iZ v7_103)), (5, .int (iZ (min v5_74 (gz Cfq74 ((6 * v6_74) + x3))))), (6, .int (iZ v6_74)), (0, .ref hm), (1, .int (iZ x1)), (2, .int (iZ x2)), (3, .int (iZ x3)), (4, .int (iZ x4))]) hx hb dX12_cheap_136 hl (by decide) rfl (fun ls hl => ?_)
                          have HL138 : ∀ (fu : Nat) (v8_138 : Int) (Cfq138 : Nat → Int32) (H : Heap) (locs : List Loc) (ls : Array Slot), ((gz Af 0) + 2 - v8_138) < (fu : Int) → ((0 ≤ v8_138 ∧ v8_138 ≤ (gz Af 0) + 1)) → (rgI Cfq138 0 1000000 2766) → va_P D vwCl [(hm, .inr (12, [.ref Ma, .ref Mn, .int (iZ Mst), .long Mtp, .long Mbt, .ref Ms, .ref My, .ref Mt, .ref Mp, .ref Mx, .int (iZ Mtd), .int (iZ Msz), .int (iZ Mtk), .int (iZ Mfr), .int (iZ Men), .int (iZ Mva), .int (iZ Mfk), .int (iZ Mfp), .int (iZ Mfs), .int (iZ Mse), .int (iZ Mlt), .ref Mo, .int (iZ Mdp), .int (iZ Mct), .ref Mk, .ref Ml, .ref Mb, .ref Mh, .ref Mc, .int (iZ Mdr), .int (iZ Mrs), .ref Mz, .ref Mr, .ref Mq, .int (iZ Mit), .int (iZ Mmk)])), (Ma, .inl (k 1, 5340, .inl Af)), (Mc, .inl (k 1, 2766, .inl Cfq138))] H → va_D A [(hm, .inr (12, [.ref Ma, .ref Mn, .int (iZ Mst), .long Mtp, .long Mbt, .ref Ms, .ref My, .ref Mt, .ref Mp, .ref Mx, .int (iZ Mtd), .int (iZ Msz), .int (iZ Mtk), .int (iZ Mfr), .int (iZ Men), .int (iZ Mva), .int (iZ Mfk), .int (iZ Mfp), .int (iZ Mfs), .int (iZ Mse), .int (iZ Mlt), .ref Mo, .int (iZ Mdp), .int (iZ Mct), .ref Mk, .ref Ml, .ref Mb, .ref Mh, .ref Mc, .int (iZ Mdr), .int (iZ Mrs), .ref Mz, .ref Mr, .ref Mq, .int (iZ Mit), .int (iZ Mmk)])), (Ma, .inl (k 1, 5340, .inl Af)), (Mc, .inl (k 1, 2766, .inl Cfq138))] → va_S A s.heap H locs → lv_has ls 10 [(8, .int (iZ v8_138)), (7, .int (iZ v7_103)), (5, .int (iZ (min v5_74 (gz Cfq74 ((6 * v6_74) + x3))))), (6, .int (iZ v6_74)), (0, .ref hm), (1, .int (iZ x1)), (2, .int (iZ x2)), (3, .int (iZ x3)), (4, .int (iZ x4))] → W p l e (rj 5 0 0) s m [.ref hm, .int (iZ x1), .int (iZ x2), .int (iZ x3), .int (iZ x4)].toArray below meth c H locs 0 0 (MQ below (QW (σ := ((Nat → Int) × (Nat → Int64) × (Nat → Nat → Int32) × (Nat → Nat → Int64))) (fun u => some (.int (iZ (u.1 0)))) (fun _ => True) (fun u => [(hm, .inr (12, [.ref Ma, .ref Mn, .int (iZ (u.1 1)), .long Mtp, .long Mbt, .ref Ms, .ref My, .ref Mt, .ref Mp, .ref Mx, .int (iZ Mtd), .int (iZ Msz), .int (iZ Mtk), .int (iZ Mfr), .int (iZ Men), .int (iZ Mva), .int (iZ Mfk), .int (iZ Mfp), .int (iZ Mfs), .int (iZ Mse), .int (iZ Mlt), .ref Mo, .int (iZ Mdp), .int (iZ Mct), .ref Mk, .ref Ml, .ref Mb, .ref Mh, .ref Mc, .int (iZ Mdr), .int (iZ Mrs), .ref Mz, .ref Mr, .ref Mq, .int (iZ Mit), .int (iZ Mmk)])), (Ma, .inl (k 1, 5340, .inl Af)), (Mc, .inl (k 1, 2766, .inl (u.2.2.1 0)))]) D A) [.ref hm, .int (iZ x1), .int (iZ x2), .int (iZ x3), .int (iZ x4)].toArray s 0 0 A) (F0 m 138 ls []) := by
                            intro fu
                            induction fu with
                            | zero => intro v8_138 Cfq138 H locs ls hμ138 hi138 rgc138 hP hD hS hl; exact absurd hμ138 (by omega)
                            | succ fu ih138 =>
                              intro v8_138 Cfq138 H locs ls hμ138 hi138 rgc138 hP hD hS hl
                              refine lv_iload hx hb dX12_cheap_138 (lv_at hl 0 rfl) ?_
                              refine lv_aload_n hx hb dX12_cheap_140 rfl (lv_at hl 4 rfl) ?_
                              refine va_get (D := D) (ci := 12) (v := .ref Ma) (C := RX12) (T := TX12) (N := 36) hx hb hts iX12 hown hK hP 0 rfl rfl 0 (by decide) (hts _ qf_X12_7) (fun _ h => h) rfl dX12_cheap_141 ?_
                              refine lv_iconst (v := iZ 0) hx hb dX12_cheap_144 (by decide) ?_
                              refine va_iald hx hb hK hP 1 1 rfl rfl (zin (e := 0) (n := 5340) ⟨by omega, by omega⟩ (by decide)) dX12_cheap_145 ?_
                              refine lv_topi (fun x_33 ex_33 => ?_)
                              obtain rfl : x_33 = iZ (gz Af 0) := ex_33.trans (gz_eq ⟨by omega, by omega⟩)
                              have h_34 := gz_rg Af 0
                              refine lv_icmp_ge (tgt := 241) hx hb dX12_cheap_146 (by decide) (fun c_35 => ?_) (fun c_35 => ?_)
                              ·
                                have c_35 := (zle (x := iZ (gz Af 0)) (y := iZ v8_138) rfl rfl ⟨by omega, by omega⟩ ⟨by omega, by omega⟩).mp c_35
                                refine lv_iinc (v := iZ (v7_103 + 1)) (lv' := [(7, .int (iZ (v7_103 + 1))), (8, .int (iZ v8_138)), (5, .int (iZ (min v5_74 (gz Cfq74 ((6 * v6_74) + x3))))), (6, .int (iZ v6_74)), (0, .ref hm), (1, .int (iZ x1)), (2, .int (iZ x2)), (3, .int (iZ x3)), (4, .int (iZ x4))]) hx hb dX12_cheap_241 hl (k := 1) rfl (iZ_add v7_103 1) (by decide) rfl (fun ls hl => ?_)
                                refine lv_goto (tgt := 103) hx hb dX12_cheap_244 (by decide) ?_
                                exact ih103  (v7_103 + 1) Cfq138 _ _ _ (by omega) (show (0 ≤ (v7_103 + 1) ∧ (v7_103 + 1) ≤ (gz Af 0) + 1) from ⟨by omega, by omega⟩) (show rgI Cfq138 0 1000000 2766 from rgc138) (hP.sub [0, 1, 2] rfl) (hD.sub [0, 1, 2] rfl rfl) hS (lv_sub hl [0, 2, 3, 4, 5, 6, 7, 8] rfl)
                              ·
                                have c_35 := mt (zle (x := iZ (gz Af 0)) (y := iZ v8_138) rfl rfl ⟨by omega, by omega⟩ ⟨by omega, by omega⟩).mpr c_35
                                refine lv_iload hx hb dX12_cheap_149 (lv_at hl 0 rfl) ?_
                                refine lv_iload hx hb dX12_cheap_151 (lv_at hl 1 rfl) ?_
                                refine lv_icmp_ne (tgt := 161) hx hb dX12_cheap_153 (by decide) (fun c_36 => ?_) (fun c_36 => ?_)
                                ·
                                  have c_36 := mt (zeq (x := iZ v8_138) (y := iZ v7_103) rfl rfl ⟨by omega, by omega⟩ ⟨by omega, by omega⟩).mpr c_36
                                  refine lv_aload_n hx hb dX12_cheap_161 rfl (lv_at hl 4 rfl) ?_
                                  refine lv_iload hx hb dX12_cheap_162 (lv_at hl 1 rfl) ?_
                                  refine lv_iload hx hb dX12_cheap_164 (lv_at hl 3 rfl) ?_
                                  refine lv_iload hx hb dX12_cheap_166 (lv_at hl 0 rfl) ?_
                                  refine CPV (As := [.int (iZ v7_103), .int (iZ v6_74), .int (iZ v8_138)]) (rest := []) hx hb hml hown hts hKK (hP.sub (ws' := [(hm, .inr (12, [.ref Ma, .ref Mn, .int (iZ Mst), .long Mtp, .long Mbt, .ref Ms, .ref My, .ref Mt, .ref Mp, .ref Mx, .int (iZ Mtd), .int (iZ Msz), .int (iZ Mtk), .int (iZ Mfr), .int (iZ Men), .int (iZ Mva), .int (iZ Mfk), .int (iZ Mfp), .int (iZ Mfs), .int (iZ Mse), .int (iZ Mlt), .ref Mo, .int (iZ Mdp), .int (iZ Mct), .ref Mk, .ref Ml, .ref Mb, .ref Mh, .ref Mc, .int (iZ Mdr), .int (iZ Mrs), .ref Mz, .ref Mr, .ref Mq, .int (iZ Mit), .int (iZ Mmk)])), (Ma, .inl (k 1, 5340, .inl Af))]) [0, 1] rfl) (m_arrival l D k ([.ref Ma, .ref Mn, .int (iZ Mst), .long Mtp, .long Mbt, .ref Ms, .ref My, .ref Mt, .ref Mp, .ref Mx, .int (iZ Mtd), .int (iZ Msz), .int (iZ Mtk), .int (iZ Mfr), .int (iZ Men), .int (iZ Mva), .int (iZ Mfk), .int (iZ Mfp), .int (iZ Mfs), .int (iZ Mse), .int (iZ Mlt), .ref Mo, .int (iZ Mdp), .int (iZ Mct), .ref Mk, .ref Ml, .ref Mb, .ref Mh, .ref Mc, .int (iZ Mdr), .int (iZ Mrs), .ref Mz, .ref Mr, .ref Mq, .int (iZ Mit), .int (iZ Mmk)]) hm Ma Af v7_103 v6_74 v8_138 rfl hM ⟨by omega, by omega⟩ ⟨by omega, by omega⟩ ⟨by omega, by omega⟩) ci_X12_arrival qm_X12_280 ⟨Nat.le_of_ble_eq_true rfl, Nat.le_of_ble_eq_true rfl⟩ ⟨Nat.le_of_ble_eq_true rfl, Nat.le_of_ble_eq_true rfl⟩ 0 rfl rfl rfl hl.1 rfl (Nat.le_of_ble_eq_true rfl) dX12_cheap_168 (fun z_37 hz_37 => ?_)
                                  obtain ⟨ez_37, az_37⟩ := hz_37
                                  refine lv_istore (lv' := [(9, .int (iZ z_37)), (8, .int (iZ v8_138)), (7, .int (iZ v7_103)), (5, .int (iZ (min v5_74 (gz Cfq74 ((6 * v6_74) + x3))))), (6, .int (iZ v6_74)), (0, .ref hm), (1, .int (iZ x1)), (2, .int (iZ x2)), (3, .int (iZ x3)), (4, .int (iZ x4))]) hx hb dX12_cheap_171 hl (by decide) rfl (fun ls hl => ?_)
                                  refine lv_iload hx hb dX12_cheap_173 (lv_at hl 0 rfl) ?_
                                  refine lv_sipush (v := iZ 460) hx hb dX12_cheap_175 (by decide) ?_
                                  refine lv_icmp_gt (tgt := 235) hx hb dX12_cheap_178 (by decide) (fun c_38 => ?_) (fun c_38 => ?_)
                                  ·
                                    have c_38 := (zlt (x := iZ 460) (y := iZ z_37) rfl rfl ⟨by omega, by omega⟩ ⟨by omega, by omega⟩).mp c_38
                                    refine lv_iinc (v := iZ (v8_138 + 1)) (lv' := [(8, .int (iZ (v8_138 + 1))), (9, .int (iZ z_37)), (7, .int (iZ v7_103)), (5, .int (iZ (min v5_74 (gz Cfq74 ((6 * v6_74) + x3))))), (6, .int (iZ v6_74)), (0, .ref hm), (1, .int (iZ x1)), (2, .int (iZ x2)), (3, .int (iZ x3)), (4, .int (iZ x4))]) hx hb dX12_cheap_235 hl (k := 1) rfl (iZ_add v8_138 1) (by decide) rfl (fun ls hl => ?_)
                                    refine lv_goto (tgt := 138) hx hb dX12_cheap_238 (by decide) ?_
                                    exact ih138  (v8_138 + 1) Cfq138 _ _ _ (by omega) (show (0 ≤ (v8_138 + 1) ∧ (v8_138 + 1) ≤ (gz Af 0) + 1) from ⟨by omega, by omega⟩) (show rgI Cfq138 0 1000000 2766 from rgc138) (hP.sub [0, 1, 2] rfl) (hD.sub [0, 1, 2] rfl rfl) hS (lv_sub hl [0, 2, 3, 4, 5, 6, 7, 8, 9] rfl)
                                  ·
                                    have c_38 := mt (zlt (x := iZ 460) (y := iZ z_37) rfl rfl ⟨by omega, by omega⟩ ⟨by omega, by omega⟩).mpr c_38
                                    refine lv_aload_n hx hb dX12_cheap_181 rfl (lv_at hl 5 rfl) ?_
                                    refine va_get (D := D) (ci := 12) (v := .ref Mc) (C := RX12) (T := TX12) (N := 36) hx hb hts iX12 hown hK hP 0 rfl rfl 28 (by decide) (hts _ qf_X12_59) (fun _ h => h) rfl dX12_cheap_182 ?_
                                    refine lv_bipush (v := iZ 6) hx hb dX12_cheap_185 (by decide) ?_
                                    refine lv_iload hx hb dX12_cheap_187 (lv_at hl 0 rfl) ?_
                                    refine lv_imul hx hb dX12_cheap_189 ?_
                                    refine lv_topi (fun x_39 ex_39 => ?_)
                                    obtain rfl : x_39 = iZ (6 * z_37) := ex_39.trans (iZ_mul 6 z_37)
                                    refine lv_iload hx hb dX12_cheap_190 (lv_at hl 1 rfl) ?_
                                    refine lv_iadd hx hb dX12_cheap_192 ?_
                                    refine lv_topi (fun x_40 ex_40 => ?_)
                                    obtain rfl : x_40 = iZ ((6 * z_37) + v8_138) := ex_40.trans (iZ_add (6 * z_37) v8_138)
                                    refine lv_aload_n hx hb dX12_cheap_193 rfl (lv_at hl 5 rfl) ?_
                                    refine va_get (D := D) (ci := 12) (v := .ref Mc) (C := RX12) (T := TX12) (N := 36) hx hb hts iX12 hown hK hP 0 rfl rfl 28 (by decide) (hts _ qf_X12_59) (fun _ h => h) rfl dX12_cheap_194 ?_
                                    refine lv_bipush (v := iZ 6) hx hb dX12_cheap_197 (by decide) ?_
                                    refine lv_iload hx hb dX12_cheap_199 (lv_at hl 0 rfl) ?_
                                    refine lv_imul hx hb dX12_cheap_201 ?_
                                    refine lv_topi (fun x_41 ex_41 => ?_)
                                    obtain rfl : x_41 = iZ (6 * z_37) := ex_41.trans (iZ_mul 6 z_37)
                                    refine lv_iload hx hb dX12_cheap_202 (lv_at hl 1 rfl) ?_
                                    refine lv_iadd hx hb dX12_cheap_204 ?_
                                    refine lv_topi (fun x_42 ex_42 => ?_)
                                    obtain rfl : x_42 = iZ ((6 * z_37) + v8_138) := ex_42.trans (iZ_add (6 * z_37) v8_138)
                                    refine va_iald hx hb hK hP 2 1 rfl rfl (zin (e := ((6 * z_37) + v8_138)) (n := 2766) ⟨by omega, by omega⟩ (by decide)) dX12_cheap_205 ?_
                                    refine lv_topi (fun x_43 ex_43 => ?_)
                                    obtain rfl : x_43 = iZ (gz Cfq138 ((6 * z_37) + v8_138)) := ex_43.trans (gz_eq ⟨by omega, by omega⟩)
                                    have h_44 := rgc138 ((6 * z_37) + v8_138) (by omega) (by omega)
                                    refine lv_aload_n hx hb dX12_cheap_206 rfl (lv_at hl 5 rfl) ?_
                                    refine va_get (D := D) (ci := 12) (v := .ref Mc) (C := RX12) (T := TX12) (N := 36) hx hb hts iX12 hown hK hP 0 rfl rfl 28 (by decide) (hts _ qf_X12_59) (fun _ h => h) rfl dX12_cheap_207 ?_
                                    refine lv_bipush (v := iZ 6) hx hb dX12_cheap_210 (by decide) ?_
                                    refine lv_iload hx hb dX12_cheap_212 (lv_at hl 4 rfl) ?_
                                    refine lv_imul hx hb dX12_cheap_214 ?_
                                    refine lv_topi (fun x_45 ex_45 => ?_)
                                    obtain rfl : x_45 = iZ (6 * v6_74) := ex_45.trans (iZ_mul 6 v6_74)
                                    refine lv_iload hx hb dX12_cheap_215 (lv_at hl 2 rfl) ?_
                                    refine lv_iadd hx hb dX12_cheap_217 ?_
                                    refine lv_topi (fun x_46 ex_46 => ?_)
                                    obtain rfl : x_46 = iZ ((6 * v6_74) + v7_103) := ex_46.trans (iZ_add (6 * v6_74) v7_103)
                                    refine va_iald hx hb hK hP 2 1 rfl rfl (zin (e := ((6 * v6_74) + v7_103)) (n := 2766) ⟨by omega, by omega⟩ (by decide)) dX12_cheap_218 ?_
                                    refine lv_topi (fun x_47 ex_47 => ?_)
                                    obtain rfl : x_47 = iZ (gz Cfq138 ((6 * v6_74) + v7_103)) := ex_47.trans (gz_eq ⟨by omega, by omega⟩)
                                    have h_48 := rgc138 ((6 * v6_74) + v7_103) (by omega) (by omega)
                                    refine lv_iload hx hb dX12_cheap_219 (lv_at hl 0 rfl) ?_
                                    refine lv_iload hx hb dX12_cheap_221 (lv_at hl 4 rfl) ?_
                                    refine lv_isub hx hb dX12_cheap_223 ?_
                                    refine lv_topi (fun x_49 ex_49 => ?_)
                                    obtain rfl : x_49 = iZ (z_37 - v6_74) := ex_49.trans (iZ_sub z_37 v6_74)
                                    refine lv_iload hx hb dX12_cheap_224 (lv_at hl 0 rfl) ?_
                                    refine lv_iload hx hb dX12_cheap_226 (lv_at hl 4 rfl) ?_
                                    refine lv_isub hx hb dX12_cheap_228 ?_
                                    refine lv_topi (fun x_50 ex_50 => ?_)
                                    obtain rfl : x_50 = iZ (z_37 - v6_74) := ex_50.trans (iZ_sub z_37 v6_74)
                                    have hm_229 := mul_b (a := (z_37 - v6_74)) (b := (z_37 - v6_74)) (A := 20) (B := 20) (by omega) (by omega) (by omega) (by omega)
                                    refine lv_imul hx hb dX12_cheap_229 ?_
                                    refine lv_topi (fun x_51 ex_51 => ?_)
                                    obtain rfl : x_51 = iZ ((z_37 - v6_74) * (z_37 - v6_74)) := ex_51.trans (iZ_mul (z_37 - v6_74) (z_37 - v6_74))
                                    refine lv_iadd hx hb dX12_cheap_230 ?_
                                    refine lv_topi (fun x_52 ex_52 => ?_)
                                    obtain rfl : x_52 = iZ ((gz Cfq138 ((6 * v6_74) + v7_103)) + ((z_37 - v6_74) * (z_37 - v6_74))) := ex_52.trans (iZ_add (gz Cfq138 ((6 * v6_74) + v7_103)) ((z_37 - v6_74) * (z_37 - v6_74)))
                                    refine va_mmin (rest := [.int (iZ ((6 * z_37) + v8_138)), .ref Mc]) hx hb (by rw [hml]; exact hl.1.symm) (own := RX12) hown (hts _ qm_X12_137) (hts _ qt_yJ9_min_7cf53) (hts _ qz_J9) (hts _ qc_J9_min_7cf53) (Nat.le_of_ble_eq_true rfl) (Nat.le_of_ble_eq_true rfl) (Nat.le_of_ble_eq_true rfl) (Nat.le_of_ble_eq_true rfl) dX12_cheap_231 ?_
                                    refine lv_topi (fun x_53 ex_53 => ?_)
                                    obtain rfl : x_53 = iZ (min (gz Cfq138 ((6 * z_37) + v8_138)) ((gz Cfq138 ((6 * v6_74) + v7_103)) + ((z_37 - v6_74) * (z_37 - v6_74)))) := ex_53.trans (zmin ⟨by omega, by omega⟩ ⟨by omega, by omega⟩)
                                    refine va_iast hx hb hK hP hD hS 2 1 rfl rfl (zin (e := ((6 * z_37) + v8_138)) (n := 2766) ⟨by omega, by omega⟩ (by decide)) dX12_cheap_234 (fun H locs hP hD hS => ?_)
                                    obtain ⟨f_54, hf_54⟩ : ∃ gg9, gg9 = upd Cfq138 (iZ ((6 * z_37) + v8_138)).toNatClampNeg (iZ (min (gz Cfq138 ((6 * z_37) + v8_138)) ((gz Cfq138 ((6 * v6_74) + v7_103)) + ((z_37 - v6_74) * (z_37 - v6_74))))) := ⟨_, rfl⟩
                                    rw [← hf_54] at hP hD
                                    have rgf_54 := rg_upd rgc138 hf_54 (by omega) ⟨by omega, by omega⟩ ⟨by omega, by omega⟩
                                    refine lv_iinc (v := iZ (v8_138 + 1)) (lv' := [(8, .int (iZ (v8_138 + 1))), (9, .int (iZ z_37)), (7, .int (iZ v7_103)), (5, .int (iZ (min v5_74 (gz Cfq74 ((6 * v6_74) + x3))))), (6, .int (iZ v6_74)), (0, .ref hm), (1, .int (iZ x1)), (2, .int (iZ x2)), (3, .int (iZ x3)), (4, .int (iZ x4))]) hx hb dX12_cheap_235 hl (k := 1) rfl (iZ_add v8_138 1) (by decide) rfl (fun ls hl => ?_)
                                    refine lv_goto (tgt := 138) hx hb dX12_cheap_238 (by decide) ?_
                                    exact ih138  (v8_138 + 1) f_54 _ _ _ (by omega) (show (0 ≤ (v8_138 + 1) ∧ (v8_138 + 1) ≤ (gz Af 0) + 1) from ⟨by omega, by omega⟩) (show rgI f_54 0 1000000 2766 from rgf_54) (hP.sub [0, 1, 2] rfl) (hD.sub [0, 1, 2] rfl rfl) hS (lv_sub hl [0, 2, 3, 4, 5, 6, 7, 8, 9] rfl)
                                ·
                                  have c_36 := (zeq (x := iZ v8_138) (y := iZ v7_103) rfl rfl ⟨by omega, by omega⟩ ⟨by omega, by omega⟩).mp c_36
                                  refine lv_ldc (own := RX12) (v := 1000000) hx hb hown (hts _ qk_X12_88) dX12_cheap_156 ?_
                                  refine W.eq (g2 := F0 m 158 ls [.int (iZ 1000000)]) rfl ?_
                                  refine lv_goto (tgt := 171) hx hb dX12_cheap_158 (by decide) ?_
                                  refine lv_istore (lv' := [(9, .int (iZ 1000000)), (8, .int (iZ v8_138)), (7, .int (iZ v7_103)), (5, .int (iZ (min v5_74 (gz Cfq74 ((6 * v6_74) + x3))))), (6, .int (iZ v6_74)), (0, .ref hm), (1, .int (iZ x1)), (2, .int (iZ x2)), (3, .int (iZ x3)), (4, .int (iZ x4))]) hx hb dX12_cheap_171 hl (by decide) rfl (fun ls hl => ?_)
                                  refine lv_iload hx hb dX12_cheap_173 (lv_at hl 0 rfl) ?_
                                  refine lv_sipush (v := iZ 460) hx hb dX12_cheap_175 (by decide) ?_
                                  refine lv_icmp_gt (tgt := 235) hx hb dX12_cheap_178 (by decide) (fun _ => ?_) (fun c => absurd (by decide) c)
                                  refine lv_iinc (v := iZ (v8_138 + 1)) (lv' := [(8, .int (iZ (v8_138 + 1))), (9, .int (iZ 1000000)), (7, .int (iZ v7_103)), (5, .int (iZ (min v5_74 (gz Cfq74 ((6 * v6_74) + x3))))), (6, .int (iZ v6_74)), (0, .ref hm), (1, .int (iZ x1)), (2, .int (iZ x2)), (3, .int (iZ x3)), (4, .int (iZ x4))]) hx hb dX12_cheap_235 hl (k := 1) rfl (iZ_add v8_138 1) (by decide) rfl (fun ls hl => ?_)
                                  refine lv_goto (tgt := 138) hx hb dX12_cheap_238 (by decide) ?_
                                  exact ih138  (v8_138 + 1) Cfq138 _ _ _ (by omega) (show (0 ≤ (v8_138 + 1) ∧ (v8_138 + 1) ≤ (gz Af 0) + 1) from ⟨by omega, by omega⟩) (show rgI Cfq138 0 1000000 2766 from rgc138) (hP.sub [0, 1, 2] rfl) (hD.sub [0, 1, 2] rfl rfl) hS (lv_sub hl [0, 2, 3, 4, 5, 6, 7, 8, 9] rfl)
                          exact HL138 10 0 Cfq103 _ _ _ (by omega) (show (0 ≤ 0 ∧ 0 ≤ (gz Af 0) + 1) from ⟨by omega, by omega⟩) (show rgI Cfq103 0 1000000 2766 from rgc103) (hP.sub [0, 1, 2] rfl) (hD.sub [0, 1, 2] rfl rfl) hS (lv_sub hl [0, 1, 2, 3, 4, 5, 6, 7, 8] rfl)
                        ·
                          have c_32 := (zeq (x := iZ (gz Cfq103 ((6 * v6_74) + v7_103))) (y := iZ 1000000) rfl rfl ⟨by omega, by omega⟩ ⟨by omega, by omega⟩).mp c_32
                          refine lv_goto (tgt := 241) hx hb dX12_cheap_132 (by decide) ?_
                          refine lv_iinc (v := iZ (v7_103 + 1)) (lv' := [(7, .int (iZ (v7_103 + 1))), (5, .int (iZ (min v5_74 (gz Cfq74 ((6 * v6_74) + x3))))), (6, .int (iZ v6_74)), (0, .ref hm), (1, .int (iZ x1)), (2, .int (iZ x2)), (3, .int (iZ x3)), (4, .int (iZ x4))]) hx hb dX12_cheap_241 hl (k := 0) rfl (iZ_add v7_103 1) (by decide) rfl (fun ls hl => ?_)
                          refine lv_goto (tgt := 103) hx hb dX12_cheap_244 (by decide) ?_
                          exact ih103  (v7_103 + 1) Cfq103 _ _ _ (by omega) (show (0 ≤ (v7_103 + 1) ∧ (v7_103 + 1) ≤ (gz Af 0) + 1) from ⟨by omega, by omega⟩) (show rgI Cfq103 0 1000000 2766 from rgc103) (hP.sub [0, 1, 2] rfl) (hD.sub [0, 1, 2] rfl rfl) hS (lv_sub hl [0, 1, 2, 3, 4, 5, 6, 7] rfl)
                  exact HL103 10 0 Cfq74 _ _ _ (by omega) (show (0 ≤ 0 ∧ 0 ≤ (gz Af 0) + 1) from ⟨by omega, by omega⟩) (show rgI Cfq74 0 1000000 2766 from rgc74) (hP.sub [0, 1, 2] rfl) (hD.sub [0, 1, 2] rfl rfl) hS (lv_sub hl [0, 1, 2, 3, 4, 5, 6, 7] rfl)
            exact HL74 470 1000000 x2 f_11 _ _ _ (by omega) (show (x2 ≤ x2 ∧ x2 ≤ (460) + 1) from ⟨by omega, by omega⟩) (show 0 ≤ 1000000 ∧ 1000000 ≤ 1000000 from (by omega)) (show rgI f_11 0 1000000 2766 from rgf_11) (hP.sub [0, 1, 2] rfl) (hD.sub [0, 1, 2] rfl rfl) hS (lv_sub hl [0, 1, 2, 3, 4, 5, 6] rfl)
          ·
            have c_8 := mt (zle (x := iZ 2766) (y := iZ v5_32) rfl rfl ⟨by omega, by omega⟩ ⟨by omega, by omega⟩).mpr c_8
            refine lv_aload_n hx hb dX12_cheap_40 rfl (lv_at hl 1 rfl) ?_
            refine va_get (D := D) (ci := 12) (v := .ref Mc) (C := RX12) (T := TX12) (N := 36) hx hb hts iX12 hown hK hP 0 rfl rfl 28 (by decide) (hts _ qf_X12_59) (fun _ h => h) rfl dX12_cheap_41 ?_
            refine lv_iload hx hb dX12_cheap_44 (lv_at hl 0 rfl) ?_
            refine lv_ldc (own := RX12) (v := 1000000) hx hb hown (hts _ qk_X12_88) dX12_cheap_46 ?_
            refine W.eq (g2 := F0 m 48 ls [.int (iZ 1000000), .int (iZ v5_32), .ref Mc]) rfl ?_
            refine va_iast hx hb hK hP hD hS 2 1 rfl rfl (zin (e := v5_32) (n := 2766) ⟨by omega, by omega⟩ (by decide)) dX12_cheap_48 (fun H locs hP hD hS => ?_)
            obtain ⟨f_56, hf_56⟩ : ∃ gg9, gg9 = upd Cfq32 (iZ v5_32).toNatClampNeg (iZ 1000000) := ⟨_, rfl⟩
            rw [← hf_56] at hP hD
            refine lv_iinc (v := iZ (v5_32 + 1)) (lv' := [(5, .int (iZ (v5_32 + 1))), (0, .ref hm), (1, .int (iZ x1)), (2, .int (iZ x2)), (3, .int (iZ x3)), (4, .int (iZ x4))]) hx hb dX12_cheap_49 hl (k := 0) rfl (iZ_add v5_32 1) (by decide) rfl (fun ls hl => ?_)
            refine lv_goto (tgt := 32) hx hb dX12_cheap_52 (by decide) ?_
            exact ih32  (v5_32 + 1) f_56 _ _ _ (by omega) (show (0 ≤ (v5_32 + 1) ∧ (v5_32 + 1) ≤ (2765) + 1) from ⟨by omega, by omega⟩) (show rgI f_56 0 1000000 (v5_32 + 1) from (rg_ext hcx hf_56 ⟨by omega, by omega⟩ ⟨by omega, by omega⟩ ⟨by omega, by omega⟩)) (hP.sub [0, 1, 2] rfl) (hD.sub [0, 1, 2] rfl rfl) hS (lv_sub hl [0, 1, 2, 3, 4, 5] rfl)
      exact HL32 2770 0 Cf _ _ _ (by omega) (show (0 ≤ 0 ∧ 0 ≤ (2765) + 1) from ⟨by omega, by omega⟩) (show rgI Cf 0 1000000 0 from (fun e h1 h2 => absurd h1 (by omega))) (hP.sub [0, 1, 2] rfl) (hD.sub [0, 1, 2] rfl rfl) hS (lv_sub hl [0, 1, 2, 3, 4, 5] rfl)
    ·
      subst qz_3
      refine lv_if_ne (tgt := 29) hx hb dX12_cheap_20 (by decide) (fun c => absurd (by decide) c) (fun _ => ?_)
      refine lv_aload_n hx hb dX12_cheap_23 rfl (lv_at hl 0 rfl) ?_
      refine lv_iconst (v := iZ 1) hx hb dX12_cheap_24 (by decide) ?_
      refine CWV (As := [.int (iZ 1)]) (rest := []) (wc := [(hm, .inr (12, [.ref Ma, .ref Mn, .int (iZ Mst), .long Mtp, .long Mbt, .ref Ms, .ref My, .ref Mt, .ref Mp, .ref Mx, .int (iZ Mtd), .int (iZ Msz), .int (iZ Mtk), .int (iZ Mfr), .int (iZ Men), .int (iZ Mva), .int (iZ Mfk), .int (iZ Mfp), .int (iZ Mfs), .int (iZ Mse), .int (iZ Mlt), .ref Mo, .int (iZ Mdp), .int (iZ Mct), .ref Mk, .ref Ml, .ref Mb, .ref Mh, .ref Mc, .int (iZ Mdr), .int (iZ Mrs), .ref Mz, .ref Mr, .ref Mq, .int (iZ Mit), .int (iZ Mmk)]))]) (wr := [(Ma, .inl (k 1, 5340, .inl Af)), (Mc, .inl (k 1, 2766, .inl Cf))]) hx hb hml hown hts hKK hP hD hS hA (m_refuse l D k hm Ma Mn Ms My Mt Mp Mx Mo Mk Ml Mb Mh Mc Mz Mr Mq Mst Mtd Msz Mtk Mfr Men Mva Mfk Mfp Mfs Mse Mlt Mdp Mct Mdr Mrs Mit Mmk Mtp Mbt 1) ci_X12_refuse qm_X12_81 ⟨Nat.le_of_ble_eq_true rfl, Nat.le_of_ble_eq_true rfl⟩ ⟨Nat.le_of_ble_eq_true rfl, Nat.le_of_ble_eq_true rfl⟩ [0] [1, 2] rfl rfl rfl rfl rfl (by decide) 0 rfl rfl rfl hl.1 rfl (Nat.le_of_ble_eq_true rfl) dX12_cheap_25 (fun u_58 H locs hφ hP hD hS => ?_)
      obtain ⟨I_59, L_60, F_61, G_62⟩ := u_58
      refine W.eq (g2 := F0 m 28 ls [.int (iZ (-1))]) rfl ?_
      exact EWi hx hb hr hlocks hS (fun i => [(-1), 1].getD i 0, fun i => [0].getD i 0, fun i => [Cf].getD i (fun _ => 0), fun i => [].getD i (fun _ => 0)) rfl trivial (hP.sub [2, 0, 1] rfl) (hD.sub [2, 0, 1] rfl rfl) dX12_cheap_28
  ·
    subst qz_1
    refine lv_if_eq (tgt := 23) hx hb dX12_cheap_7 (by decide) (fun _ => ?_) (fun c => absurd (by decide) c)
    refine lv_aload_n hx hb dX12_cheap_23 rfl (lv_at hl 0 rfl) ?_
    refine lv_iconst (v := iZ 1) hx hb dX12_cheap_24 (by decide) ?_
    refine CWV (As := [.int (iZ 1)]) (rest := []) (wc := [(hm, .inr (12, [.ref Ma, .ref Mn, .int (iZ Mst), .long Mtp, .long Mbt, .ref Ms, .ref My, .ref Mt, .ref Mp, .ref Mx, .int (iZ Mtd), .int (iZ Msz), .int (iZ Mtk), .int (iZ Mfr), .int (iZ Men), .int (iZ Mva), .int (iZ Mfk), .int (iZ Mfp), .int (iZ Mfs), .int (iZ Mse), .int (iZ Mlt), .ref Mo, .int (iZ Mdp), .int (iZ Mct), .ref Mk, .ref Ml, .ref Mb, .ref Mh, .ref Mc, .int (iZ Mdr), .int (iZ Mrs), .ref Mz, .ref Mr, .ref Mq, .int (iZ Mit), .int (iZ Mmk)]))]) (wr := [(Ma, .inl (k 1, 5340, .inl Af)), (Mc, .inl (k 1, 2766, .inl Cf))]) hx hb hml hown hts hKK hP hD hS hA (m_refuse l D k hm Ma Mn Ms My Mt Mp Mx Mo Mk Ml Mb Mh Mc Mz Mr Mq Mst Mtd Msz Mtk Mfr Men Mva Mfk Mfp Mfs Mse Mlt Mdp Mct Mdr Mrs Mit Mmk Mtp Mbt 1) ci_X12_refuse qm_X12_81 ⟨Nat.le_of_ble_eq_true rfl, Nat.le_of_ble_eq_true rfl⟩ ⟨Nat.le_of_ble_eq_true rfl, Nat.le_of_ble_eq_true rfl⟩ [0] [1, 2] rfl rfl rfl rfl rfl (by decide) 0 rfl rfl rfl hl.1 rfl (Nat.le_of_ble_eq_true rfl) dX12_cheap_25 (fun u_65 H locs hφ hP hD hS => ?_)
    obtain ⟨I_66, L_67, F_68, G_69⟩ := u_65
    refine W.eq (g2 := F0 m 28 ls [.int (iZ (-1))]) rfl ?_
    exact EWi hx hb hr hlocks hS (fun i => [(-1), 1].getD i 0, fun i => [0].getD i 0, fun i => [Cf].getD i (fun _ => 0), fun i => [].getD i (fun _ => 0)) rfl trivial (hP.sub [2, 0, 1] rfl) (hD.sub [2, 0, 1] rfl rfl) dX12_cheap_28
