set_option maxHeartbeats 4000000 in
set_option maxRecDepth 100000 in
theorem m_setBy (l : Launch) (D : va_G) (k : Nat → ClassId) (fs : List Value) (hm : Nat) (Ma : Nat) (Mk : Nat) (Af : Nat → Int32) (Kf : Nat → Int32) (x : Int) (f0 : fs[0]? = some (.ref Ma)) (f24 : fs[24]? = some (.ref Mk)) (hM : M0 Af) (h9x : -2147483648 ≤ x ∧ x < 2147483648) : RP l yX12_setBy cX12_setBy 4 (some .int) 0 D k [.ref hm, .int (iZ x)] [(hm, .inr (12, fs)), (Ma, .inl (k 1, 5340, .inl Af)), (Mk, .inl (k 1, 6, .inl Kf))] (fun z => -2147483648 ≤ z ∧ z < 2147483648) := by
  refine MRP (by decide) (Nat.le_of_ble_eq_true rfl) (fun p e s m below meth c ls hx hb hml hr hlocks hts hown hKK hP hl => ?_)
  have hK := hKK.1
  have hl : lv_has ls 4 [(0, .ref hm), (1, .int (iZ x))] := hl
  obtain ⟨m0, m1, m3, m4, m5, mF, mO, mS⟩ := id hM
  refine lv_iconst (v := iZ 0) hx hb dX12_setBy_0 (by decide) ?_
  refine lv_istore_n (lv' := [(2, .int (iZ 0)), (0, .ref hm), (1, .int (iZ x))]) hx hb dX12_setBy_1 rfl hl (by decide) rfl (fun ls hl => ?_)
  refine lv_iconst (v := iZ 0) hx hb dX12_setBy_2 (by decide) ?_
  refine lv_istore_n (lv' := [(3, .int (iZ 0)), (2, .int (iZ 0)), (0, .ref hm), (1, .int (iZ x))]) hx hb dX12_setBy_3 rfl hl (by decide) rfl (fun ls hl => ?_)
  have HL4 : ∀ (fu : Nat) (v2_4 : Int) (v3_4 : Int) (ls : Array Slot), ((gz Af 0) + 2 - v3_4) < (fu : Int) → ((0 ≤ v3_4 ∧ v3_4 ≤ (gz Af 0) + 1)) → (-2147483648 ≤ v2_4 ∧ v2_4 < 2147483648) → lv_has ls 4 [(3, .int (iZ v3_4)), (2, .int (iZ v2_4)), (0, .ref hm), (1, .int (iZ x))] → W p l e (rj 0 0 0) s m [.ref hm, .int (iZ x)].toArray below meth c s.heap [] 0 0 (MQ below (QcP (fun z => -2147483648 ≤ z ∧ z < 2147483648)) [.ref hm, .int (iZ x)].toArray s 0 0 (fun _ => False)) (F0 m 4 ls []) := by
    intro fu
    induction fu with
    | zero => intro v2_4 v3_4 ls hμ4 hi4 hf0_4 hl; exact absurd hμ4 (by omega)
    | succ fu ih4 =>
      intro v2_4 v3_4 ls hμ4 hi4 hf0_4 hl
      refine lv_iload_n hx hb dX12_setBy_4 rfl (lv_at hl 0 rfl) ?_
      refine lv_aload_n hx hb dX12_setBy_5 rfl (lv_at hl 2 rfl) ?_
      refine va_get (D := D) (ci := 12) (v := .ref Ma) (C := RX12) (T := TX12) (N := 36) hx hb hts iX12 hown hK hP 0 rfl rfl 0 (by decide) (hts _ qf_X12_7) (fun _ h => h) f0 dX12_setBy_6 ?_
      refine lv_iconst (v := iZ 0) hx hb dX12_setBy_9 (by decide) ?_
      refine va_iald hx hb hK hP 1 1 rfl rfl (zin (e := 0) (n := 5340) ⟨by omega, by omega⟩ (by decide)) dX12_setBy_10 ?_
      refine lv_topi (fun x_1 ex_1 => ?_)
      obtain rfl : x_1 = iZ (gz Af 0) := ex_1.trans (gz_eq ⟨by omega, by omega⟩)
      have h_2 := gz_rg Af 0
      refine lv_icmp_ge (tgt := 40) hx hb dX12_setBy_11 (by decide) (fun c_3 => ?_) (fun c_3 => ?_)
      ·
        have c_3 := (zle (x := iZ (gz Af 0)) (y := iZ v3_4) rfl rfl ⟨by omega, by omega⟩ ⟨by omega, by omega⟩).mp c_3
        refine lv_iload_n hx hb dX12_setBy_40 rfl (lv_at hl 1 rfl) ?_
        exact EPi hx hb hr hlocks (by omega) dX12_setBy_41
      ·
        have c_3 := mt (zle (x := iZ (gz Af 0)) (y := iZ v3_4) rfl rfl ⟨by omega, by omega⟩ ⟨by omega, by omega⟩).mpr c_3
        refine lv_iload_n hx hb dX12_setBy_14 rfl (lv_at hl 1 rfl) ?_
        refine lv_aload_n hx hb dX12_setBy_15 rfl (lv_at hl 2 rfl) ?_
        refine va_get (D := D) (ci := 12) (v := .ref Mk) (C := RX12) (T := TX12) (N := 36) hx hb hts iX12 hown hK hP 0 rfl rfl 24 (by decide) (hts _ qf_X12_47) (fun _ h => h) f24 dX12_setBy_16 ?_
        refine lv_iload_n hx hb dX12_setBy_19 rfl (lv_at hl 0 rfl) ?_
        refine va_iald hx hb hK hP 2 1 rfl rfl (zin (e := v3_4) (n := 6) ⟨by omega, by omega⟩ (by decide)) dX12_setBy_20 ?_
        refine lv_topi (fun x_4 ex_4 => ?_)
        obtain rfl : x_4 = iZ (gz Kf v3_4) := ex_4.trans (gz_eq ⟨by omega, by omega⟩)
        have h_5 := gz_rg Kf v3_4
        refine lv_iload_n hx hb dX12_setBy_21 rfl (lv_at hl 3 rfl) ?_
        refine lv_icmp_gt (tgt := 31) hx hb dX12_setBy_22 (by decide) (fun c_6 => ?_) (fun c_6 => ?_)
        ·
          have c_6 := (zlt (x := iZ x) (y := iZ (gz Kf v3_4)) rfl rfl ⟨by omega, by omega⟩ ⟨by omega, by omega⟩).mp c_6
          refine lv_iconst (v := iZ 0) hx hb dX12_setBy_31 (by decide) ?_
          refine lv_ior hx hb dX12_setBy_32 ?_
          refine lv_topi (fun x_8 ex_8 => ?_)
          obtain ⟨z_7, hz_7, hz_7a, hz_7b⟩ := i32_z x_8
          subst hz_7
          refine lv_istore_n (lv' := [(2, .int (iZ z_7)), (3, .int (iZ v3_4)), (0, .ref hm), (1, .int (iZ x))]) hx hb dX12_setBy_33 rfl hl (by decide) rfl (fun ls hl => ?_)
          refine lv_iinc (v := iZ (v3_4 + 1)) (lv' := [(3, .int (iZ (v3_4 + 1))), (2, .int (iZ z_7)), (0, .ref hm), (1, .int (iZ x))]) hx hb dX12_setBy_34 hl (k := 1) rfl (iZ_add v3_4 1) (by decide) rfl (fun ls hl => ?_)
          refine lv_goto (tgt := 4) hx hb dX12_setBy_37 (by decide) ?_
          exact ih4  z_7 (v3_4 + 1) _ (by omega) (show (0 ≤ (v3_4 + 1) ∧ (v3_4 + 1) ≤ (gz Af 0) + 1) from ⟨by omega, by omega⟩) (show -2147483648 ≤ z_7 ∧ z_7 < 2147483648 from (by omega)) (lv_sub hl [0, 1, 2, 3] rfl)
        ·
          have c_6 := mt (zlt (x := iZ x) (y := iZ (gz Kf v3_4)) rfl rfl ⟨by omega, by omega⟩ ⟨by omega, by omega⟩).mpr c_6
          refine lv_iconst (v := iZ 1) hx hb dX12_setBy_25 (by decide) ?_
          refine lv_iload_n hx hb dX12_setBy_26 rfl (lv_at hl 0 rfl) ?_
          refine lv_ishl hx hb dX12_setBy_27 ?_
          refine lv_topi (fun x_10 ex_10 => ?_)
          obtain ⟨z_9, hz_9, hz_9a, hz_9b⟩ := i32_z x_10
          subst hz_9
          refine lv_goto (tgt := 32) hx hb dX12_setBy_28 (by decide) ?_
          refine lv_ior hx hb dX12_setBy_32 ?_
          refine lv_topi (fun x_12 ex_12 => ?_)
          obtain ⟨z_11, hz_11, hz_11a, hz_11b⟩ := i32_z x_12
          subst hz_11
          refine lv_istore_n (lv' := [(2, .int (iZ z_11)), (3, .int (iZ v3_4)), (0, .ref hm), (1, .int (iZ x))]) hx hb dX12_setBy_33 rfl hl (by decide) rfl (fun ls hl => ?_)
          refine lv_iinc (v := iZ (v3_4 + 1)) (lv' := [(3, .int (iZ (v3_4 + 1))), (2, .int (iZ z_11)), (0, .ref hm), (1, .int (iZ x))]) hx hb dX12_setBy_34 hl (k := 1) rfl (iZ_add v3_4 1) (by decide) rfl (fun ls hl => ?_)
          refine lv_goto (tgt := 4) hx hb dX12_setBy_37 (by decide) ?_
          exact ih4  z_11 (v3_4 + 1) _ (by omega) (show (0 ≤ (v3_4 + 1) ∧ (v3_4 + 1) ≤ (gz Af 0) + 1) from ⟨by omega, by omega⟩) (show -2147483648 ≤ z_11 ∧ z_11 < 2147483648 from (by omega)) (lv_sub hl [0, 1, 2, 3] rfl)
  exact HL4 10 0 0 _ (by omega) (show (0 ≤ 0 ∧ 0 ≤ (gz Af 0) + 1) from ⟨by omega, by omega⟩) (show -2147483648 ≤ 0 ∧ 0 < 2147483648 from (by omega)) (lv_sub hl [0, 1, 2, 3] rfl)
set_option maxHeartbeats 4000000 in
set_option maxRecDepth 100000 in
theorem m_lastOne (l : Launch) (D : va_G) (k : Nat → ClassId) (fs : List Value) (hm : Nat) (Ma : Nat) (Mk : Nat) (Af : Nat → Int32) (Kf : Nat → Int32) (f0 : fs[0]? = some (.ref Ma)) (f24 : fs[24]? = some (.ref Mk)) (hM : M0 Af) : RP l yX12_lastOne cX12_lastOne 3 (some .int) 0 D k [.ref hm] [(hm, .inr (12, fs)), (Ma, .inl (k 1, 5340, .inl Af)), (Mk, .inl (k 1, 6, .inl Kf))] (fun z => 0 ≤ z ∧ (z < gz Af 0 ∨ z = 0)) := by
  refine MRP (by decide) (Nat.le_of_ble_eq_true rfl) (fun p e s m below meth c ls hx hb hml hr hlocks hts hown hKK hP hl => ?_)
  have hK := hKK.1
  have hl : lv_has ls 3 [(0, .ref hm)] := hl
  obtain ⟨m0, m1, m3, m4, m5, mF, mO, mS⟩ := id hM
  refine lv_iconst (v := iZ 0) hx hb dX12_lastOne_0 (by decide) ?_
  refine lv_istore_n (lv' := [(1, .int (iZ 0)), (0, .ref hm)]) hx hb dX12_lastOne_1 rfl hl (by decide) rfl (fun ls hl => ?_)
  refine lv_iconst (v := iZ 1) hx hb dX12_lastOne_2 (by decide) ?_
  refine lv_istore_n (lv' := [(2, .int (iZ 1)), (1, .int (iZ 0)), (0, .ref hm)]) hx hb dX12_lastOne_3 rfl hl (by decide) rfl (fun ls hl => ?_)
  have HL4 : ∀ (fu : Nat) (v1_4 : Int) (v2_4 : Int) (ls : Array Slot), ((7) + 2 - v2_4) < (fu : Int) → ((1 ≤ v2_4 ∧ v2_4 ≤ (7) + 1)) → (0 ≤ v1_4 ∧ (v1_4 < gz Af 0 ∨ v1_4 = 0)) → lv_has ls 3 [(2, .int (iZ v2_4)), (1, .int (iZ v1_4)), (0, .ref hm)] → W p l e (rj 0 0 0) s m [.ref hm].toArray below meth c s.heap [] 0 0 (MQ below (QcP (fun z => 0 ≤ z ∧ (z < gz Af 0 ∨ z = 0))) [.ref hm].toArray s 0 0 (fun _ => False)) (F0 m 4 ls []) := by
    intro fu
    induction fu with
    | zero => intro v1_4 v2_4 ls hμ4 hi4 hf0_4 hl; exact absurd hμ4 (by omega)
    | succ fu ih4 =>
      intro v1_4 v2_4 ls hμ4 hi4 hf0_4 hl
      refine lv_iload_n hx hb dX12_lastOne_4 rfl (lv_at hl 0 rfl) ?_
      refine lv_aload_n hx hb dX12_lastOne_5 rfl (lv_at hl 2 rfl) ?_
      refine va_get (D := D) (ci := 12) (v := .ref Ma) (C := RX12) (T := TX12) (N := 36) hx hb hts iX12 hown hK hP 0 rfl rfl 0 (by decide) (hts _ qf_X12_7) (fun _ h => h) f0 dX12_lastOne_6 ?_
      refine lv_iconst (v := iZ 0) hx hb dX12_lastOne_9 (by decide) ?_
      refine va_iald hx hb hK hP 1 1 rfl rfl (zin (e := 0) (n := 5340) ⟨by omega, by omega⟩ (by decide)) dX12_lastOne_10 ?_
      refine lv_topi (fun x_1 ex_1 => ?_)
      obtain rfl : x_1 = iZ (gz Af 0) := ex_1.trans (gz_eq ⟨by omega, by omega⟩)
      have h_2 := gz_rg Af 0
      refine lv_icmp_ge (tgt := 37) hx hb dX12_lastOne_11 (by decide) (fun c_3 => ?_) (fun c_3 => ?_)
      ·
        have c_3 := (zle (x := iZ (gz Af 0)) (y := iZ v2_4) rfl rfl ⟨by omega, by omega⟩ ⟨by omega, by omega⟩).mp c_3
        refine lv_iload_n hx hb dX12_lastOne_37 rfl (lv_at hl 1 rfl) ?_
        exact EPi hx hb hr hlocks (by omega) dX12_lastOne_38
      ·
        have c_3 := mt (zle (x := iZ (gz Af 0)) (y := iZ v2_4) rfl rfl ⟨by omega, by omega⟩ ⟨by omega, by omega⟩).mpr c_3
        refine lv_aload_n hx hb dX12_lastOne_14 rfl (lv_at hl 2 rfl) ?_
        refine va_get (D := D) (ci := 12) (v := .ref Mk) (C := RX12) (T := TX12) (N := 36) hx hb hts iX12 hown hK hP 0 rfl rfl 24 (by decide) (hts _ qf_X12_47) (fun _ h => h) f24 dX12_lastOne_15 ?_
        refine lv_iload_n hx hb dX12_lastOne_18 rfl (lv_at hl 0 rfl) ?_
        refine va_iald hx hb hK hP 2 1 rfl rfl (zin (e := v2_4) (n := 6) ⟨by omega, by omega⟩ (by decide)) dX12_lastOne_19 ?_
        refine lv_topi (fun x_4 ex_4 => ?_)
        obtain rfl : x_4 = iZ (gz Kf v2_4) := ex_4.trans (gz_eq ⟨by omega, by omega⟩)
        have h_5 := gz_rg Kf v2_4
        refine lv_aload_n hx hb dX12_lastOne_20 rfl (lv_at hl 2 rfl) ?_
        refine va_get (D := D) (ci := 12) (v := .ref Mk) (C := RX12) (T := TX12) (N := 36) hx hb hts iX12 hown hK hP 0 rfl rfl 24 (by decide) (hts _ qf_X12_47) (fun _ h => h) f24 dX12_lastOne_21 ?_
        refine lv_iload_n hx hb dX12_lastOne_24 rfl (lv_at hl 1 rfl) ?_
        refine va_iald hx hb hK hP 2 1 rfl rfl (zin (e := v1_4) (n := 6) ⟨by omega, by omega⟩ (by decide)) dX12_lastOne_25 ?_
        refine lv_topi (fun x_6 ex_6 => ?_)
        obtain rfl : x_6 = iZ (gz Kf v1_4) := ex_6.trans (gz_eq ⟨by omega, by omega⟩)
        have h_7 := gz_rg Kf v1_4
        refine lv_icmp_le (tgt := 31) hx hb dX12_lastOne_26 (by decide) (fun c_8 => ?_) (fun c_8 => ?_)
        ·
          have c_8 := (zle (x := iZ (gz Kf v2_4)) (y := iZ (gz Kf v1_4)) rfl rfl ⟨by omega, by omega⟩ ⟨by omega, by omega⟩).mp c_8
          refine lv_iinc (v := iZ (v2_4 + 1)) (lv' := [(2, .int (iZ (v2_4 + 1))), (1, .int (iZ v1_4)), (0, .ref hm)]) hx hb dX12_lastOne_31 hl (k := 0) rfl (iZ_add v2_4 1) (by decide) rfl (fun ls hl => ?_)
          refine lv_goto (tgt := 4) hx hb dX12_lastOne_34 (by decide) ?_
          exact ih4  v1_4 (v2_4 + 1) _ (by omega) (show (1 ≤ (v2_4 + 1) ∧ (v2_4 + 1) ≤ (7) + 1) from ⟨by omega, by omega⟩) (show 0 ≤ v1_4 ∧ (v1_4 < gz Af 0 ∨ v1_4 = 0) from (by omega)) (lv_sub hl [0, 1, 2] rfl)
        ·
          have c_8 := mt (zle (x := iZ (gz Kf v2_4)) (y := iZ (gz Kf v1_4)) rfl rfl ⟨by omega, by omega⟩ ⟨by omega, by omega⟩).mpr c_8
          refine lv_iload_n hx hb dX12_lastOne_29 rfl (lv_at hl 0 rfl) ?_
          refine lv_istore_n (lv' := [(1, .int (iZ v2_4)), (2, .int (iZ v2_4)), (0, .ref hm)]) hx hb dX12_lastOne_30 rfl hl (by decide) rfl (fun ls hl => ?_)
          refine lv_iinc (v := iZ (v2_4 + 1)) (lv' := [(2, .int (iZ (v2_4 + 1))), (1, .int (iZ v2_4)), (0, .ref hm)]) hx hb dX12_lastOne_31 hl (k := 1) rfl (iZ_add v2_4 1) (by decide) rfl (fun ls hl => ?_)
          refine lv_goto (tgt := 4) hx hb dX12_lastOne_34 (by decide) ?_
          exact ih4  v2_4 (v2_4 + 1) _ (by omega) (show (1 ≤ (v2_4 + 1) ∧ (v2_4 + 1) ≤ (7) + 1) from ⟨by omega, by omega⟩) (show 0 ≤ v2_4 ∧ (v2_4 < gz Af 0 ∨ v2_4 = 0) from (by omega)) (lv_sub hl [0, 1, 2] rfl)
  exact HL4 12 0 1 _ (by omega) (show (1 ≤ 1 ∧ 1 ≤ (7) + 1) from ⟨by omega, by omega⟩) (show 0 ≤ 0 ∧ (0 < gz Af 0 ∨ 0 = 0) from (by omega)) (lv_sub hl [0, 1, 2] rfl)
set_option maxHeartbeats 4000000 in
set_option maxRecDepth 100000 in
theorem q_knows (l : Launch) (D : va_G) (k : Nat → ClassId) (hm : Nat) (Ma : Nat) (Mn : Nat) (Ms : Nat) (My : Nat) (Mt : Nat) (Mp : Nat) (Mx : Nat) (Mo : Nat) (Mk : Nat) (Ml : Nat) (Mb : Nat) (Mh : Nat) (Mc : Nat) (Mz : Nat) (Mr : Nat) (Mq : Nat) (Mst : Int) (Mtd : Int) (Msz : Int) (Mtk : Int) (Mfr : Int) (Men : Int) (Mva : Int) (Mfk : Int) (Mfp : Int) (Mfs : Int) (Mse : Int) (Mlt : Int) (Mdp : Int) (Mct : Int) (Mdr : Int) (Mrs : Int) (Mit : Int) (Mmk : Int) (Mtp : Int64) (Mbt : Int64) (Af : Nat → Int32) (Kf : Nat → Int32) (Lf : Nat → Int32) (Bf : Nat → Int32) (x1 : Int) (x2 : Int) (x3 : Int) (hM : M0 Af) (h9x1 : -2147483648 ≤ x1 ∧ x1 < 2147483648) (h9x2 : -2147483648 ≤ x2 ∧ x2 < 2147483648) (h9x3 : -2147483648 ≤ x3 ∧ x3 < 2147483648) : WD (σ := ((Nat → Int) × (Nat → Int64) × (Nat → Nat → Int32) × (Nat → Nat → Int64))) l yX12_knows cX12_knows 4 (some .int) 6 0 0 D k [.ref hm, .int (iZ x1), .int (iZ x2), .int (iZ x3)] [(hm, .inr (12, [.ref Ma, .ref Mn, .int (iZ Mst), .long Mtp, .long Mbt, .ref Ms, .ref My, .ref Mt, .ref Mp, .ref Mx, .int (iZ Mtd), .int (iZ Msz), .int (iZ Mtk), .int (iZ Mfr), .int (iZ Men), .int (iZ Mva), .int (iZ Mfk), .int (iZ Mfp), .int (iZ Mfs), .int (iZ Mse), .int (iZ Mlt), .ref Mo, .int (iZ Mdp), .int (iZ Mct), .ref Mk, .ref Ml, .ref Mb, .ref Mh, .ref Mc, .int (iZ Mdr), .int (iZ Mrs), .ref Mz, .ref Mr, .ref Mq, .int (iZ Mit), .int (iZ Mmk)])), (Ma, .inl (k 1, 5340, .inl Af)), (Mk, .inl (k 1, 6, .inl Kf)), (Ml, .inl (k 1, 6, .inl Lf)), (Mb, .inl (k 1, 6, .inl Bf))] (fun u => some (.int (iZ (u.1 0)))) (fun _ => True) (fun u => [(hm, .inr (12, [.ref Ma, .ref Mn, .int (iZ (u.1 1)), .long Mtp, .long Mbt, .ref Ms, .ref My, .ref Mt, .ref Mp, .ref Mx, .int (iZ Mtd), .int (iZ Msz), .int (iZ Mtk), .int (iZ Mfr), .int (iZ Men), .int (iZ Mva), .int (iZ Mfk), .int (iZ Mfp), .int (iZ Mfs), .int (iZ Mse), .int (iZ Mlt), .ref Mo, .int (iZ Mdp), .int (iZ Mct), .ref Mk, .ref Ml, .ref Mb, .ref Mh, .ref Mc, .int (iZ Mdr), .int (iZ Mrs), .ref Mz, .ref Mr, .ref Mq, .int (iZ Mit), .int (iZ Mmk)])), (Ma, .inl (k 1, 5340, .inl Af)), (Mk, .inl (k 1, 6, .inl (u.2.2.1 0))), (Ml, .inl (k 1, 6, .inl (u.2.2.1 1))), (Mb, .inl (k 1, 6, .inl (u.2.2.1 2)))]) := by
  refine MW (by decide) (Nat.le_of_ble_eq_true rfl) (fun p e s m below meth c ls A hx hb hml hr hlocks hin hts hown hKK hP hD hS hA hl => ?_)
  have hK := hKK.1
  have hl : lv_has ls 4 [(0, .ref hm), (1, .int (iZ x1)), (2, .int (iZ x2)), (3, .int (iZ x3))] := hl
  obtain ⟨m0, m1, m3, m4, m5, mF, mO, mS⟩ := id hM
  refine lv_aload_n hx hb dX12_knows_0 rfl (lv_at hl 0 rfl) ?_
  refine lv_iload_n hx hb dX12_knows_1 rfl (lv_at hl 1 rfl) ?_
  refine lv_iload_n hx hb dX12_knows_2 rfl (lv_at hl 2 rfl) ?_
  refine CPV (As := [.int (iZ x1), .int (iZ x2)]) (rest := []) hx hb hml hown hts hKK (hP.sub (ws' := [(hm, .inr (12, [.ref Ma, .ref Mn, .int (iZ Mst), .long Mtp, .long Mbt, .ref Ms, .ref My, .ref Mt, .ref Mp, .ref Mx, .int (iZ Mtd), .int (iZ Msz), .int (iZ Mtk), .int (iZ Mfr), .int (iZ Men), .int (iZ Mva), .int (iZ Mfk), .int (iZ Mfp), .int (iZ Mfs), .int (iZ Mse), .int (iZ Mlt), .ref Mo, .int (iZ Mdp), .int (iZ Mct), .ref Mk, .ref Ml, .ref Mb, .ref Mh, .ref Mc, .int (iZ Mdr), .int (iZ Mrs), .ref Mz, .ref Mr, .ref Mq, .int (iZ Mit), .int (iZ Mmk)])), (Ma, .inl (k 1, 5340, .inl Af))]) [0, 1] rfl) (m_isNews l D k ([.ref Ma, .ref Mn, .int (iZ Mst), .long Mtp, .long Mbt, .ref Ms, .ref My, .ref Mt, .ref Mp, .ref Mx, .int (iZ Mtd), .int (iZ Msz), .int (iZ Mtk), .int (iZ Mfr), .int (iZ Men), .int (iZ Mva), .int (iZ Mfk), .int (iZ Mfp), .int (iZ Mfs), .int (iZ Mse), .int (iZ Mlt), .ref Mo, .int (iZ Mdp), .int (iZ Mct), .ref Mk, .ref Ml, .ref Mb, .ref Mh, .ref Mc, .int (iZ Mdr), .int (iZ Mrs), .ref Mz, .ref Mr, .ref Mq, .int (iZ Mit), .int (iZ Mmk)]) hm Ma Af x1 x2 rfl hM ⟨by omega, by omega⟩ ⟨by omega, by omega⟩) ci_X12_isNews qm_X12_299 ⟨Nat.le_of_ble_eq_true rfl, Nat.le_of_ble_eq_true rfl⟩ ⟨Nat.le_of_ble_eq_true rfl, Nat.le_of_ble_eq_true rfl⟩ 0 rfl rfl rfl hl.1 rfl (Nat.le_of_ble_eq_true rfl) dX12_knows_3 (fun z_1 hz_1 => ?_)
  rcases hz_1 with ⟨qz_1, hz_1⟩ | ⟨qz_1, hz_1⟩
  ·
    subst qz_1
    refine lv_if_eq (tgt := 17) hx hb dX12_knows_6 (by decide) (fun c => absurd c (by decide)) (fun _ => ?_)
    refine lv_aload_n hx hb dX12_knows_9 rfl (lv_at hl 0 rfl) ?_
    refine lv_iload_n hx hb dX12_knows_10 rfl (lv_at hl 3 rfl) ?_
    refine CPV (As := [.int (iZ x3)]) (rest := []) hx hb hml hown hts hKK (hP.sub (ws' := [(hm, .inr (12, [.ref Ma, .ref Mn, .int (iZ Mst), .long Mtp, .long Mbt, .ref Ms, .ref My, .ref Mt, .ref Mp, .ref Mx, .int (iZ Mtd), .int (iZ Msz), .int (iZ Mtk), .int (iZ Mfr), .int (iZ Men), .int (iZ Mva), .int (iZ Mfk), .int (iZ Mfp), .int (iZ Mfs), .int (iZ Mse), .int (iZ Mlt), .ref Mo, .int (iZ Mdp), .int (iZ Mct), .ref Mk, .ref Ml, .ref Mb, .ref Mh, .ref Mc, .int (iZ Mdr), .int (iZ Mrs), .ref Mz, .ref Mr, .ref Mq, .int (iZ Mit), .int (iZ Mmk)])), (Ma, .inl (k 1, 5340, .inl Af))]) [0, 1] rfl) (m_isRock l D k ([.ref Ma, .ref Mn, .int (iZ Mst), .long Mtp, .long Mbt, .ref Ms, .ref My, .ref Mt, .ref Mp, .ref Mx, .int (iZ Mtd), .int (iZ Msz), .int (iZ Mtk), .int (iZ Mfr), .int (iZ Men), .int (iZ Mva), .int (iZ Mfk), .int (iZ Mfp), .int (iZ Mfs), .int (iZ Mse), .int (iZ Mlt), .ref Mo, .int (iZ Mdp), .int (iZ Mct), .ref Mk, .ref Ml, .ref Mb, .ref Mh, .ref Mc, .int (iZ Mdr), .int (iZ Mrs), .ref Mz, .ref Mr, .ref Mq, .int (iZ Mit), .int (iZ Mmk)]) hm Ma Af x3 rfl hM ⟨by omega, by omega⟩) ci_X12_isRock qm_X12_243 ⟨Nat.le_of_ble_eq_true rfl, Nat.le_of_ble_eq_true rfl⟩ ⟨Nat.le_of_ble_eq_true rfl, Nat.le_of_ble_eq_true rfl⟩ 0 rfl rfl rfl hl.1 rfl (Nat.le_of_ble_eq_true rfl) dX12_knows_11 (fun z_3 hz_3 => ?_)
    rcases hz_3 with ⟨qz_3, hz_3⟩ | ⟨qz_3, hz_3⟩
    ·
      subst qz_3
      refine lv_if_ne (tgt := 23) hx hb dX12_knows_14 (by decide) (fun _ => ?_) (fun c => absurd c (by decide))
      refine lv_aload_n hx hb dX12_knows_23 rfl (lv_at hl 0 rfl) ?_
      refine lv_iload_n hx hb dX12_knows_24 rfl (lv_at hl 1 rfl) ?_
      refine lv_iload_n hx hb dX12_knows_25 rfl (lv_at hl 2 rfl) ?_
      refine CWV (As := [.int (iZ x1), .int (iZ x2)]) (rest := []) (wc := [(hm, .inr (12, [.ref Ma, .ref Mn, .int (iZ Mst), .long Mtp, .long Mbt, .ref Ms, .ref My, .ref Mt, .ref Mp, .ref Mx, .int (iZ Mtd), .int (iZ Msz), .int (iZ Mtk), .int (iZ Mfr), .int (iZ Men), .int (iZ Mva), .int (iZ Mfk), .int (iZ Mfp), .int (iZ Mfs), .int (iZ Mse), .int (iZ Mlt), .ref Mo, .int (iZ Mdp), .int (iZ Mct), .ref Mk, .ref Ml, .ref Mb, .ref Mh, .ref Mc, .int (iZ Mdr), .int (iZ Mrs), .ref Mz, .ref Mr, .ref Mq, .int (iZ Mit), .int (iZ Mmk)])), (Ma, .inl (k 1, 5340, .inl Af)), (Mk, .inl (k 1, 6, .inl Kf)), (Ml, .inl (k 1, 6, .inl Lf)), (Mb, .inl (k 1, 6, .inl Bf))]) (wr := []) hx hb hml hown hts hKK hP hD hS hA (m_lays l D k hm Ma Mn Ms My Mt Mp Mx Mo Mk Ml Mb Mh Mc Mz Mr Mq Mst Mtd Msz Mtk Mfr Men Mva Mfk Mfp Mfs Mse Mlt Mdp Mct Mdr Mrs Mit Mmk Mtp Mbt Af Kf Lf Bf x1 x2 hM ⟨by omega, by omega⟩ ⟨by omega, by omega⟩) ci_X12_lays qm_X12_302 ⟨Nat.le_of_ble_eq_true rfl, Nat.le_of_ble_eq_true rfl⟩ ⟨Nat.le_of_ble_eq_true rfl, Nat.le_of_ble_eq_true rfl⟩ [0, 1, 2, 3, 4] [] rfl rfl rfl rfl rfl (by decide) 0 rfl rfl rfl hl.1 rfl (Nat.le_of_ble_eq_true rfl) dX12_knows_26 (fun u_5 H locs hφ hP hD hS => ?_)
      obtain ⟨I_6, L_7, F_8, G_9⟩ := u_5
      obtain ⟨p_11, p_12⟩ : (KR (F_8 0) 6) ∧ (rgI (F_8 1) (-1) 5 6) := hφ
      refine W.eq (g2 := F0 m 29 ls []) rfl ?_
      refine lv_aload_n hx hb dX12_knows_29 rfl (lv_at hl 0 rfl) ?_
      refine lv_aload_n hx hb dX12_knows_30 rfl (lv_at hl 0 rfl) ?_
      refine va_get (D := D) (ci := 12) (v := .ref Mk) (C := RX12) (T := TX12) (N := 36) hx hb hts iX12 hown hK hP 0 rfl rfl 24 (by decide) (hts _ qf_X12_47) (fun _ h => h) rfl dX12_knows_31 ?_
      refine lv_iload_n hx hb dX12_knows_34 rfl (lv_at hl 3 rfl) ?_
      refine va_iald hx hb hK hP 2 1 rfl rfl (zin (e := x3) (n := 6) ⟨by omega, by omega⟩ (by decide)) dX12_knows_35 ?_
      refine lv_topi (fun x_13 ex_13 => ?_)
      obtain rfl : x_13 = iZ (gz (F_8 0) x3) := ex_13.trans (gz_eq ⟨by omega, by omega⟩)
      have h_14 := p_11 x3 (by omega) (by omega)
      refine CWV (As := [.int (iZ (gz (F_8 0) x3))]) (rest := []) (wc := [(hm, .inr (12, [.ref Ma, .ref Mn, .int (iZ Mst), .long Mtp, .long Mbt, .ref Ms, .ref My, .ref Mt, .ref Mp, .ref Mx, .int (iZ Mtd), .int (iZ Msz), .int (iZ Mtk), .int (iZ Mfr), .int (iZ Men), .int (iZ Mva), .int (iZ Mfk), .int (iZ Mfp), .int (iZ Mfs), .int (iZ Mse), .int (iZ Mlt), .ref Mo, .int (iZ Mdp), .int (iZ Mct), .ref Mk, .ref Ml, .ref Mb, .ref Mh, .ref Mc, .int (iZ Mdr), .int (iZ Mrs), .ref Mz, .ref Mr, .ref Mq, .int (iZ Mit), .int (iZ Mmk)]))]) (wr := [(Ma, .inl (k 1, 5340, .inl Af)), (Mk, .inl (k 1, 6, .inl (F_8 0))), (Ml, .inl (k 1, 6, .inl (F_8 1))), (Mb, .inl (k 1, 6, .inl (F_8 2)))]) hx hb hml hown hts hKK hP hD hS hA (m_orNever l D k hm Ma Mn Ms My Mt Mp Mx Mo Mk Ml Mb Mh Mc Mz Mr Mq Mst Mtd Msz Mtk Mfr Men Mva Mfk Mfp Mfs Mse Mlt Mdp Mct Mdr Mrs Mit Mmk Mtp Mbt (gz (F_8 0) x3) ⟨by omega, by omega⟩) ci_X12_orNever qm_X12_284 ⟨Nat.le_of_ble_eq_true rfl, Nat.le_of_ble_eq_true rfl⟩ ⟨Nat.le_of_ble_eq_true rfl, Nat.le_of_ble_eq_true rfl⟩ [0] [1, 2, 3, 4] rfl rfl rfl rfl rfl (by decide) 0 rfl rfl rfl hl.1 rfl (Nat.le_of_ble_eq_true rfl) dX12_knows_36 (fun u_15 H locs hφ hP hD hS => ?_)
      obtain ⟨I_16, L_17, F_18, G_19⟩ := u_15
      have p_21 : (((gz (F_8 0) x3) : Int) ≥ 1000000 ∧ (I_16 0) = -1 ∧ (I_16 1) = 6) ∨ (((gz (F_8 0) x3) : Int) < 1000000 ∧ (I_16 0) = (gz (F_8 0) x3) ∧ (I_16 1) = 0) := hφ
      refine W.eq (g2 := F0 m 39 ls [.int (iZ (I_16 0))]) rfl ?_
      exact EWi hx hb hr hlocks hS (fun i => [(I_16 0), (I_16 1)].getD i 0, fun i => [0].getD i 0, fun i => [(F_8 0), (F_8 1), (F_8 2)].getD i (fun _ => 0), fun i => [].getD i (fun _ => 0)) rfl trivial (hP.sub [4, 0, 1, 2, 3] rfl) (hD.sub [4, 0, 1, 2, 3] rfl rfl) dX12_knows_39
    ·
      subst qz_3
      refine lv_if_ne (tgt := 23) hx hb dX12_knows_14 (by decide) (fun c => absurd (by decide) c) (fun _ => ?_)
      refine lv_aload_n hx hb dX12_knows_17 rfl (lv_at hl 0 rfl) ?_
      refine lv_iconst (v := iZ 1) hx hb dX12_knows_18 (by decide) ?_
      refine CWV (As := [.int (iZ 1)]) (rest := []) (wc := [(hm, .inr (12, [.ref Ma, .ref Mn, .int (iZ Mst), .long Mtp, .long Mbt, .ref Ms, .ref My, .ref Mt, .ref Mp, .ref Mx, .int (iZ Mtd), .int (iZ Msz), .int (iZ Mtk), .int (iZ Mfr), .int (iZ Men), .int (iZ Mva), .int (iZ Mfk), .int (iZ Mfp), .int (iZ Mfs), .int (iZ Mse), .int (iZ Mlt), .ref Mo, .int (iZ Mdp), .int (iZ Mct), .ref Mk, .ref Ml, .ref Mb, .ref Mh, .ref Mc, .int (iZ Mdr), .int (iZ Mrs), .ref Mz, .ref Mr, .ref Mq, .int (iZ Mit), .int (iZ Mmk)]))]) (wr := [(Ma, .inl (k 1, 5340, .inl Af)), (Mk, .inl (k 1, 6, .inl Kf)), (Ml, .inl (k 1, 6, .inl Lf)), (Mb, .inl (k 1, 6, .inl Bf))]) hx hb hml hown hts hKK hP hD hS hA (m_refuse l D k hm Ma Mn Ms My Mt Mp Mx Mo Mk Ml Mb Mh Mc Mz Mr Mq Mst Mtd Msz Mtk Mfr Men Mva Mfk Mfp Mfs Mse Mlt Mdp Mct Mdr Mrs Mit Mmk Mtp Mbt 1) ci_X12_refuse qm_X12_81 ⟨Nat.le_of_ble_eq_true rfl, Nat.le_of_ble_eq_true rfl⟩ ⟨Nat.le_of_ble_eq_true rfl, Nat.le_of_ble_eq_true rfl⟩ [0] [1, 2, 3, 4] rfl rfl rfl rfl rfl (by decide) 0 rfl rfl rfl hl.1 rfl (Nat.le_of_ble_eq_true rfl) dX12_knows_19 (fun u_23 H locs hφ hP hD hS => ?_)
      obtain ⟨I_24, L_25, F_26, G_27⟩ := u_23
      refine W.eq (g2 := F0 m 22 ls [.int (iZ (-1))]) rfl ?_
      exact EWi hx hb hr hlocks hS (fun i => [(-1), 1].getD i 0, fun i => [0].getD i 0, fun i => [Kf, Lf, Bf].getD i (fun _ => 0), fun i => [].getD i (fun _ => 0)) rfl trivial (hP.sub [4, 0, 1, 2, 3] rfl) (hD.sub [4, 0, 1, 2, 3] rfl rfl) dX12_knows_22
  ·
    subst qz_1
    refine lv_if_eq (tgt := 17) hx hb dX12_knows_6 (by decide) (fun _ => ?_) (fun c => absurd (by decide) c)
    refine lv_aload_n hx hb dX12_knows_17 rfl (lv_at hl 0 rfl) ?_
    refine lv_iconst (v := iZ 1) hx hb dX12_knows_18 (by decide) ?_
    refine CWV (As := [.int (iZ 1)]) (rest := []) (wc := [(hm, .inr (12, [.ref Ma, .ref Mn, .int (iZ Mst), .long Mtp, .long Mbt, .ref Ms, .ref My, .ref Mt, .ref Mp, .ref Mx, .int (iZ Mtd), .int (iZ Msz), .int (iZ Mtk), .int (iZ Mfr), .int (iZ Men), .int (iZ Mva), .int (iZ Mfk), .int (iZ Mfp), .int (iZ Mfs), .int (iZ Mse), .int (iZ Mlt), .ref Mo, .int (iZ Mdp), .int (iZ Mct), .ref Mk, .ref Ml, .ref Mb, .ref Mh, .ref Mc, .int (iZ Mdr), .int (iZ Mrs), .ref Mz, .ref Mr, .ref Mq, .int (iZ Mit), .int (iZ Mmk)]))]) (wr := [(Ma, .inl (k 1, 5340, .inl Af)), (Mk, .inl (k 1, 6, .inl Kf)), (Ml, .inl (k 1, 6, .inl Lf)), (Mb, .inl (k 1, 6, .inl Bf))]) hx hb hml hown hts hKK hP hD hS hA (m_refuse l D k hm Ma Mn Ms My Mt Mp Mx Mo Mk Ml Mb Mh Mc Mz Mr Mq Mst Mtd Msz Mtk Mfr Men Mva Mfk Mfp Mfs Mse Mlt Mdp Mct Mdr Mrs Mit Mmk Mtp Mbt 1) ci_X12_refuse qm_X12_81 ⟨Nat.le_of_ble_eq_true rfl, Nat.le_of_ble_eq_true rfl⟩ ⟨Nat.le_of_ble_eq_true rfl, Nat.le_of_ble_eq_true rfl⟩ [0] [1, 2, 3, 4] rfl rfl rfl rfl rfl (by decide) 0 rfl rfl rfl hl.1 rfl (Nat.le_of_ble_eq_true rfl) dX12_knows_19 (fun u_30 H locs hφ hP hD hS => ?_)
    obtain ⟨I_31, L_32, F_33, G_34⟩ := u_30
    refine W.eq (g2 := F0 m 22 ls [.int (iZ (-1))]) rfl ?_
    exact EWi hx hb hr hlocks hS (fun i => [(-1), 1].getD i 0, fun i => [0].getD i 0, fun i => [Kf, Lf, Bf].getD i (fun _ => 0), fun i => [].getD i (fun _ => 0)) rfl trivial (hP.sub [4, 0, 1, 2, 3] rfl) (hD.sub [4, 0, 1, 2, 3] rfl rfl) dX12_knows_22
set_option maxHeartbeats 4000000 in
set_option maxRecDepth 100000 in
theorem q_teller (l : Launch) (D : va_G) (k : Nat → ClassId) (hm : Nat) (Ma : Nat) (Mn : Nat) (Ms : Nat) (My : Nat) (Mt : Nat) (Mp : Nat) (Mx : Nat) (Mo : Nat) (Mk : Nat) (Ml : Nat) (Mb : Nat) (Mh : Nat) (Mc : Nat) (Mz : Nat) (Mr : Nat) (Mq : Nat) (Mst : Int) (Mtd : Int) (Msz : Int) (Mtk : Int) (Mfr : Int) (Men : Int) (Mva : Int) (Mfk : Int) (Mfp : Int) (Mfs : Int) (Mse : Int) (Mlt : Int) (Mdp : Int) (Mct : Int) (Mdr : Int) (Mrs : Int) (Mit : Int) (Mmk : Int) (Mtp : Int64) (Mbt : Int64) (Af : Nat → Int32) (Kf : Nat → Int32) (Lf : Nat → Int32) (Bf : Nat → Int32) (x1 : Int) (x2 : Int) (x3 : Int) (hM : M0 Af) (h9x1 : -2147483648 ≤ x1 ∧ x1 < 2147483648) (h9x2 : -2147483648 ≤ x2 ∧ x2 < 2147483648) (h9x3 : -2147483648 ≤ x3 ∧ x3 < 2147483648) : WD (σ := ((Nat → Int) × (Nat → Int64) × (Nat → Nat → Int32) × (Nat → Nat → Int64))) l yX12_teller cX12_teller 4 (some .int) 6 0 0 D k [.ref hm, .int (iZ x1), .int (iZ x2), .int (iZ x3)] [(hm, .inr (12, [.ref Ma, .ref Mn, .int (iZ Mst), .long Mtp, .long Mbt, .ref Ms, .ref My, .ref Mt, .ref Mp, .ref Mx, .int (iZ Mtd), .int (iZ Msz), .int (iZ Mtk), .int (iZ Mfr), .int (iZ Men), .int (iZ Mva), .int (iZ Mfk), .int (iZ Mfp), .int (iZ Mfs), .int (iZ Mse), .int (iZ Mlt), .ref Mo, .int (iZ Mdp), .int (iZ Mct), .ref Mk, .ref Ml, .ref Mb, .ref Mh, .ref Mc, .int (iZ Mdr), .int (iZ Mrs), .ref Mz, .ref Mr, .ref Mq, .int (iZ Mit), .int (iZ Mmk)])), (Ma, .inl (k 1, 5340, .inl Af)), (Mk, .inl (k 1, 6, .inl Kf)), (Ml, .inl (k 1, 6, .inl Lf)), (Mb, .inl (k 1, 6, .inl Bf))] (fun u => some (.int (iZ (u.1 0)))) (fun _ => True) (fun u => [(hm, .inr (12, [.ref Ma, .ref Mn, .int (iZ (u.1 1)), .long Mtp, .long Mbt, .ref Ms, .ref My, .ref Mt, .ref Mp, .ref Mx, .int (iZ Mtd), .int (iZ Msz), .int (iZ Mtk), .int (iZ Mfr), .int (iZ Men), .int (iZ Mva), .int (iZ Mfk), .int (iZ Mfp), .int (iZ Mfs), .int (iZ Mse), .int (iZ Mlt), .ref Mo, .int (iZ Mdp), .int (iZ Mct), .ref Mk, .ref Ml, .ref Mb, .ref Mh, .ref Mc, .int (iZ Mdr), .int (iZ Mrs), .ref Mz, .ref Mr, .ref Mq, .int (iZ Mit), .int (iZ Mmk)])), (Ma, .inl (k 1, 5340, .inl Af)), (Mk, .inl (k 1, 6, .inl (u.2.2.1 0))), (Ml, .inl (k 1, 6, .inl (u.2.2.1 1))), (Mb, .inl (k 1, 6, .inl (u.2.2.1 2)))]) := by
  refine MW (by decide) (Nat.le_of_ble_eq_true rfl) (fun p e s m below meth c ls A hx hb hml hr hlocks hin hts hown hKK hP hD hS hA hl => ?_)
  have hK := hKK.1
  have hl : lv_has ls 4 [(0, .ref hm), (1, .int (iZ x1)), (2, .int (iZ x2)), (3, .int (iZ x3))] := hl
  obtain ⟨m0, m1, m3, m4, m5, mF, mO, mS⟩ := id hM
  refine lv_aload_n hx hb dX12_teller_0 rfl (lv_at hl 0 rfl) ?_
  refine lv_iload_n hx hb dX12_teller_1 rfl (lv_at hl 1 rfl) ?_
  refine lv_iload_n hx hb dX12_teller_2 rfl (lv_at hl 2 rfl) ?_
  refine CPV (As := [.int (iZ x1), .int (iZ x2)]) (rest := []) hx hb hml hown hts hKK (hP.sub (ws' := [(hm, .inr (12, [.ref Ma, .ref Mn, .int (iZ Mst), .long Mtp, .long Mbt, .ref Ms, .ref My, .ref Mt, .ref Mp, .ref Mx, .int (iZ Mtd), .int (iZ Msz), .int (iZ Mtk), .int (iZ Mfr), .int (iZ Men), .int (iZ Mva), .int (iZ Mfk), .int (iZ Mfp), .int (iZ Mfs), .int (iZ Mse), .int (iZ Mlt), .ref Mo, .int (iZ Mdp), .int (iZ Mct), .ref Mk, .ref Ml, .ref Mb, .ref Mh, .ref Mc, .int (iZ Mdr), .int (iZ Mrs), .ref Mz, .ref Mr, .ref Mq, .int (iZ Mit), .int (iZ Mmk)])), (Ma, .inl (k 1, 5340, .inl Af))]) [0, 1] rfl) (m_isNews l D k ([.ref Ma, .ref Mn, .int (iZ Mst), .long Mtp, .long Mbt, .ref Ms, .ref My, .ref Mt, .ref Mp, .ref Mx, .int (iZ Mtd), .int (iZ Msz), .int (iZ Mtk), .int (iZ Mfr), .int (iZ Men), .int (iZ Mva), .int (iZ Mfk), .int (iZ Mfp), .int (iZ Mfs), .int (iZ Mse), .int (iZ Mlt), .ref Mo, .int (iZ Mdp), .int (iZ Mct), .ref Mk, .ref Ml, .ref Mb, .ref Mh, .ref Mc, .int (iZ Mdr), .int (iZ Mrs), .ref Mz, .ref Mr, .ref Mq, .int (iZ Mit), .int (iZ Mmk)]) hm Ma Af x1 x2 rfl hM ⟨by omega, by omega⟩ ⟨by omega, by omega⟩) ci_X12_isNews qm_X12_299 ⟨Nat.le_of_ble_eq_true rfl, Nat.le_of_ble_eq_true rfl⟩ ⟨Nat.le_of_ble_eq_true rfl, Nat.le_of_ble_eq_true rfl⟩ 0 rfl rfl rfl hl.1 rfl (Nat.le_of_ble_eq_true rfl) dX12_teller_3 (fun z_1 hz_1 => ?_)
  rcases hz_1 with ⟨qz_1, hz_1⟩ | ⟨qz_1, hz_1⟩
  ·
    subst qz_1
    refine lv_if_eq (tgt := 17) hx hb dX12_teller_6 (by decide) (fun c => absurd c (by decide)) (fun _ => ?_)
    refine lv_aload_n hx hb dX12_teller_9 rfl (lv_at hl 0 rfl) ?_
    refine lv_iload_n hx hb dX12_teller_10 rfl (lv_at hl 3 rfl) ?_
    refine CPV (As := [.int (iZ x3)]) (rest := []) hx hb hml hown hts hKK (hP.sub (ws' := [(hm, .inr (12, [.ref Ma, .ref Mn, .int (iZ Mst), .long Mtp, .long Mbt, .ref Ms, .ref My, .ref Mt, .ref Mp, .ref Mx, .int (iZ Mtd), .int (iZ Msz), .int (iZ Mtk), .int (iZ Mfr), .int (iZ Men), .int (iZ Mva), .int (iZ Mfk), .int (iZ Mfp), .int (iZ Mfs), .int (iZ Mse), .int (iZ Mlt), .ref Mo, .int (iZ Mdp), .int (iZ Mct), .ref Mk, .ref Ml, .ref Mb, .ref Mh, .ref Mc, .int (iZ Mdr), .int (iZ Mrs), .ref Mz, .ref Mr, .ref Mq, .int (iZ Mit), .int (iZ Mmk)])), (Ma, .inl (k 1, 5340, .inl Af))]) [0, 1] rfl) (m_isRock l D k ([.ref Ma, .ref Mn, .int (iZ Mst), .long Mtp, .long Mbt, .ref Ms, .ref My, .ref Mt, .ref Mp, .ref Mx, .int (iZ Mtd), .int (iZ Msz), .int (iZ Mtk), .int (iZ Mfr), .int (iZ Men), .int (iZ Mva), .int (iZ Mfk), .int (iZ Mfp), .int (iZ Mfs), .int (iZ Mse), .int (iZ Mlt), .ref Mo, .int (iZ Mdp), .int (iZ Mct), .ref Mk, .ref Ml, .ref Mb, .ref Mh, .ref Mc, .int (iZ Mdr), .int (iZ Mrs), .ref Mz, .ref Mr, .ref Mq, .int (iZ Mit), .int (iZ Mmk)]) hm Ma Af x3 rfl hM ⟨by omega, by omega⟩) ci_X12_isRock qm_X12_243 ⟨Nat.le_of_ble_eq_true rfl, Nat.le_of_ble_eq_true rfl⟩ ⟨Nat.le_of_ble_eq_true rfl, Nat.le_of_ble_eq_true rfl⟩ 0 rfl rfl rfl hl.1 rfl (Nat.le_of_ble_eq_true rfl) dX12_teller_11 (fun z_3 hz_3 => ?_)
    rcases hz_3 with ⟨qz_3, hz_3⟩ | ⟨qz_3, hz_3⟩
    ·
      subst qz_3
      refine lv_if_ne (tgt := 23) hx hb dX12_teller_14 (by decide) (fun _ => ?_) (fun c => absurd c (by decide))
      refine lv_aload_n hx hb dX12_teller_23 rfl (lv_at hl 0 rfl) ?_
      refine lv_iload_n hx hb dX12_teller_24 rfl (lv_at hl 1 rfl) ?_
      refine lv_iload_n hx hb dX12_teller_25 rfl (lv_at hl 2 rfl) ?_
      refine CWV (As := [.int (iZ x1), .int (iZ x2)]) (rest := []) (wc := [(hm, .inr (12, [.ref Ma, .ref Mn, .int (iZ Mst), .long Mtp, .long Mbt, .ref Ms, .ref My, .ref Mt, .ref Mp, .ref Mx, .int (iZ Mtd), .int (iZ Msz), .int (iZ Mtk), .int (iZ Mfr), .int (iZ Men), .int (iZ Mva), .int (iZ Mfk), .int (iZ Mfp), .int (iZ Mfs), .int (iZ Mse), .int (iZ Mlt), .ref Mo, .int (iZ Mdp), .int (iZ Mct), .ref Mk, .ref Ml, .ref Mb, .ref Mh, .ref Mc, .int (iZ Mdr), .int (iZ Mrs), .ref Mz, .ref Mr, .ref Mq, .int (iZ Mit), .int (iZ Mmk)])), (Ma, .inl (k 1, 5340, .inl Af)), (Mk, .inl (k 1, 6, .inl Kf)), (Ml, .inl (k 1, 6, .inl Lf)), (Mb, .inl (k 1, 6, .inl Bf))]) (wr := []) hx hb hml hown hts hKK hP hD hS hA (m_lays l D k hm Ma Mn Ms My Mt Mp Mx Mo Mk Ml Mb Mh Mc Mz Mr Mq Mst Mtd Msz Mtk Mfr Men Mva Mfk Mfp Mfs Mse Mlt Mdp Mct Mdr Mrs Mit Mmk Mtp Mbt Af Kf Lf Bf x1 x2 hM ⟨by omega, by omega⟩ ⟨by omega, by omega⟩) ci_X12_lays qm_X12_302 ⟨Nat.le_of_ble_eq_true rfl, Nat.le_of_ble_eq_true rfl⟩ ⟨Nat.le_of_ble_eq_true rfl, Nat.le_of_ble_eq_true rfl⟩ [0, 1, 2, 3, 4] [] rfl rfl rfl rfl rfl (by decide) 0 rfl rfl rfl hl.1 rfl (Nat.le_of_ble_eq_true rfl) dX12_teller_26 (fun u_5 H locs hφ hP hD hS => ?_)
      obtain ⟨I_6, L_7, F_8, G_9⟩ := u_5
      obtain ⟨p_11, p_12⟩ : (KR (F_8 0) 6) ∧ (rgI (F_8 1) (-1) 5 6) := hφ
      refine W.eq (g2 := F0 m 29 ls []) rfl ?_
      refine lv_aload_n hx hb dX12_teller_29 rfl (lv_at hl 0 rfl) ?_
      refine lv_aload_n hx hb dX12_teller_30 rfl (lv_at hl 0 rfl) ?_
      refine va_get (D := D) (ci := 12) (v := .ref Ml) (C := RX12) (T := TX12) (N := 36) hx hb hts iX12 hown hK hP 0 rfl rfl 25 (by decide) (hts _ qf_X12_50) (fun _ h => h) rfl dX12_teller_31 ?_
      refine lv_iload_n hx hb dX12_teller_34 rfl (lv_at hl 3 rfl) ?_
      refine va_iald hx hb hK hP 3 1 rfl rfl (zin (e := x3) (n := 6) ⟨by omega, by omega⟩ (by decide)) dX12_teller_35 ?_
      refine lv_topi (fun x_13 ex_13 => ?_)
      obtain rfl : x_13 = iZ (gz (F_8 1) x3) := ex_13.trans (gz_eq ⟨by omega, by omega⟩)
      have h_14 := p_12 x3 (by omega) (by omega)
      refine CWV (As := [.int (iZ (gz (F_8 1) x3))]) (rest := []) (wc := [(hm, .inr (12, [.ref Ma, .ref Mn, .int (iZ Mst), .long Mtp, .long Mbt, .ref Ms, .ref My, .ref Mt, .ref Mp, .ref Mx, .int (iZ Mtd), .int (iZ Msz), .int (iZ Mtk), .int (iZ Mfr), .int (iZ Men), .int (iZ Mva), .int (iZ Mfk), .int (iZ Mfp), .int (iZ Mfs), .int (iZ Mse), .int (iZ Mlt), .ref Mo, .int (iZ Mdp), .int (iZ Mct), .ref Mk, .ref Ml, .ref Mb, .ref Mh, .ref Mc, .int (iZ Mdr), .int (iZ Mrs), .ref Mz, .ref Mr, .ref Mq, .int (iZ Mit), .int (iZ Mmk)]))]) (wr := [(Ma, .inl (k 1, 5340, .inl Af)), (Mk, .inl (k 1, 6, .inl (F_8 0))), (Ml, .inl (k 1, 6, .inl (F_8 1))), (Mb, .inl (k 1, 6, .inl (F_8 2)))]) hx hb hml hown hts hKK hP hD hS hA (m_orNone l D k hm Ma Mn Ms My Mt Mp Mx Mo Mk Ml Mb Mh Mc Mz Mr Mq Mst Mtd Msz Mtk Mfr Men Mva Mfk Mfp Mfs Mse Mlt Mdp Mct Mdr Mrs Mit Mmk Mtp Mbt (gz (F_8 1) x3) ⟨by omega, by omega⟩) ci_X12_orNone qm_X12_290 ⟨Nat.le_of_ble_eq_true rfl, Nat.le_of_ble_eq_true rfl⟩ ⟨Nat.le_of_ble_eq_true rfl, Nat.le_of_ble_eq_true rfl⟩ [0] [1, 2, 3, 4] rfl rfl rfl rfl rfl (by decide) 0 rfl rfl rfl hl.1 rfl (Nat.le_of_ble_eq_true rfl) dX12_teller_36 (fun u_15 H locs hφ hP hD hS => ?_)
      obtain ⟨I_16, L_17, F_18, G_19⟩ := u_15
      have p_21 : (((gz (F_8 1) x3) : Int) = -1 ∧ (I_16 1) = 6) ∨ (¬ ((gz (F_8 1) x3) : Int) = -1 ∧ (I_16 1) = 0) := hφ
      refine W.eq (g2 := F0 m 39 ls [.int (iZ (gz (F_8 1) x3))]) rfl ?_
      exact EWi hx hb hr hlocks hS (fun i => [(gz (F_8 1) x3), (I_16 1)].getD i 0, fun i => [0].getD i 0, fun i => [(F_8 0), (F_8 1), (F_8 2)].getD i (fun _ => 0), fun i => [].getD i (fun _ => 0)) rfl trivial (hP.sub [4, 0, 1, 2, 3] rfl) (hD.sub [4, 0, 1, 2, 3] rfl rfl) dX12_teller_39
    ·
      subst qz_3
      refine lv_if_ne (tgt := 23) hx hb dX12_teller_14 (by decide) (fun c => absurd (by decide) c) (fun _ => ?_)
      refine lv_aload_n hx hb dX12_teller_17 rfl (lv_at hl 0 rfl) ?_
      refine lv_iconst (v := iZ 1) hx hb dX12_teller_18 (by decide) ?_
      refine CWV (As := [.int (iZ 1)]) (rest := []) (wc := [(hm, .inr (12, [.ref Ma, .ref Mn, .int (iZ Mst), .long Mtp, .long Mbt, .ref Ms, .ref My, .ref Mt, .ref Mp, .ref Mx, .int (iZ Mtd), .int (iZ Msz), .int (iZ Mtk), .int (iZ Mfr), .int (iZ Men), .int (iZ Mva), .int (iZ Mfk), .int (iZ Mfp), .int (iZ Mfs), .int (iZ Mse), .int (iZ Mlt), .ref Mo, .int (iZ Mdp), .int (iZ Mct), .ref Mk, .ref Ml, .ref Mb, .ref Mh, .ref Mc, .int (iZ Mdr), .int (iZ Mrs), .ref Mz, .ref Mr, .ref Mq, .int (iZ Mit), .int (iZ Mmk)]))]) (wr := [(Ma, .inl (k 1, 5340, .inl Af)), (Mk, .inl (k 1, 6, .inl Kf)), (Ml, .inl (k 1, 6, .inl Lf)), (Mb, .inl (k 1, 6, .inl Bf))]) hx hb hml hown hts hKK hP hD hS hA (m_refuse l D k hm Ma Mn Ms My Mt Mp Mx Mo Mk Ml Mb Mh Mc Mz Mr Mq Mst Mtd Msz Mtk Mfr Men Mva Mfk Mfp Mfs Mse Mlt Mdp Mct Mdr Mrs Mit Mmk Mtp Mbt 1) ci_X12_refuse qm_X12_81 ⟨Nat.le_of_ble_eq_true rfl, Nat.le_of_ble_eq_true rfl⟩ ⟨Nat.le_of_ble_eq_true rfl, Nat.le_of_ble_eq_true rfl⟩ [0] [1, 2, 3, 4] rfl rfl rfl rfl rfl (by decide) 0 rfl rfl rfl hl.1 rfl (Nat.le_of_ble_eq_true rfl) dX12_teller_19 (fun u_23 H locs hφ hP hD hS => ?_)
      obtain ⟨I_24, L_25, F_26, G_27⟩ := u_23
      refine W.eq (g2 := F0 m 22 ls [.int (iZ (-1))]) rfl ?_
      exact EWi hx hb hr hlocks hS (fun i => [(-1), 1].getD i 0, fun i => [0].getD i 0, fun i => [Kf, Lf, Bf].getD i (fun _ => 0), fun i => [].getD i (fun _ => 0)) rfl trivial (hP.sub [4, 0, 1, 2, 3] rfl) (hD.sub [4, 0, 1, 2, 3] rfl rfl) dX12_teller_22
  ·
    subst qz_1
    refine lv_if_eq (tgt := 17) hx hb dX12_teller_6 (by decide) (fun _ => ?_) (fun c => absurd (by decide) c)
    refine lv_aload_n hx hb dX12_teller_17 rfl (lv_at hl 0 rfl) ?_
    refine lv_iconst (v := iZ 1) hx hb dX12_teller_18 (by decide) ?_
    refine CWV (As := [.int (iZ 1)]) (rest := []) (wc := [(hm, .inr (12, [.ref Ma, .ref Mn, .int (iZ Mst), .long Mtp, .long Mbt, .ref Ms, .ref My, .ref Mt, .ref Mp, .ref Mx, .int (iZ Mtd), .int (iZ Msz), .int (iZ Mtk), .int (iZ Mfr), .int (iZ Men), .int (iZ Mva), .int (iZ Mfk), .int (iZ Mfp), .int (iZ Mfs), .int (iZ Mse), .int (iZ Mlt), .ref Mo, .int (iZ Mdp), .int (iZ Mct), .ref Mk, .ref Ml, .ref Mb, .ref Mh, .ref Mc, .int (iZ Mdr), .int (iZ Mrs), .ref Mz, .ref Mr, .ref Mq, .int (iZ Mit), .int (iZ Mmk)]))]) (wr := [(Ma, .inl (k 1, 5340, .inl Af)), (Mk, .inl (k 1, 6, .inl Kf)), (Ml, .inl (k 1, 6, .inl Lf)), (Mb, .inl (k 1, 6, .inl Bf))]) hx hb hml hown hts hKK hP hD hS hA (m_refuse l D k hm Ma Mn Ms My Mt Mp Mx Mo Mk Ml Mb Mh Mc Mz Mr Mq Mst Mtd Msz Mtk Mfr Men Mva Mfk Mfp Mfs Mse Mlt Mdp Mct Mdr Mrs Mit Mmk Mtp Mbt 1) ci_X12_refuse qm_X12_81 ⟨Nat.le_of_ble_eq_true rfl, Nat.le_of_ble_eq_true rfl⟩ ⟨Nat.le_of_ble_eq_true rfl, Nat.le_of_ble_eq_true rfl⟩ [0] [1, 2, 3, 4] rfl rfl rfl rfl rfl (by decide) 0 rfl rfl rfl hl.1 rfl (Nat.le_of_ble_eq_true rfl) dX12_teller_19 (fun u_30 H locs hφ hP hD hS => ?_)
    obtain ⟨I_31, L_32, F_33, G_34⟩ := u_30
    refine W.eq (g2 := F0 m 22 ls [.int (iZ (-1))]) rfl ?_
    exact EWi hx hb hr hlocks hS (fun i => [(-1), 1].getD i 0, fun i => [0].getD i 0, fun i => [Kf, Lf, Bf].getD i (fun _ => 0), fun i => [].getD i (fun _ => 0)) rfl trivial (hP.sub [4, 0, 1, 2, 3] rfl) (hD.sub [4, 0, 1, 2, 3] rfl rfl) dX12_teller_22
set_option maxHeartbeats 4000000 in
set_option maxRecDepth 100000 in
theorem q_hops (l : Launch) (D : va_G) (k : Nat → ClassId) (hm : Nat) (Ma : Nat) (Mn : Nat) (Ms : Nat) (My : Nat) (Mt : Nat) (Mp : Nat) (Mx : Nat) (Mo : Nat) (Mk : Nat) (Ml : Nat) (Mb : Nat) (Mh : Nat) (Mc : Nat) (Mz : Nat) (Mr : Nat) (Mq : Nat) (Mst : Int) (Mtd : Int) (Msz : Int) (Mtk : Int) (Mfr : Int) (Men : Int) (Mva : Int) (Mfk : Int) (Mfp : Int) (Mfs : Int) (Mse : Int) (Mlt : Int) (Mdp : Int) (Mct : Int) (Mdr : Int) (Mrs : Int) (Mit : Int) (Mmk : Int) (Mtp : Int64) (Mbt : Int64) (Af : Nat → Int32) (Kf : Nat → Int32) (Lf : Nat → Int32) (Bf : Nat → Int32) (x1 : Int) (x2 : Int) (x3 : Int) (hM : M0 Af) (h9x1 : -2147483648 ≤ x1 ∧ x1 < 2147483648) (h9x2 : -2147483648 ≤ x2 ∧ x2 < 2147483648) (h9x3 : -2147483648 ≤ x3 ∧ x3 < 2147483648) : WD (σ := ((Nat → Int) × (Nat → Int64) × (Nat → Nat → Int32) × (Nat → Nat → Int64))) l yX12_hops cX12_hops 4 (some .int) 6 0 0 D k [.ref hm, .int (iZ x1), .int (iZ x2), .int (iZ x3)] [(hm, .inr (12, [.ref Ma, .ref Mn, .int (iZ Mst), .long Mtp, .long Mbt, .ref Ms, .ref My, .ref Mt, .ref Mp, .ref Mx, .int (iZ Mtd), .int (iZ Msz), .int (iZ Mtk), .int (iZ Mfr), .int (iZ Men), .int (iZ Mva), .int (iZ Mfk), .int (iZ Mfp), .int (iZ Mfs), .int (iZ Mse), .int (iZ Mlt), .ref Mo, .int (iZ Mdp), .int (iZ Mct), .ref Mk, .ref Ml, .ref Mb, .ref Mh, .ref Mc, .int (iZ Mdr), .int (iZ Mrs), .ref Mz, .ref Mr, .ref Mq, .int (iZ Mit), .int (iZ Mmk)])), (Ma, .inl (k 1, 5340, .inl Af)), (Mk, .inl (k 1, 6, .inl Kf)), (Ml, .inl (k 1, 6, .inl Lf)), (Mb, .inl (k 1, 6, .inl Bf))] (fun u => some (.int (iZ (u.1 0)))) (fun _ => True) (fun u => [(hm, .inr (12, [.ref Ma, .ref Mn, .int (iZ (u.1 1)), .long Mtp, .long Mbt, .ref Ms, .ref My, .ref Mt, .ref Mp, .ref Mx, .int (iZ Mtd), .int (iZ Msz), .int (iZ Mtk), .int (iZ Mfr), .int (iZ Men), .int (iZ Mva), .int (iZ Mfk), .int (iZ Mfp), .int (iZ Mfs), .int (iZ Mse), .int (iZ Mlt), .ref Mo, .int (iZ Mdp), .int (iZ Mct), .ref Mk, .ref Ml, .ref Mb, .ref Mh, .ref Mc, .int (iZ Mdr), .int (iZ Mrs), .ref Mz, .ref Mr, .ref Mq, .int (iZ Mit), .int (iZ Mmk)])), (Ma, .inl (k 1, 5340, .inl Af)), (Mk, .inl (k 1, 6, .inl (u.2.2.1 0))), (Ml, .inl (k 1, 6, .inl (u.2.2.1 1))), (Mb, .inl (k 1, 6, .inl (u.2.2.1 2)))]) := by
  refine MW (by decide) (Nat.le_of_ble_eq_true rfl) (fun p e s m below meth c ls A hx hb hml hr hlocks hin hts hown hKK hP hD hS hA hl => ?_)
  have hK := hKK.1
  have hl : lv_has ls 4 [(0, .ref hm), (1, .int (iZ x1)), (2, .int (iZ x2)), (3, .int (iZ x3))] := hl
  obtain ⟨m0, m1, m3, m4, m5, mF, mO, mS⟩ := id hM
  refine lv_aload_n hx hb dX12_hops_0 rfl (lv_at hl 0 rfl) ?_
  refine lv_iload_n hx hb dX12_hops_1 rfl (lv_at hl 1 rfl) ?_
  refine lv_iload_n hx hb dX12_hops_2 rfl (lv_at hl 2 rfl) ?_
  refine CPV (As := [.int (iZ x1), .int (iZ x2)]) (rest := []) hx hb hml hown hts hKK (hP.sub (ws' := [(hm, .inr (12, [.ref Ma, .ref Mn, .int (iZ Mst), .long Mtp, .long Mbt, .ref Ms, .ref My, .ref Mt, .ref Mp, .ref Mx, .int (iZ Mtd), .int (iZ Msz), .int (iZ Mtk), .int (iZ Mfr), .int (iZ Men), .int (iZ Mva), .int (iZ Mfk), .int (iZ Mfp), .int (iZ Mfs), .int (iZ Mse), .int (iZ Mlt), .ref Mo, .int (iZ Mdp), .int (iZ Mct), .ref Mk, .ref Ml, .ref Mb, .ref Mh, .ref Mc, .int (iZ Mdr), .int (iZ Mrs), .ref Mz, .ref Mr, .ref Mq, .int (iZ Mit), .int (iZ Mmk)])), (Ma, .inl (k 1, 5340, .inl Af))]) [0, 1] rfl) (m_isNews l D k ([.ref Ma, .ref Mn, .int (iZ Mst), .long Mtp, .long Mbt, .ref Ms, .ref My, .ref Mt, .ref Mp, .ref Mx, .int (iZ Mtd), .int (iZ Msz), .int (iZ Mtk), .int (iZ Mfr), .int (iZ Men), .int (iZ Mva), .int (iZ Mfk), .int (iZ Mfp), .int (iZ Mfs), .int (iZ Mse), .int (iZ Mlt), .ref Mo, .int (iZ Mdp), .int (iZ Mct), .ref Mk, .ref Ml, .ref Mb, .ref Mh, .ref Mc, .int (iZ Mdr), .int (iZ Mrs), .ref Mz, .ref Mr, .ref Mq, .int (iZ Mit), .int (iZ Mmk)]) hm Ma Af x1 x2 rfl hM ⟨by omega, by omega⟩ ⟨by omega, by omega⟩) ci_X12_isNews qm_X12_299 ⟨Nat.le_of_ble_eq_true rfl, Nat.le_of_ble_eq_true rfl⟩ ⟨Nat.le_of_ble_eq_true rfl, Nat.le_of_ble_eq_true rfl⟩ 0 rfl rfl rfl hl.1 rfl (Nat.le_of_ble_eq_true rfl) dX12_hops_3 (fun z_1 hz_1 => ?_)
  rcases hz_1 with ⟨qz_1, hz_1⟩ | ⟨qz_1, hz_1⟩
  ·
    subst qz_1
    refine lv_if_eq (tgt := 17) hx hb dX12_hops_6 (by decide) (fun c => absurd c (by decide)) (fun _ => ?_)
    refine lv_aload_n hx hb dX12_hops_9 rfl (lv_at hl 0 rfl) ?_
    refine lv_iload_n hx hb dX12_hops_10 rfl (lv_at hl 3 rfl) ?_
    refine CPV (As := [.int (iZ x3)]) (rest := []) hx hb hml hown hts hKK (hP.sub (ws' := [(hm, .inr (12, [.ref Ma, .ref Mn, .int (iZ Mst), .long Mtp, .long Mbt, .ref Ms, .ref My, .ref Mt, .ref Mp, .ref Mx, .int (iZ Mtd), .int (iZ Msz), .int (iZ Mtk), .int (iZ Mfr), .int (iZ Men), .int (iZ Mva), .int (iZ Mfk), .int (iZ Mfp), .int (iZ Mfs), .int (iZ Mse), .int (iZ Mlt), .ref Mo, .int (iZ Mdp), .int (iZ Mct), .ref Mk, .ref Ml, .ref Mb, .ref Mh, .ref Mc, .int (iZ Mdr), .int (iZ Mrs), .ref Mz, .ref Mr, .ref Mq, .int (iZ Mit), .int (iZ Mmk)])), (Ma, .inl (k 1, 5340, .inl Af))]) [0, 1] rfl) (m_isRock l D k ([.ref Ma, .ref Mn, .int (iZ Mst), .long Mtp, .long Mbt, .ref Ms, .ref My, .ref Mt, .ref Mp, .ref Mx, .int (iZ Mtd), .int (iZ Msz), .int (iZ Mtk), .int (iZ Mfr), .int (iZ Men), .int (iZ Mva), .int (iZ Mfk), .int (iZ Mfp), .int (iZ Mfs), .int (iZ Mse), .int (iZ Mlt), .ref Mo, .int (iZ Mdp), .int (iZ Mct), .ref Mk, .ref Ml, .ref Mb, .ref Mh, .ref Mc, .int (iZ Mdr), .int (iZ Mrs), .ref Mz, .ref Mr, .ref Mq, .int (iZ Mit), .int (iZ Mmk)]) hm Ma Af x3 rfl hM ⟨by omega, by omega⟩) ci_X12_isRock qm_X12_243 ⟨Nat.le_of_ble_eq_true rfl, Nat.le_of_ble_eq_true rfl⟩ ⟨Nat.le_of_ble_eq_true rfl, Nat.le_of_ble_eq_true rfl⟩ 0 rfl rfl rfl hl.1 rfl (Nat.le_of_ble_eq_true rfl) dX12_hops_11 (fun z_3 hz_3 => ?_)
    rcases hz_3 with ⟨qz_3, hz_3⟩ | ⟨qz_3, hz_3⟩
    ·
      subst qz_3
      refine lv_if_ne (tgt := 23) hx hb dX12_hops_14 (by decide) (fun _ => ?_) (fun c => absurd c (by decide))
      refine lv_aload_n hx hb dX12_hops_23 rfl (lv_at hl 0 rfl) ?_
      refine lv_iload_n hx hb dX12_hops_24 rfl (lv_at hl 1 rfl) ?_
      refine lv_iload_n hx hb dX12_hops_25 rfl (lv_at hl 2 rfl) ?_
      refine CWV (As := [.int (iZ x1), .int (iZ x2)]) (rest := []) (wc := [(hm, .inr (12, [.ref Ma, .ref Mn, .int (iZ Mst), .long Mtp, .long Mbt, .ref Ms, .ref My, .ref Mt, .ref Mp, .ref Mx, .int (iZ Mtd), .int (iZ Msz), .int (iZ Mtk), .int (iZ Mfr), .int (iZ Men), .int (iZ Mva), .int (iZ Mfk), .int (iZ Mfp), .int (iZ Mfs), .int (iZ Mse), .int (iZ Mlt), .ref Mo, .int (iZ Mdp), .int (iZ Mct), .ref Mk, .ref Ml, .ref Mb, .ref Mh, .ref Mc, .int (iZ Mdr), .int (iZ Mrs), .ref Mz, .ref Mr, .ref Mq, .int (iZ Mit), .int (iZ Mmk)])), (Ma, .inl (k 1, 5340, .inl Af)), (Mk, .inl (k 1, 6, .inl Kf)), (Ml, .inl (k 1, 6, .inl Lf)), (Mb, .inl (k 1, 6, .inl Bf))]) (wr := []) hx hb hml hown hts hKK hP hD hS hA (m_lays l D k hm Ma Mn Ms My Mt Mp Mx Mo Mk Ml Mb Mh Mc Mz Mr Mq Mst Mtd Msz Mtk Mfr Men Mva Mfk Mfp Mfs Mse Mlt Mdp Mct Mdr Mrs Mit Mmk Mtp Mbt Af Kf Lf Bf x1 x2 hM ⟨by omega, by omega⟩ ⟨by omega, by omega⟩) ci_X12_lays qm_X12_302 ⟨Nat.le_of_ble_eq_true rfl, Nat.le_of_ble_eq_true rfl⟩ ⟨Nat.le_of_ble_eq_true rfl, Nat.le_of_ble_eq_true rfl⟩ [0, 1, 2, 3, 4] [] rfl rfl rfl rfl rfl (by decide) 0 rfl rfl rfl hl.1 rfl (Nat.le_of_ble_eq_true rfl) dX12_hops_26 (fun u_5 H locs hφ hP hD hS => ?_)
      obtain ⟨I_6, L_7, F_8, G_9⟩ := u_5
      obtain ⟨p_11, p_12⟩ : (KR (F_8 0) 6) ∧ (rgI (F_8 1) (-1) 5 6) := hφ
      refine W.eq (g2 := F0 m 29 ls []) rfl ?_
      refine lv_aload_n hx hb dX12_hops_29 rfl (lv_at hl 0 rfl) ?_
      refine va_get (D := D) (ci := 12) (v := .ref Mk) (C := RX12) (T := TX12) (N := 36) hx hb hts iX12 hown hK hP 0 rfl rfl 24 (by decide) (hts _ qf_X12_47) (fun _ h => h) rfl dX12_hops_30 ?_
      refine lv_iload_n hx hb dX12_hops_33 rfl (lv_at hl 3 rfl) ?_
      refine va_iald hx hb hK hP 2 1 rfl rfl (zin (e := x3) (n := 6) ⟨by omega, by omega⟩ (by decide)) dX12_hops_34 ?_
      refine lv_topi (fun x_13 ex_13 => ?_)
      obtain rfl : x_13 = iZ (gz (F_8 0) x3) := ex_13.trans (gz_eq ⟨by omega, by omega⟩)
      have h_14 := p_11 x3 (by omega) (by omega)
      refine lv_ldc (own := RX12) (v := 1000000) hx hb hown (hts _ qk_X12_88) dX12_hops_35 ?_
      refine W.eq (g2 := F0 m 37 ls [.int (iZ 1000000), .int (iZ (gz (F_8 0) x3))]) rfl ?_
      refine lv_icmp_ne (tgt := 49) hx hb dX12_hops_37 (by decide) (fun c_15 => ?_) (fun c_15 => ?_)
      ·
        have c_15 := mt (zeq (x := iZ (gz (F_8 0) x3)) (y := iZ 1000000) rfl rfl ⟨by omega, by omega⟩ ⟨by omega, by omega⟩).mpr c_15
        refine lv_aload_n hx hb dX12_hops_49 rfl (lv_at hl 0 rfl) ?_
        refine lv_aload_n hx hb dX12_hops_50 rfl (lv_at hl 0 rfl) ?_
        refine va_get (D := D) (ci := 12) (v := .ref Mb) (C := RX12) (T := TX12) (N := 36) hx hb hts iX12 hown hK hP 0 rfl rfl 26 (by decide) (hts _ qf_X12_53) (fun _ h => h) rfl dX12_hops_51 ?_
        refine lv_iload_n hx hb dX12_hops_54 rfl (lv_at hl 3 rfl) ?_
        refine va_iald hx hb hK hP 4 1 rfl rfl (zin (e := x3) (n := 6) ⟨by omega, by omega⟩ (by decide)) dX12_hops_55 ?_
        refine lv_topi (fun x_16 ex_16 => ?_)
        obtain rfl : x_16 = iZ (gz (F_8 2) x3) := ex_16.trans (gz_eq ⟨by omega, by omega⟩)
        have h_17 := gz_rg (F_8 2) x3
        refine CWV (As := [.int (iZ (gz (F_8 2) x3))]) (rest := []) (wc := [(hm, .inr (12, [.ref Ma, .ref Mn, .int (iZ Mst), .long Mtp, .long Mbt, .ref Ms, .ref My, .ref Mt, .ref Mp, .ref Mx, .int (iZ Mtd), .int (iZ Msz), .int (iZ Mtk), .int (iZ Mfr), .int (iZ Men), .int (iZ Mva), .int (iZ Mfk), .int (iZ Mfp), .int (iZ Mfs), .int (iZ Mse), .int (iZ Mlt), .ref Mo, .int (iZ Mdp), .int (iZ Mct), .ref Mk, .ref Ml, .ref Mb, .ref Mh, .ref Mc, .int (iZ Mdr), .int (iZ Mrs), .ref Mz, .ref Mr, .ref Mq, .int (iZ Mit), .int (iZ Mmk)]))]) (wr := [(Ma, .inl (k 1, 5340, .inl Af)), (Mk, .inl (k 1, 6, .inl (F_8 0))), (Ml, .inl (k 1, 6, .inl (F_8 1))), (Mb, .inl (k 1, 6, .inl (F_8 2)))]) hx hb hml hown hts hKK hP hD hS hA (m_gives l D k hm Ma Mn Ms My Mt Mp Mx Mo Mk Ml Mb Mh Mc Mz Mr Mq Mst Mtd Msz Mtk Mfr Men Mva Mfk Mfp Mfs Mse Mlt Mdp Mct Mdr Mrs Mit Mmk Mtp Mbt (gz (F_8 2) x3)) ci_X12_gives qm_X12_85 ⟨Nat.le_of_ble_eq_true rfl, Nat.le_of_ble_eq_true rfl⟩ ⟨Nat.le_of_ble_eq_true rfl, Nat.le_of_ble_eq_true rfl⟩ [0] [1, 2, 3, 4] rfl rfl rfl rfl rfl (by decide) 0 rfl rfl rfl hl.1 rfl (Nat.le_of_ble_eq_true rfl) dX12_hops_56 (fun u_18 H locs hφ hP hD hS => ?_)
        obtain ⟨I_19, L_20, F_21, G_22⟩ := u_18
        refine W.eq (g2 := F0 m 59 ls [.int (iZ (gz (F_8 2) x3))]) rfl ?_
        exact EWi hx hb hr hlocks hS (fun i => [(gz (F_8 2) x3), 0].getD i 0, fun i => [0].getD i 0, fun i => [(F_8 0), (F_8 1), (F_8 2)].getD i (fun _ => 0), fun i => [].getD i (fun _ => 0)) rfl trivial (hP.sub [4, 0, 1, 2, 3] rfl) (hD.sub [4, 0, 1, 2, 3] rfl rfl) dX12_hops_59
      ·
        have c_15 := (zeq (x := iZ (gz (F_8 0) x3)) (y := iZ 1000000) rfl rfl ⟨by omega, by omega⟩ ⟨by omega, by omega⟩).mp c_15
        refine lv_aload_n hx hb dX12_hops_40 rfl (lv_at hl 0 rfl) ?_
        refine lv_bipush (v := iZ 6) hx hb dX12_hops_41 (by decide) ?_
        refine CWV (As := [.int (iZ 6)]) (rest := []) (wc := [(hm, .inr (12, [.ref Ma, .ref Mn, .int (iZ Mst), .long Mtp, .long Mbt, .ref Ms, .ref My, .ref Mt, .ref Mp, .ref Mx, .int (iZ Mtd), .int (iZ Msz), .int (iZ Mtk), .int (iZ Mfr), .int (iZ Men), .int (iZ Mva), .int (iZ Mfk), .int (iZ Mfp), .int (iZ Mfs), .int (iZ Mse), .int (iZ Mlt), .ref Mo, .int (iZ Mdp), .int (iZ Mct), .ref Mk, .ref Ml, .ref Mb, .ref Mh, .ref Mc, .int (iZ Mdr), .int (iZ Mrs), .ref Mz, .ref Mr, .ref Mq, .int (iZ Mit), .int (iZ Mmk)]))]) (wr := [(Ma, .inl (k 1, 5340, .inl Af)), (Mk, .inl (k 1, 6, .inl (F_8 0))), (Ml, .inl (k 1, 6, .inl (F_8 1))), (Mb, .inl (k 1, 6, .inl (F_8 2)))]) hx hb hml hown hts hKK hP hD hS hA (m_refuse l D k hm Ma Mn Ms My Mt Mp Mx Mo Mk Ml Mb Mh Mc Mz Mr Mq Mst Mtd Msz Mtk Mfr Men Mva Mfk Mfp Mfs Mse Mlt Mdp Mct Mdr Mrs Mit Mmk Mtp Mbt 6) ci_X12_refuse qm_X12_81 ⟨Nat.le_of_ble_eq_true rfl, Nat.le_of_ble_eq_true rfl⟩ ⟨Nat.le_of_ble_eq_true rfl, Nat.le_of_ble_eq_true rfl⟩ [0] [1, 2, 3, 4] rfl rfl rfl rfl rfl (by decide) 0 rfl rfl rfl hl.1 rfl (Nat.le_of_ble_eq_true rfl) dX12_hops_43 (fun u_24 H locs hφ hP hD hS => ?_)
        obtain ⟨I_25, L_26, F_27, G_28⟩ := u_24
        refine W.eq (g2 := F0 m 46 ls [.int (iZ (-1))]) rfl ?_
        refine lv_goto (tgt := 59) hx hb dX12_hops_46 (by decide) ?_
        exact EWi hx hb hr hlocks hS (fun i => [(-1), 6].getD i 0, fun i => [0].getD i 0, fun i => [(F_8 0), (F_8 1), (F_8 2)].getD i (fun _ => 0), fun i => [].getD i (fun _ => 0)) rfl trivial (hP.sub [4, 0, 1, 2, 3] rfl) (hD.sub [4, 0, 1, 2, 3] rfl rfl) dX12_hops_59
    ·
      subst qz_3
      refine lv_if_ne (tgt := 23) hx hb dX12_hops_14 (by decide) (fun c => absurd (by decide) c) (fun _ => ?_)
      refine lv_aload_n hx hb dX12_hops_17 rfl (lv_at hl 0 rfl) ?_
      refine lv_iconst (v := iZ 1) hx hb dX12_hops_18 (by decide) ?_
      refine CWV (As := [.int (iZ 1)]) (rest := []) (wc := [(hm, .inr (12, [.ref Ma, .ref Mn, .int (iZ Mst), .long Mtp, .long Mbt, .ref Ms, .ref My, .ref Mt, .ref Mp, .ref Mx, .int (iZ Mtd), .int (iZ Msz), .int (iZ Mtk), .int (iZ Mfr), .int (iZ Men), .int (iZ Mva), .int (iZ Mfk), .int (iZ Mfp), .int (iZ Mfs), .int (iZ Mse), .int (iZ Mlt), .ref Mo, .int (iZ Mdp), .int (iZ Mct), .ref Mk, .ref Ml, .ref Mb, .ref Mh, .ref Mc, .int (iZ Mdr), .int (iZ Mrs), .ref Mz, .ref Mr, .ref Mq, .int (iZ Mit), .int (iZ Mmk)]))]) (wr := [(Ma, .inl (k 1, 5340, .inl Af)), (Mk, .inl (k 1, 6, .inl Kf)), (Ml, .inl (k 1, 6, .inl Lf)), (Mb, .inl (k 1, 6, .inl Bf))]) hx hb hml hown hts hKK hP hD hS hA (m_refuse l D k hm Ma Mn Ms My Mt Mp Mx Mo Mk Ml Mb Mh Mc Mz Mr Mq Mst Mtd Msz Mtk Mfr Men Mva Mfk Mfp Mfs Mse Mlt Mdp Mct Mdr Mrs Mit Mmk Mtp Mbt 1) ci_X12_refuse qm_X12_81 ⟨Nat.le_of_ble_eq_true rfl, Nat.le_of_ble_eq_true rfl⟩ ⟨Nat.le_of_ble_eq_true rfl, Nat.le_of_ble_eq_true rfl⟩ [0] [1, 2, 3, 4] rfl rfl rfl rfl rfl (by decide) 0 rfl rfl rfl hl.1 rfl (Nat.le_of_ble_eq_true rfl) dX12_hops_19 (fun u_31 H locs hφ hP hD hS => ?_)
      obtain ⟨I_32, L_33, F_34, G_35⟩ := u_31
      refine W.eq (g2 := F0 m 22 ls [.int (iZ (-1))]) rfl ?_
      exact EWi hx hb hr hlocks hS (fun i => [(-1), 1].getD i 0, fun i => [0].getD i 0, fun i => [Kf, Lf, Bf].getD i (fun _ => 0), fun i => [].getD i (fun _ => 0)) rfl trivial (hP.sub [4, 0, 1, 2, 3] rfl) (hD.sub [4, 0, 1, 2, 3] rfl rfl) dX12_hops_22
  ·
    subst qz_1
    refine lv_if_eq (tgt := 17) hx hb dX12_hops_6 (by decide) (fun _ => ?_) (fun c => absurd (by decide) c)
    refine lv_aload_n hx hb dX12_hops_17 rfl (lv_at hl 0 rfl) ?_
    refine lv_iconst (v := iZ 1) hx hb dX12_hops_18 (by decide) ?_
    refine CWV (As := [.int (iZ 1)]) (rest := []) (wc := [(hm, .inr (12, [.ref Ma, .ref Mn, .int (iZ Mst), .long Mtp, .long Mbt, .ref Ms, .ref My, .ref Mt, .ref Mp, .ref Mx, .int (iZ Mtd), .int (iZ Msz), .int (iZ Mtk), .int (iZ Mfr), .int (iZ Men), .int (iZ Mva), .int (iZ Mfk), .int (iZ Mfp), .int (iZ Mfs), .int (iZ Mse), .int (iZ Mlt), .ref Mo, .int (iZ Mdp), .int (iZ Mct), .ref Mk, .ref Ml, .ref Mb, .ref Mh, .ref Mc, .int (iZ Mdr), .int (iZ Mrs), .ref Mz, .ref Mr, .ref Mq, .int (iZ Mit), .int (iZ Mmk)]))]) (wr := [(Ma, .inl (k 1, 5340, .inl Af)), (Mk, .inl (k 1, 6, .inl Kf)), (Ml, .inl (k 1, 6, .inl Lf)), (Mb, .inl (k 1, 6, .inl Bf))]) hx hb hml hown hts hKK hP hD hS hA (m_refuse l D k hm Ma Mn Ms My Mt Mp Mx Mo Mk Ml Mb Mh Mc Mz Mr Mq Mst Mtd Msz Mtk Mfr Men Mva Mfk Mfp Mfs Mse Mlt Mdp Mct Mdr Mrs Mit Mmk Mtp Mbt 1) ci_X12_refuse qm_X12_81 ⟨Nat.le_of_ble_eq_true rfl, Nat.le_of_ble_eq_true rfl⟩ ⟨Nat.le_of_ble_eq_true rfl, Nat.le_of_ble_eq_true rfl⟩ [0] [1, 2, 3, 4] rfl rfl rfl rfl rfl (by decide) 0 rfl rfl rfl hl.1 rfl (Nat.le_of_ble_eq_true rfl) dX12_hops_19 (fun u_38 H locs hφ hP hD hS => ?_)
    obtain ⟨I_39, L_40, F_41, G_42⟩ := u_38
    refine W.eq (g2 := F0 m 22 ls [.int (iZ (-1))]) rfl ?_
    exact EWi hx hb hr hlocks hS (fun i => [(-1), 1].getD i 0, fun i => [0].getD i 0, fun i => [Kf, Lf, Bf].getD i (fun _ => 0), fun i => [].getD i (fun _ => 0)) rfl trivial (hP.sub [4, 0, 1, 2, 3] rfl) (hD.sub [4, 0, 1, 2, 3] rfl rfl) dX12_hops_22
set_option maxHeartbeats 4000000 in
set_option maxRecDepth 100000 in
theorem q_knowing (l : Launch) (D : va_G) (k : Nat → ClassId) (hm : Nat) (Ma : Nat) (Mn : Nat) (Ms : Nat) (My : Nat) (Mt : Nat) (Mp : Nat) (Mx : Nat) (Mo : Nat) (Mk : Nat) (Ml : Nat) (Mb : Nat) (Mh : Nat) (Mc : Nat) (Mz : Nat) (Mr : Nat) (Mq : Nat) (Mst : Int) (Mtd : Int) (Msz : Int) (Mtk : Int) (Mfr : Int) (Men : Int) (Mva : Int) (Mfk : Int) (Mfp : Int) (Mfs : Int) (Mse : Int) (Mlt : Int) (Mdp : Int) (Mct : Int) (Mdr : Int) (Mrs : Int) (Mit : Int) (Mmk : Int) (Mtp : Int64) (Mbt : Int64) (Af : Nat → Int32) (Kf : Nat → Int32) (Lf : Nat → Int32) (Bf : Nat → Int32) (x1 : Int) (x2 : Int) (x3 : Int) (hM : M0 Af) (h9x1 : -2147483648 ≤ x1 ∧ x1 < 2147483648) (h9x2 : -2147483648 ≤ x2 ∧ x2 < 2147483648) (h9x3 : -2147483648 ≤ x3 ∧ x3 < 2147483648) : WD (σ := ((Nat → Int) × (Nat → Int64) × (Nat → Nat → Int32) × (Nat → Nat → Int64))) l yX12_knowing cX12_knowing 4 (some .int) 6 0 0 D k [.ref hm, .int (iZ x1), .int (iZ x2), .int (iZ x3)] [(hm, .inr (12, [.ref Ma, .ref Mn, .int (iZ Mst), .long Mtp, .long Mbt, .ref Ms, .ref My, .ref Mt, .ref Mp, .ref Mx, .int (iZ Mtd), .int (iZ Msz), .int (iZ Mtk), .int (iZ Mfr), .int (iZ Men), .int (iZ Mva), .int (iZ Mfk), .int (iZ Mfp), .int (iZ Mfs), .int (iZ Mse), .int (iZ Mlt), .ref Mo, .int (iZ Mdp), .int (iZ Mct), .ref Mk, .ref Ml, .ref Mb, .ref Mh, .ref Mc, .int (iZ Mdr), .int (iZ Mrs), .ref Mz, .ref Mr, .ref Mq, .int (iZ Mit), .int (iZ Mmk)])), (Ma, .inl (k 1, 5340, .inl Af)), (Mk, .inl (k 1, 6, .inl Kf)), (Ml, .inl (k 1, 6, .inl Lf)), (Mb, .inl (k 1, 6, .inl Bf))] (fun u => some (.int (iZ (u.1 0)))) (fun _ => True) (fun u => [(hm, .inr (12, [.ref Ma, .ref Mn, .int (iZ (u.1 1)), .long Mtp, .long Mbt, .ref Ms, .ref My, .ref Mt, .ref Mp, .ref Mx, .int (iZ Mtd), .int (iZ Msz), .int (iZ Mtk), .int (iZ Mfr), .int (iZ Men), .int (iZ Mva), .int (iZ Mfk), .int (iZ Mfp), .int (iZ Mfs), .int (iZ Mse), .int (iZ Mlt), .ref Mo, .int (iZ Mdp), .int (iZ Mct), .ref Mk, .ref Ml, .ref Mb, .ref Mh, .ref Mc, .int (iZ Mdr), .int (iZ Mrs), .ref Mz, .ref Mr, .ref Mq, .int (iZ Mit), .int (iZ Mmk)])), (Ma, .inl (k 1, 5340, .inl Af)), (Mk, .inl (k 1, 6, .inl (u.2.2.1 0))), (Ml, .inl (k 1, 6, .inl (u.2.2.1 1))), (Mb, .inl (k 1, 6, .inl (u.2.2.1 2)))]) := by
  refine MW (by decide) (Nat.le_of_ble_eq_true rfl) (fun p e s m below meth c ls A hx hb hml hr hlocks hin hts hown hKK hP hD hS hA hl => ?_)
  have hK := hKK.1
  have hl : lv_has ls 4 [(0, .ref hm), (1, .int (iZ x1)), (2, .int (iZ x2)), (3, .int (iZ x3))] := hl
  obtain ⟨m0, m1, m3, m4, m5, mF, mO, mS⟩ := id hM
  refine lv_aload_n hx hb dX12_knowing_0 rfl (lv_at hl 0 rfl) ?_
  refine lv_iload_n hx hb dX12_knowing_1 rfl (lv_at hl 1 rfl) ?_
  refine lv_iload_n hx hb dX12_knowing_2 rfl (lv_at hl 2 rfl) ?_
  refine CPV (As := [.int (iZ x1), .int (iZ x2)]) (rest := []) hx hb hml hown hts hKK (hP.sub (ws' := [(hm, .inr (12, [.ref Ma, .ref Mn, .int (iZ Mst), .long Mtp, .long Mbt, .ref Ms, .ref My, .ref Mt, .ref Mp, .ref Mx, .int (iZ Mtd), .int (iZ Msz), .int (iZ Mtk), .int (iZ Mfr), .int (iZ Men), .int (iZ Mva), .int (iZ Mfk), .int (iZ Mfp), .int (iZ Mfs), .int (iZ Mse), .int (iZ Mlt), .ref Mo, .int (iZ Mdp), .int (iZ Mct), .ref Mk, .ref Ml, .ref Mb, .ref Mh, .ref Mc, .int (iZ Mdr), .int (iZ Mrs), .ref Mz, .ref Mr, .ref Mq, .int (iZ Mit), .int (iZ Mmk)])), (Ma, .inl (k 1, 5340, .inl Af))]) [0, 1] rfl) (m_isNews l D k ([.ref Ma, .ref Mn, .int (iZ Mst), .long Mtp, .long Mbt, .ref Ms, .ref My, .ref Mt, .ref Mp, .ref Mx, .int (iZ Mtd), .int (iZ Msz), .int (iZ Mtk), .int (iZ Mfr), .int (iZ Men), .int (iZ Mva), .int (iZ Mfk), .int (iZ Mfp), .int (iZ Mfs), .int (iZ Mse), .int (iZ Mlt), .ref Mo, .int (iZ Mdp), .int (iZ Mct), .ref Mk, .ref Ml, .ref Mb, .ref Mh, .ref Mc, .int (iZ Mdr), .int (iZ Mrs), .ref Mz, .ref Mr, .ref Mq, .int (iZ Mit), .int (iZ Mmk)]) hm Ma Af x1 x2 rfl hM ⟨by omega, by omega⟩ ⟨by omega, by omega⟩) ci_X12_isNews qm_X12_299 ⟨Nat.le_of_ble_eq_true rfl, Nat.le_of_ble_eq_true rfl⟩ ⟨Nat.le_of_ble_eq_true rfl, Nat.le_of_ble_eq_true rfl⟩ 0 rfl rfl rfl hl.1 rfl (Nat.le_of_ble_eq_true rfl) dX12_knowing_3 (fun z_1 hz_1 => ?_)
  rcases hz_1 with ⟨qz_1, hz_1⟩ | ⟨qz_1, hz_1⟩
  ·
    subst qz_1
    refine lv_if_eq (tgt := 16) hx hb dX12_knowing_6 (by decide) (fun c => absurd c (by decide)) (fun _ => ?_)
    refine lv_iload_n hx hb dX12_knowing_9 rfl (lv_at hl 3 rfl) ?_
    refine CPS (As := [.int (iZ x3)]) (rest := []) hx hb hml hown hts hKK (hP.sub (ws' := []) [] rfl) (m_isAsked l D k x3 ⟨by omega, by omega⟩) ci_X12_isAsked qm_X12_258 ⟨Nat.le_of_ble_eq_true rfl, Nat.le_of_ble_eq_true rfl⟩ ⟨Nat.le_of_ble_eq_true rfl, Nat.le_of_ble_eq_true rfl⟩ rfl hl.1 rfl (Nat.le_of_ble_eq_true rfl) dX12_knowing_10 (fun z_3 hz_3 => ?_)
    rcases hz_3 with ⟨qz_3, hz_3⟩ | ⟨qz_3, hz_3⟩
    ·
      subst qz_3
      refine lv_if_ne (tgt := 22) hx hb dX12_knowing_13 (by decide) (fun _ => ?_) (fun c => absurd c (by decide))
      refine lv_aload_n hx hb dX12_knowing_22 rfl (lv_at hl 0 rfl) ?_
      refine lv_iload_n hx hb dX12_knowing_23 rfl (lv_at hl 1 rfl) ?_
      refine lv_iload_n hx hb dX12_knowing_24 rfl (lv_at hl 2 rfl) ?_
      refine CWV (As := [.int (iZ x1), .int (iZ x2)]) (rest := []) (wc := [(hm, .inr (12, [.ref Ma, .ref Mn, .int (iZ Mst), .long Mtp, .long Mbt, .ref Ms, .ref My, .ref Mt, .ref Mp, .ref Mx, .int (iZ Mtd), .int (iZ Msz), .int (iZ Mtk), .int (iZ Mfr), .int (iZ Men), .int (iZ Mva), .int (iZ Mfk), .int (iZ Mfp), .int (iZ Mfs), .int (iZ Mse), .int (iZ Mlt), .ref Mo, .int (iZ Mdp), .int (iZ Mct), .ref Mk, .ref Ml, .ref Mb, .ref Mh, .ref Mc, .int (iZ Mdr), .int (iZ Mrs), .ref Mz, .ref Mr, .ref Mq, .int (iZ Mit), .int (iZ Mmk)])), (Ma, .inl (k 1, 5340, .inl Af)), (Mk, .inl (k 1, 6, .inl Kf)), (Ml, .inl (k 1, 6, .inl Lf)), (Mb, .inl (k 1, 6, .inl Bf))]) (wr := []) hx hb hml hown hts hKK hP hD hS hA (m_lays l D k hm Ma Mn Ms My Mt Mp Mx Mo Mk Ml Mb Mh Mc Mz Mr Mq Mst Mtd Msz Mtk Mfr Men Mva Mfk Mfp Mfs Mse Mlt Mdp Mct Mdr Mrs Mit Mmk Mtp Mbt Af Kf Lf Bf x1 x2 hM ⟨by omega, by omega⟩ ⟨by omega, by omega⟩) ci_X12_lays qm_X12_302 ⟨Nat.le_of_ble_eq_true rfl, Nat.le_of_ble_eq_true rfl⟩ ⟨Nat.le_of_ble_eq_true rfl, Nat.le_of_ble_eq_true rfl⟩ [0, 1, 2, 3, 4] [] rfl rfl rfl rfl rfl (by decide) 0 rfl rfl rfl hl.1 rfl (Nat.le_of_ble_eq_true rfl) dX12_knowing_25 (fun u_5 H locs hφ hP hD hS => ?_)
      obtain ⟨I_6, L_7, F_8, G_9⟩ := u_5
      obtain ⟨p_11, p_12⟩ : (KR (F_8 0) 6) ∧ (rgI (F_8 1) (-1) 5 6) := hφ
      refine W.eq (g2 := F0 m 28 ls []) rfl ?_
      refine lv_aload_n hx hb dX12_knowing_28 rfl (lv_at hl 0 rfl) ?_
      refine lv_aload_n hx hb dX12_knowing_29 rfl (lv_at hl 0 rfl) ?_
      refine lv_iload_n hx hb dX12_knowing_30 rfl (lv_at hl 3 rfl) ?_
      refine CPV (As := [.int (iZ x3)]) (rest := [.ref hm]) hx hb hml hown hts hKK (hP.sub (ws' := [(hm, .inr (12, [.ref Ma, .ref Mn, .int (iZ Mst), .long Mtp, .long Mbt, .ref Ms, .ref My, .ref Mt, .ref Mp, .ref Mx, .int (iZ Mtd), .int (iZ Msz), .int (iZ Mtk), .int (iZ Mfr), .int (iZ Men), .int (iZ Mva), .int (iZ Mfk), .int (iZ Mfp), .int (iZ Mfs), .int (iZ Mse), .int (iZ Mlt), .ref Mo, .int (iZ Mdp), .int (iZ Mct), .ref Mk, .ref Ml, .ref Mb, .ref Mh, .ref Mc, .int (iZ Mdr), .int (iZ Mrs), .ref Mz, .ref Mr, .ref Mq, .int (iZ Mit), .int (iZ Mmk)])), (Ma, .inl (k 1, 5340, .inl Af)), (Mk, .inl (k 1, 6, .inl (F_8 0)))]) [0, 1, 2] rfl) (m_setBy l D k ([.ref Ma, .ref Mn, .int (iZ Mst), .long Mtp, .long Mbt, .ref Ms, .ref My, .ref Mt, .ref Mp, .ref Mx, .int (iZ Mtd), .int (iZ Msz), .int (iZ Mtk), .int (iZ Mfr), .int (iZ Men), .int (iZ Mva), .int (iZ Mfk), .int (iZ Mfp), .int (iZ Mfs), .int (iZ Mse), .int (iZ Mlt), .ref Mo, .int (iZ Mdp), .int (iZ Mct), .ref Mk, .ref Ml, .ref Mb, .ref Mh, .ref Mc, .int (iZ Mdr), .int (iZ Mrs), .ref Mz, .ref Mr, .ref Mq, .int (iZ Mit), .int (iZ Mmk)]) hm Ma Mk Af (F_8 0) x3 rfl rfl hM ⟨by omega, by omega⟩) ci_X12_setBy qm_X12_306 ⟨Nat.le_of_ble_eq_true rfl, Nat.le_of_ble_eq_true rfl⟩ ⟨Nat.le_of_ble_eq_true rfl, Nat.le_of_ble_eq_true rfl⟩ 0 rfl rfl rfl hl.1 rfl (Nat.le_of_ble_eq_true rfl) dX12_knowing_31 (fun z_13 hz_13 => ?_)
      refine CWV (As := [.int (iZ z_13)]) (rest := []) (wc := [(hm, .inr (12, [.ref Ma, .ref Mn, .int (iZ Mst), .long Mtp, .long Mbt, .ref Ms, .ref My, .ref Mt, .ref Mp, .ref Mx, .int (iZ Mtd), .int (iZ Msz), .int (iZ Mtk), .int (iZ Mfr), .int (iZ Men), .int (iZ Mva), .int (iZ Mfk), .int (iZ Mfp), .int (iZ Mfs), .int (iZ Mse), .int (iZ Mlt), .ref Mo, .int (iZ Mdp), .int (iZ Mct), .ref Mk, .ref Ml, .ref Mb, .ref Mh, .ref Mc, .int (iZ Mdr), .int (iZ Mrs), .ref Mz, .ref Mr, .ref Mq, .int (iZ Mit), .int (iZ Mmk)]))]) (wr := [(Ma, .inl (k 1, 5340, .inl Af)), (Mk, .inl (k 1, 6, .inl (F_8 0))), (Ml, .inl (k 1, 6, .inl (F_8 1))), (Mb, .inl (k 1, 6, .inl (F_8 2)))]) hx hb hml hown hts hKK hP hD hS hA (m_gives l D k hm Ma Mn Ms My Mt Mp Mx Mo Mk Ml Mb Mh Mc Mz Mr Mq Mst Mtd Msz Mtk Mfr Men Mva Mfk Mfp Mfs Mse Mlt Mdp Mct Mdr Mrs Mit Mmk Mtp Mbt z_13) ci_X12_gives qm_X12_85 ⟨Nat.le_of_ble_eq_true rfl, Nat.le_of_ble_eq_true rfl⟩ ⟨Nat.le_of_ble_eq_true rfl, Nat.le_of_ble_eq_true rfl⟩ [0] [1, 2, 3, 4] rfl rfl rfl rfl rfl (by decide) 0 rfl rfl rfl hl.1 rfl (Nat.le_of_ble_eq_true rfl) dX12_knowing_34 (fun u_14 H locs hφ hP hD hS => ?_)
      obtain ⟨I_15, L_16, F_17, G_18⟩ := u_14
      refine W.eq (g2 := F0 m 37 ls [.int (iZ z_13)]) rfl ?_
      exact EWi hx hb hr hlocks hS (fun i => [z_13, 0].getD i 0, fun i => [0].getD i 0, fun i => [(F_8 0), (F_8 1), (F_8 2)].getD i (fun _ => 0), fun i => [].getD i (fun _ => 0)) rfl trivial (hP.sub [4, 0, 1, 2, 3] rfl) (hD.sub [4, 0, 1, 2, 3] rfl rfl) dX12_knowing_37
    ·
      subst qz_3
      refine lv_if_ne (tgt := 22) hx hb dX12_knowing_13 (by decide) (fun c => absurd (by decide) c) (fun _ => ?_)
      refine lv_aload_n hx hb dX12_knowing_16 rfl (lv_at hl 0 rfl) ?_
      refine lv_iconst (v := iZ 1) hx hb dX12_knowing_17 (by decide) ?_
      refine CWV (As := [.int (iZ 1)]) (rest := []) (wc := [(hm, .inr (12, [.ref Ma, .ref Mn, .int (iZ Mst), .long Mtp, .long Mbt, .ref Ms, .ref My, .ref Mt, .ref Mp, .ref Mx, .int (iZ Mtd), .int (iZ Msz), .int (iZ Mtk), .int (iZ Mfr), .int (iZ Men), .int (iZ Mva), .int (iZ Mfk), .int (iZ Mfp), .int (iZ Mfs), .int (iZ Mse), .int (iZ Mlt), .ref Mo, .int (iZ Mdp), .int (iZ Mct), .ref Mk, .ref Ml, .ref Mb, .ref Mh, .ref Mc, .int (iZ Mdr), .int (iZ Mrs), .ref Mz, .ref Mr, .ref Mq, .int (iZ Mit), .int (iZ Mmk)]))]) (wr := [(Ma, .inl (k 1, 5340, .inl Af)), (Mk, .inl (k 1, 6, .inl Kf)), (Ml, .inl (k 1, 6, .inl Lf)), (Mb, .inl (k 1, 6, .inl Bf))]) hx hb hml hown hts hKK hP hD hS hA (m_refuse l D k hm Ma Mn Ms My Mt Mp Mx Mo Mk Ml Mb Mh Mc Mz Mr Mq Mst Mtd Msz Mtk Mfr Men Mva Mfk Mfp Mfs Mse Mlt Mdp Mct Mdr Mrs Mit Mmk Mtp Mbt 1) ci_X12_refuse qm_X12_81 ⟨Nat.le_of_ble_eq_true rfl, Nat.le_of_ble_eq_true rfl⟩ ⟨Nat.le_of_ble_eq_true rfl, Nat.le_of_ble_eq_true rfl⟩ [0] [1, 2, 3, 4] rfl rfl rfl rfl rfl (by decide) 0 rfl rfl rfl hl.1 rfl (Nat.le_of_ble_eq_true rfl) dX12_knowing_18 (fun u_21 H locs hφ hP hD hS => ?_)
      obtain ⟨I_22, L_23, F_24, G_25⟩ := u_21
      refine W.eq (g2 := F0 m 21 ls [.int (iZ (-1))]) rfl ?_
      exact EWi hx hb hr hlocks hS (fun i => [(-1), 1].getD i 0, fun i => [0].getD i 0, fun i => [Kf, Lf, Bf].getD i (fun _ => 0), fun i => [].getD i (fun _ => 0)) rfl trivial (hP.sub [4, 0, 1, 2, 3] rfl) (hD.sub [4, 0, 1, 2, 3] rfl rfl) dX12_knowing_21
  ·
    subst qz_1
    refine lv_if_eq (tgt := 16) hx hb dX12_knowing_6 (by decide) (fun _ => ?_) (fun c => absurd (by decide) c)
    refine lv_aload_n hx hb dX12_knowing_16 rfl (lv_at hl 0 rfl) ?_
    refine lv_iconst (v := iZ 1) hx hb dX12_knowing_17 (by decide) ?_
    refine CWV (As := [.int (iZ 1)]) (rest := []) (wc := [(hm, .inr (12, [.ref Ma, .ref Mn, .int (iZ Mst), .long Mtp, .long Mbt, .ref Ms, .ref My, .ref Mt, .ref Mp, .ref Mx, .int (iZ Mtd), .int (iZ Msz), .int (iZ Mtk), .int (iZ Mfr), .int (iZ Men), .int (iZ Mva), .int (iZ Mfk), .int (iZ Mfp), .int (iZ Mfs), .int (iZ Mse), .int (iZ Mlt), .ref Mo, .int (iZ Mdp), .int (iZ Mct), .ref Mk, .ref Ml, .ref Mb, .ref Mh, .ref Mc, .int (iZ Mdr), .int (iZ Mrs), .ref Mz, .ref Mr, .ref Mq, .int (iZ Mit), .int (iZ Mmk)]))]) (wr := [(Ma, .inl (k 1, 5340, .inl Af)), (Mk, .inl (k 1, 6, .inl Kf)), (Ml, .inl (k 1, 6, .inl Lf)), (Mb, .inl (k 1, 6, .inl Bf))]) hx hb hml hown hts hKK hP hD hS hA (m_refuse l D k hm Ma Mn Ms My Mt Mp Mx Mo Mk Ml Mb Mh Mc Mz Mr Mq Mst Mtd Msz Mtk Mfr Men Mva Mfk Mfp Mfs Mse Mlt Mdp Mct Mdr Mrs Mit Mmk Mtp Mbt 1) ci_X12_refuse qm_X12_81 ⟨Nat.le_of_ble_eq_true rfl, Nat.le_of_ble_eq_true rfl⟩ ⟨Nat.le_of_ble_eq_true rfl, Nat.le_of_ble_eq_true rfl⟩ [0] [1, 2, 3, 4] rfl rfl rfl rfl rfl (by decide) 0 rfl rfl rfl hl.1 rfl (Nat.le_of_ble_eq_true rfl) dX12_knowing_18 (fun u_28 H locs hφ hP hD hS => ?_)
    obtain ⟨I_29, L_30, F_31, G_32⟩ := u_28
    refine W.eq (g2 := F0 m 21 ls [.int (iZ (-1))]) rfl ?_
    exact EWi hx hb hr hlocks hS (fun i => [(-1), 1].getD i 0, fun i => [0].getD i 0, fun i => [Kf, Lf, Bf].getD i (fun _ => 0), fun i => [].getD i (fun _ => 0)) rfl trivial (hP.sub [4, 0, 1, 2, 3] rfl) (hD.sub [4, 0, 1, 2, 3] rfl rfl) dX12_knowing_21
set_option maxHeartbeats 4000000 in
set_option maxRecDepth 100000 in
theorem q_overtaken (l : Launch) (D : va_G) (k : Nat → ClassId) (hm : Nat) (Ma : Nat) (Mn : Nat) (Ms : Nat) (My : Nat) (Mt : Nat) (Mp : Nat) (Mx : Nat) (Mo : Nat) (Mk : Nat) (Ml : Nat) (Mb : Nat) (Mh : Nat) (Mc : Nat) (Mz : Nat) (Mr : Nat) (Mq : Nat) (Mst : Int) (Mtd : Int) (Msz : Int) (Mtk : Int) (Mfr : Int) (Men : Int) (Mva : Int) (Mfk : Int) (Mfp : Int) (Mfs : Int) (Mse : Int) (Mlt : Int) (Mdp : Int) (Mct : Int) (Mdr : Int) (Mrs : Int) (Mit : Int) (Mmk : Int) (Mtp : Int64) (Mbt : Int64) (Af : Nat → Int32) (Kf : Nat → Int32) (Lf : Nat → Int32) (Bf : Nat → Int32) (x1 : Int) (x2 : Int) (hM : M0 Af) (h9x1 : -2147483648 ≤ x1 ∧ x1 < 2147483648) (h9x2 : -2147483648 ≤ x2 ∧ x2 < 2147483648) : WD (σ := ((Nat → Int) × (Nat → Int64) × (Nat → Nat → Int32) × (Nat → Nat → Int64))) l yX12_overtaken cX12_overtaken 5 (some .int) 6 0 0 D k [.ref hm, .int (iZ x1), .int (iZ x2)] [(hm, .inr (12, [.ref Ma, .ref Mn, .int (iZ Mst), .long Mtp, .long Mbt, .ref Ms, .ref My, .ref Mt, .ref Mp, .ref Mx, .int (iZ Mtd), .int (iZ Msz), .int (iZ Mtk), .int (iZ Mfr), .int (iZ Men), .int (iZ Mva), .int (iZ Mfk), .int (iZ Mfp), .int (iZ Mfs), .int (iZ Mse), .int (iZ Mlt), .ref Mo, .int (iZ Mdp), .int (iZ Mct), .ref Mk, .ref Ml, .ref Mb, .ref Mh, .ref Mc, .int (iZ Mdr), .int (iZ Mrs), .ref Mz, .ref Mr, .ref Mq, .int (iZ Mit), .int (iZ Mmk)])), (Ma, .inl (k 1, 5340, .inl Af)), (Mk, .inl (k 1, 6, .inl Kf)), (Ml, .inl (k 1, 6, .inl Lf)), (Mb, .inl (k 1, 6, .inl Bf))] (fun u => some (.int (iZ (u.1 0)))) (fun _ => True) (fun u => [(hm, .inr (12, [.ref Ma, .ref Mn, .int (iZ (u.1 1)), .long Mtp, .long Mbt, .ref Ms, .ref My, .ref Mt, .ref Mp, .ref Mx, .int (iZ Mtd), .int (iZ Msz), .int (iZ Mtk), .int (iZ Mfr), .int (iZ Men), .int (iZ Mva), .int (iZ Mfk), .int (iZ Mfp), .int (iZ Mfs), .int (iZ Mse), .int (iZ Mlt), .ref Mo, .int (iZ Mdp), .int (iZ Mct), .ref Mk, .ref Ml, .ref Mb, .ref Mh, .ref Mc, .int (iZ Mdr), .int (iZ Mrs), .ref Mz, .ref Mr, .ref Mq, .int (iZ Mit), .int (iZ Mmk)])), (Ma, .inl (k 1, 5340, .inl Af)), (Mk, .inl (k 1, 6, .inl (u.2.2.1 0))), (Ml, .inl (k 1, 6, .inl (u.2.2.1 1))), (Mb, .inl (k 1, 6, .inl (u.2.2.1 2)))]) := by
  refine MW (by decide) (Nat.le_of_ble_eq_true rfl) (fun p e s m below meth c ls A hx hb hml hr hlocks hin hts hown hKK hP hD hS hA hl => ?_)
  have hK := hKK.1
  have hl : lv_has ls 5 [(0, .ref hm), (1, .int (iZ x1)), (2, .int (iZ x2))] := hl
  obtain ⟨m0, m1, m3, m4, m5, mF, mO, mS⟩ := id hM
  refine lv_aload_n hx hb dX12_overtaken_0 rfl (lv_at hl 0 rfl) ?_
  refine lv_iload_n hx hb dX12_overtaken_1 rfl (lv_at hl 1 rfl) ?_
  refine lv_iload_n hx hb dX12_overtaken_2 rfl (lv_at hl 2 rfl) ?_
  refine CPV (As := [.int (iZ x1), .int (iZ x2)]) (rest := []) hx hb hml hown hts hKK (hP.sub (ws' := [(hm, .inr (12, [.ref Ma, .ref Mn, .int (iZ Mst), .long Mtp, .long Mbt, .ref Ms, .ref My, .ref Mt, .ref Mp, .ref Mx, .int (iZ Mtd), .int (iZ Msz), .int (iZ Mtk), .int (iZ Mfr), .int (iZ Men), .int (iZ Mva), .int (iZ Mfk), .int (iZ Mfp), .int (iZ Mfs), .int (iZ Mse), .int (iZ Mlt), .ref Mo, .int (iZ Mdp), .int (iZ Mct), .ref Mk, .ref Ml, .ref Mb, .ref Mh, .ref Mc, .int (iZ Mdr), .int (iZ Mrs), .ref Mz, .ref Mr, .ref Mq, .int (iZ Mit), .int (iZ Mmk)])), (Ma, .inl (k 1, 5340, .inl Af))]) [0, 1] rfl) (m_isNews l D k ([.ref Ma, .ref Mn, .int (iZ Mst), .long Mtp, .long Mbt, .ref Ms, .ref My, .ref Mt, .ref Mp, .ref Mx, .int (iZ Mtd), .int (iZ Msz), .int (iZ Mtk), .int (iZ Mfr), .int (iZ Men), .int (iZ Mva), .int (iZ Mfk), .int (iZ Mfp), .int (iZ Mfs), .int (iZ Mse), .int (iZ Mlt), .ref Mo, .int (iZ Mdp), .int (iZ Mct), .ref Mk, .ref Ml, .ref Mb, .ref Mh, .ref Mc, .int (iZ Mdr), .int (iZ Mrs), .ref Mz, .ref Mr, .ref Mq, .int (iZ Mit), .int (iZ Mmk)]) hm Ma Af x1 x2 rfl hM ⟨by omega, by omega⟩ ⟨by omega, by omega⟩) ci_X12_isNews qm_X12_299 ⟨Nat.le_of_ble_eq_true rfl, Nat.le_of_ble_eq_true rfl⟩ ⟨Nat.le_of_ble_eq_true rfl, Nat.le_of_ble_eq_true rfl⟩ 0 rfl rfl rfl hl.1 rfl (Nat.le_of_ble_eq_true rfl) dX12_overtaken_3 (fun z_1 hz_1 => ?_)
  rcases hz_1 with ⟨qz_1, hz_1⟩ | ⟨qz_1, hz_1⟩
  ·
    subst qz_1
    refine lv_if_ne (tgt := 15) hx hb dX12_overtaken_6 (by decide) (fun _ => ?_) (fun c => absurd c (by decide))
    refine lv_aload_n hx hb dX12_overtaken_15 rfl (lv_at hl 0 rfl) ?_
    refine lv_iload_n hx hb dX12_overtaken_16 rfl (lv_at hl 1 rfl) ?_
    refine lv_iload_n hx hb dX12_overtaken_17 rfl (lv_at hl 2 rfl) ?_
    refine CWV (As := [.int (iZ x1), .int (iZ x2)]) (rest := []) (wc := [(hm, .inr (12, [.ref Ma, .ref Mn, .int (iZ Mst), .long Mtp, .long Mbt, .ref Ms, .ref My, .ref Mt, .ref Mp, .ref Mx, .int (iZ Mtd), .int (iZ Msz), .int (iZ Mtk), .int (iZ Mfr), .int (iZ Men), .int (iZ Mva), .int (iZ Mfk), .int (iZ Mfp), .int (iZ Mfs), .int (iZ Mse), .int (iZ Mlt), .ref Mo, .int (iZ Mdp), .int (iZ Mct), .ref Mk, .ref Ml, .ref Mb, .ref Mh, .ref Mc, .int (iZ Mdr), .int (iZ Mrs), .ref Mz, .ref Mr, .ref Mq, .int (iZ Mit), .int (iZ Mmk)])), (Ma, .inl (k 1, 5340, .inl Af)), (Mk, .inl (k 1, 6, .inl Kf)), (Ml, .inl (k 1, 6, .inl Lf)), (Mb, .inl (k 1, 6, .inl Bf))]) (wr := []) hx hb hml hown hts hKK hP hD hS hA (m_lays l D k hm Ma Mn Ms My Mt Mp Mx Mo Mk Ml Mb Mh Mc Mz Mr Mq Mst Mtd Msz Mtk Mfr Men Mva Mfk Mfp Mfs Mse Mlt Mdp Mct Mdr Mrs Mit Mmk Mtp Mbt Af Kf Lf Bf x1 x2 hM ⟨by omega, by omega⟩ ⟨by omega, by omega⟩) ci_X12_lays qm_X12_302 ⟨Nat.le_of_ble_eq_true rfl, Nat.le_of_ble_eq_true rfl⟩ ⟨Nat.le_of_ble_eq_true rfl, Nat.le_of_ble_eq_true rfl⟩ [0, 1, 2, 3, 4] [] rfl rfl rfl rfl rfl (by decide) 0 rfl rfl rfl hl.1 rfl (Nat.le_of_ble_eq_true rfl) dX12_overtaken_18 (fun u_3 H locs hφ hP hD hS => ?_)
    obtain ⟨I_4, L_5, F_6, G_7⟩ := u_3
    obtain ⟨p_9, p_10⟩ : (KR (F_6 0) 6) ∧ (rgI (F_6 1) (-1) 5 6) := hφ
    refine W.eq (g2 := F0 m 21 ls []) rfl ?_
    refine lv_iconst (v := iZ 0) hx hb dX12_overtaken_21 (by decide) ?_
    refine lv_istore_n (lv' := [(3, .int (iZ 0)), (0, .ref hm), (1, .int (iZ x1)), (2, .int (iZ x2))]) hx hb dX12_overtaken_22 rfl hl (by decide) rfl (fun ls hl => ?_)
    refine lv_iconst (v := iZ 0) hx hb dX12_overtaken_23 (by decide) ?_
    refine lv_istore (lv' := [(4, .int (iZ 0)), (3, .int (iZ 0)), (0, .ref hm), (1, .int (iZ x1)), (2, .int (iZ x2))]) hx hb dX12_overtaken_24 hl (by decide) rfl (fun ls hl => ?_)
    have HL26 : ∀ (fu : Nat) (v3_26 : Int) (v4_26 : Int) (H : Heap) (locs : List Loc) (ls : Array Slot), ((gz Af 0) + 2 - v4_26) < (fu : Int) → ((0 ≤ v4_26 ∧ v4_26 ≤ (gz Af 0) + 1)) → (-2147483648 ≤ v3_26 ∧ v3_26 < 2147483648) → va_P D vwCl [(hm, .inr (12, [.ref Ma, .ref Mn, .int (iZ Mst), .long Mtp, .long Mbt, .ref Ms, .ref My, .ref Mt, .ref Mp, .ref Mx, .int (iZ Mtd), .int (iZ Msz), .int (iZ Mtk), .int (iZ Mfr), .int (iZ Men), .int (iZ Mva), .int (iZ Mfk), .int (iZ Mfp), .int (iZ Mfs), .int (iZ Mse), .int (iZ Mlt), .ref Mo, .int (iZ Mdp), .int (iZ Mct), .ref Mk, .ref Ml, .ref Mb, .ref Mh, .ref Mc, .int (iZ Mdr), .int (iZ Mrs), .ref Mz, .ref Mr, .ref Mq, .int (iZ Mit), .int (iZ Mmk)])), (Ma, .inl (k 1, 5340, .inl Af)), (Mk, .inl (k 1, 6, .inl (F_6 0))), (Ml, .inl (k 1, 6, .inl (F_6 1))), (Mb, .inl (k 1, 6, .inl (F_6 2)))] H → va_D A [(hm, .inr (12, [.ref Ma, .ref Mn, .int (iZ Mst), .long Mtp, .long Mbt, .ref Ms, .ref My, .ref Mt, .ref Mp, .ref Mx, .int (iZ Mtd), .int (iZ Msz), .int (iZ Mtk), .int (iZ Mfr), .int (iZ Men), .int (iZ Mva), .int (iZ Mfk), .int (iZ Mfp), .int (iZ Mfs), .int (iZ Mse), .int (iZ Mlt), .ref Mo, .int (iZ Mdp), .int (iZ Mct), .ref Mk, .ref Ml, .ref Mb, .ref Mh, .ref Mc, .int (iZ Mdr), .int (iZ Mrs), .ref Mz, .ref Mr, .ref Mq, .int (iZ Mit), .int (iZ Mmk)])), (Ma, .inl (k 1, 5340, .inl Af)), (Mk, .inl (k 1, 6, .inl (F_6 0))), (Ml, .inl (k 1, 6, .inl (F_6 1))), (Mb, .inl (k 1, 6, .inl (F_6 2)))] → va_S A s.heap H locs → lv_has ls 5 [(4, .int (iZ v4_26)), (3, .int (iZ v3_26)), (0, .ref hm), (1, .int (iZ x1)), (2, .int (iZ x2))] → W p l e (rj 6 0 0) s m [.ref hm, .int (iZ x1), .int (iZ x2)].toArray below meth c H locs 0 0 (MQ below (QW (σ := ((Nat → Int) × (Nat → Int64) × (Nat → Nat → Int32) × (Nat → Nat → Int64))) (fun u => some (.int (iZ (u.1 0)))) (fun _ => True) (fun u => [(hm, .inr (12, [.ref Ma, .ref Mn, .int (iZ (u.1 1)), .long Mtp, .long Mbt, .ref Ms, .ref My, .ref Mt, .ref Mp, .ref Mx, .int (iZ Mtd), .int (iZ Msz), .int (iZ Mtk), .int (iZ Mfr), .int (iZ Men), .int (iZ Mva), .int (iZ Mfk), .int (iZ Mfp), .int (iZ Mfs), .int (iZ Mse), .int (iZ Mlt), .ref Mo, .int (iZ Mdp), .int (iZ Mct), .ref Mk, .ref Ml, .ref Mb, .ref Mh, .ref Mc, .int (iZ Mdr), .int (iZ Mrs), .ref Mz, .ref Mr, .ref Mq, .int (iZ Mit), .int (iZ Mmk)])), (Ma, .inl (k 1, 5340, .inl Af)), (Mk, .inl (k 1, 6, .inl (u.2.2.1 0))), (Ml, .inl (k 1, 6, .inl (u.2.2.1 1))), (Mb, .inl (k 1, 6, .inl (u.2.2.1 2)))]) D A) [.ref hm, .int (iZ x1), .int (iZ x2)].toArray s 0 0 A) (F0 m 26 ls []) := by
      intro fu
      induction fu with
      | zero => intro v3_26 v4_26 H locs ls hμ26 hi26 hf0_26 hP hD hS hl; exact absurd hμ26 (by omega)
      | succ fu ih26 =>
        intro v3_26 v4_26 H locs ls hμ26 hi26 hf0_26 hP hD hS hl
        refine lv_iload hx hb dX12_overtaken_26 (lv_at hl 0 rfl) ?_
        refine lv_aload_n hx hb dX12_overtaken_28 rfl (lv_at hl 2 rfl) ?_
        refine va_get (D := D) (ci := 12) (v := .ref Ma) (C := RX12) (T := TX12) (N := 36) hx hb hts iX12 hown hK hP 0 rfl rfl 0 (by decide) (hts _ qf_X12_7) (fun _ h => h) rfl dX12_overtaken_29 ?_
        refine lv_iconst (v := iZ 0) hx hb dX12_overtaken_32 (by decide) ?_
        refine va_iald hx hb hK hP 1 1 rfl rfl (zin (e := 0) (n := 5340) ⟨by omega, by omega⟩ (by decide)) dX12_overtaken_33 ?_
        refine lv_topi (fun x_11 ex_11 => ?_)
        obtain rfl : x_11 = iZ (gz Af 0) := ex_11.trans (gz_eq ⟨by omega, by omega⟩)
        have h_12 := gz_rg Af 0
        refine lv_icmp_ge (tgt := 72) hx hb dX12_overtaken_34 (by decide) (fun c_13 => ?_) (fun c_13 => ?_)
        ·
          have c_13 := (zle (x := iZ (gz Af 0)) (y := iZ v4_26) rfl rfl ⟨by omega, by omega⟩ ⟨by omega, by omega⟩).mp c_13
          refine lv_aload_n hx hb dX12_overtaken_72 rfl (lv_at hl 2 rfl) ?_
          refine lv_iload_n hx hb dX12_overtaken_73 rfl (lv_at hl 1 rfl) ?_
          refine CWV (As := [.int (iZ v3_26)]) (rest := []) (wc := [(hm, .inr (12, [.ref Ma, .ref Mn, .int (iZ Mst), .long Mtp, .long Mbt, .ref Ms, .ref My, .ref Mt, .ref Mp, .ref Mx, .int (iZ Mtd), .int (iZ Msz), .int (iZ Mtk), .int (iZ Mfr), .int (iZ Men), .int (iZ Mva), .int (iZ Mfk), .int (iZ Mfp), .int (iZ Mfs), .int (iZ Mse), .int (iZ Mlt), .ref Mo, .int (iZ Mdp), .int (iZ Mct), .ref Mk, .ref Ml, .ref Mb, .ref Mh, .ref Mc, .int (iZ Mdr), .int (iZ Mrs), .ref Mz, .ref Mr, .ref Mq, .int (iZ Mit), .int (iZ Mmk)]))]) (wr := [(Ma, .inl (k 1, 5340, .inl Af)), (Mk, .inl (k 1, 6, .inl (F_6 0))), (Ml, .inl (k 1, 6, .inl (F_6 1))), (Mb, .inl (k 1, 6, .inl (F_6 2)))]) hx hb hml hown hts hKK hP hD hS hA (m_gives l D k hm Ma Mn Ms My Mt Mp Mx Mo Mk Ml Mb Mh Mc Mz Mr Mq Mst Mtd Msz Mtk Mfr Men Mva Mfk Mfp Mfs Mse Mlt Mdp Mct Mdr Mrs Mit Mmk Mtp Mbt v3_26) ci_X12_gives qm_X12_85 ⟨Nat.le_of_ble_eq_true rfl, Nat.le_of_ble_eq_true rfl⟩ ⟨Nat.le_of_ble_eq_true rfl, Nat.le_of_ble_eq_true rfl⟩ [0] [1, 2, 3, 4] rfl rfl rfl rfl rfl (by decide) 0 rfl rfl rfl hl.1 rfl (Nat.le_of_ble_eq_true rfl) dX12_overtaken_74 (fun u_14 H locs hφ hP hD hS => ?_)
          obtain ⟨I_15, L_16, F_17, G_18⟩ := u_14
          refine W.eq (g2 := F0 m 77 ls [.int (iZ v3_26)]) rfl ?_
          exact EWi hx hb hr hlocks hS (fun i => [v3_26, 0].getD i 0, fun i => [0].getD i 0, fun i => [(F_6 0), (F_6 1), (F_6 2)].getD i (fun _ => 0), fun i => [].getD i (fun _ => 0)) rfl trivial (hP.sub [4, 0, 1, 2, 3] rfl) (hD.sub [4, 0, 1, 2, 3] rfl rfl) dX12_overtaken_77
        ·
          have c_13 := mt (zle (x := iZ (gz Af 0)) (y := iZ v4_26) rfl rfl ⟨by omega, by omega⟩ ⟨by omega, by omega⟩).mpr c_13
          refine lv_iload_n hx hb dX12_overtaken_37 rfl (lv_at hl 1 rfl) ?_
          refine lv_aload_n hx hb dX12_overtaken_38 rfl (lv_at hl 2 rfl) ?_
          refine va_get (D := D) (ci := 12) (v := .ref Mk) (C := RX12) (T := TX12) (N := 36) hx hb hts iX12 hown hK hP 0 rfl rfl 24 (by decide) (hts _ qf_X12_47) (fun _ h => h) rfl dX12_overtaken_39 ?_
          refine lv_iload hx hb dX12_overtaken_42 (lv_at hl 0 rfl) ?_
          refine va_iald hx hb hK hP 2 1 rfl rfl (zin (e := v4_26) (n := 6) ⟨by omega, by omega⟩ (by decide)) dX12_overtaken_44 ?_
          refine lv_topi (fun x_20 ex_20 => ?_)
          obtain rfl : x_20 = iZ (gz (F_6 0) v4_26) := ex_20.trans (gz_eq ⟨by omega, by omega⟩)
          have h_21 := p_9 v4_26 (by omega) (by omega)
          refine lv_aload_n hx hb dX12_overtaken_45 rfl (lv_at hl 2 rfl) ?_
          refine lv_iload_n hx hb dX12_overtaken_46 rfl (lv_at hl 3 rfl) ?_
          refine lv_iload_n hx hb dX12_overtaken_47 rfl (lv_at hl 4 rfl) ?_
          refine lv_iload hx hb dX12_overtaken_48 (lv_at hl 0 rfl) ?_
          refine CPV (As := [.int (iZ x1), .int (iZ x2), .int (iZ v4_26)]) (rest := [.int (iZ (gz (F_6 0) v4_26)), .int (iZ v3_26)]) hx hb hml hown hts hKK (hP.sub (ws' := [(hm, .inr (12, [.ref Ma, .ref Mn, .int (iZ Mst), .long Mtp, .long Mbt, .ref Ms, .ref My, .ref Mt, .ref Mp, .ref Mx, .int (iZ Mtd), .int (iZ Msz), .int (iZ Mtk), .int (iZ Mfr), .int (iZ Men), .int (iZ Mva), .int (iZ Mfk), .int (iZ Mfp), .int (iZ Mfs), .int (iZ Mse), .int (iZ Mlt), .ref Mo, .int (iZ Mdp), .int (iZ Mct), .ref Mk, .ref Ml, .ref Mb, .ref Mh, .ref Mc, .int (iZ Mdr), .int (iZ Mrs), .ref Mz, .ref Mr, .ref Mq, .int (iZ Mit), .int (iZ Mmk)])), (Ma, .inl (k 1, 5340, .inl Af))]) [0, 1] rfl) (m_arrival l D k ([.ref Ma, .ref Mn, .int (iZ Mst), .long Mtp, .long Mbt, .ref Ms, .ref My, .ref Mt, .ref Mp, .ref Mx, .int (iZ Mtd), .int (iZ Msz), .int (iZ Mtk), .int (iZ Mfr), .int (iZ Men), .int (iZ Mva), .int (iZ Mfk), .int (iZ Mfp), .int (iZ Mfs), .int (iZ Mse), .int (iZ Mlt), .ref Mo, .int (iZ Mdp), .int (iZ Mct), .ref Mk, .ref Ml, .ref Mb, .ref Mh, .ref Mc, .int (iZ Mdr), .int (iZ Mrs), .ref Mz, .ref Mr, .ref Mq, .int (iZ Mit), .int (iZ Mmk)]) hm Ma Af x1 x2 v4_26 rfl hM ⟨by omega, by omega⟩ ⟨by omega, by omega⟩ ⟨by omega, by omega⟩) ci_X12_arrival qm_X12_280 ⟨Nat.le_of_ble_eq_true rfl, Nat.le_of_ble_eq_true rfl⟩ ⟨Nat.le_of_ble_eq_true rfl, Nat.le_of_ble_eq_true rfl⟩ 0 rfl rfl rfl hl.1 rfl (Nat.le_of_ble_eq_true rfl) dX12_overtaken_50 (fun z_22 hz_22 => ?_)
          obtain ⟨ez_22, az_22⟩ := hz_22
          refine lv_icmp_ge (tgt := 63) hx hb dX12_overtaken_53 (by decide) (fun c_23 => ?_) (fun c_23 => ?_)
          ·
            have c_23 := (zle (x := iZ z_22) (y := iZ (gz (F_6 0) v4_26)) rfl rfl ⟨by omega, by omega⟩ ⟨by omega, by omega⟩).mp c_23
            refine lv_iconst (v := iZ 0) hx hb dX12_overtaken_63 (by decide) ?_
            refine lv_ior hx hb dX12_overtaken_64 ?_
            refine lv_topi (fun x_25 ex_25 => ?_)
            obtain ⟨z_24, hz_24, hz_24a, hz_24b⟩ := i32_z x_25
            subst hz_24
            refine lv_istore_n (lv' := [(3, .int (iZ z_24)), (4, .int (iZ v4_26)), (0, .ref hm), (1, .int (iZ x1)), (2, .int (iZ x2))]) hx hb dX12_overtaken_65 rfl hl (by decide) rfl (fun ls hl => ?_)
            refine lv_iinc (v := iZ (v4_26 + 1)) (lv' := [(4, .int (iZ (v4_26 + 1))), (3, .int (iZ z_24)), (0, .ref hm), (1, .int (iZ x1)), (2, .int (iZ x2))]) hx hb dX12_overtaken_66 hl (k := 1) rfl (iZ_add v4_26 1) (by decide) rfl (fun ls hl => ?_)
            refine lv_goto (tgt := 26) hx hb dX12_overtaken_69 (by decide) ?_
            exact ih26  z_24 (v4_26 + 1) _ _ _ (by omega) (show (0 ≤ (v4_26 + 1) ∧ (v4_26 + 1) ≤ (gz Af 0) + 1) from ⟨by omega, by omega⟩) (show -2147483648 ≤ z_24 ∧ z_24 < 2147483648 from (by omega)) (hP.sub [0, 1, 2, 3, 4] rfl) (hD.sub [0, 1, 2, 3, 4] rfl rfl) hS (lv_sub hl [0, 1, 2, 3, 4] rfl)
          ·
            have c_23 := mt (zle (x := iZ z_22) (y := iZ (gz (F_6 0) v4_26)) rfl rfl ⟨by omega, by omega⟩ ⟨by omega, by omega⟩).mpr c_23
            refine lv_iconst (v := iZ 1) hx hb dX12_overtaken_56 (by decide) ?_
            refine lv_iload hx hb dX12_overtaken_57 (lv_at hl 0 rfl) ?_
            refine lv_ishl hx hb dX12_overtaken_59 ?_
            refine lv_topi (fun x_27 ex_27 => ?_)
            obtain ⟨z_26, hz_26, hz_26a, hz_26b⟩ := i32_z x_27
            subst hz_26
            refine lv_goto (tgt := 64) hx hb dX12_overtaken_60 (by decide) ?_
            refine lv_ior hx hb dX12_overtaken_64 ?_
            refine lv_topi (fun x_29 ex_29 => ?_)
            obtain ⟨z_28, hz_28, hz_28a, hz_28b⟩ := i32_z x_29
            subst hz_28
            refine lv_istore_n (lv' := [(3, .int (iZ z_28)), (4, .int (iZ v4_26)), (0, .ref hm), (1, .int (iZ x1)), (2, .int (iZ x2))]) hx hb dX12_overtaken_65 rfl hl (by decide) rfl (fun ls hl => ?_)
            refine lv_iinc (v := iZ (v4_26 + 1)) (lv' := [(4, .int (iZ (v4_26 + 1))), (3, .int (iZ z_28)), (0, .ref hm), (1, .int (iZ x1)), (2, .int (iZ x2))]) hx hb dX12_overtaken_66 hl (k := 1) rfl (iZ_add v4_26 1) (by decide) rfl (fun ls hl => ?_)
            refine lv_goto (tgt := 26) hx hb dX12_overtaken_69 (by decide) ?_
            exact ih26  z_28 (v4_26 + 1) _ _ _ (by omega) (show (0 ≤ (v4_26 + 1) ∧ (v4_26 + 1) ≤ (gz Af 0) + 1) from ⟨by omega, by omega⟩) (show -2147483648 ≤ z_28 ∧ z_28 < 2147483648 from (by omega)) (hP.sub [0, 1, 2, 3, 4] rfl) (hD.sub [0, 1, 2, 3, 4] rfl rfl) hS (lv_sub hl [0, 1, 2, 3, 4] rfl)
    exact HL26 10 0 0 _ _ _ (by omega) (show (0 ≤ 0 ∧ 0 ≤ (gz Af 0) + 1) from ⟨by omega, by omega⟩) (show -2147483648 ≤ 0 ∧ 0 < 2147483648 from (by omega)) (hP.sub [0, 1, 2, 3, 4] rfl) (hD.sub [0, 1, 2, 3, 4] rfl rfl) hS (lv_sub hl [0, 1, 2, 3, 4] rfl)
  ·
    subst qz_1
    refine lv_if_ne (tgt := 15) hx hb dX12_overtaken_6 (by decide) (fun c => absurd (by decide) c) (fun _ => ?_)
    refine lv_aload_n hx hb dX12_overtaken_9 rfl (lv_at hl 0 rfl) ?_
    refine lv_iconst (v := iZ 1) hx hb dX12_overtaken_10 (by decide) ?_
    refine CWV (As := [.int (iZ 1)]) (rest := []) (wc := [(hm, .inr (12, [.ref Ma, .ref Mn, .int (iZ Mst), .long Mtp, .long Mbt, .ref Ms, .ref My, .ref Mt, .ref Mp, .ref Mx, .int (iZ Mtd), .int (iZ Msz), .int (iZ Mtk), .int (iZ Mfr), .int (iZ Men), .int (iZ Mva), .int (iZ Mfk), .int (iZ Mfp), .int (iZ Mfs), .int (iZ Mse), .int (iZ Mlt), .ref Mo, .int (iZ Mdp), .int (iZ Mct), .ref Mk, .ref Ml, .ref Mb, .ref Mh, .ref Mc, .int (iZ Mdr), .int (iZ Mrs), .ref Mz, .ref Mr, .ref Mq, .int (iZ Mit), .int (iZ Mmk)]))]) (wr := [(Ma, .inl (k 1, 5340, .inl Af)), (Mk, .inl (k 1, 6, .inl Kf)), (Ml, .inl (k 1, 6, .inl Lf)), (Mb, .inl (k 1, 6, .inl Bf))]) hx hb hml hown hts hKK hP hD hS hA (m_refuse l D k hm Ma Mn Ms My Mt Mp Mx Mo Mk Ml Mb Mh Mc Mz Mr Mq Mst Mtd Msz Mtk Mfr Men Mva Mfk Mfp Mfs Mse Mlt Mdp Mct Mdr Mrs Mit Mmk Mtp Mbt 1) ci_X12_refuse qm_X12_81 ⟨Nat.le_of_ble_eq_true rfl, Nat.le_of_ble_eq_true rfl⟩ ⟨Nat.le_of_ble_eq_true rfl, Nat.le_of_ble_eq_true rfl⟩ [0] [1, 2, 3, 4] rfl rfl rfl rfl rfl (by decide) 0 rfl rfl rfl hl.1 rfl (Nat.le_of_ble_eq_true rfl) dX12_overtaken_11 (fun u_31 H locs hφ hP hD hS => ?_)
    obtain ⟨I_32, L_33, F_34, G_35⟩ := u_31
    refine W.eq (g2 := F0 m 14 ls [.int (iZ (-1))]) rfl ?_
    exact EWi hx hb hr hlocks hS (fun i => [(-1), 1].getD i 0, fun i => [0].getD i 0, fun i => [Kf, Lf, Bf].getD i (fun _ => 0), fun i => [].getD i (fun _ => 0)) rfl trivial (hP.sub [4, 0, 1, 2, 3] rfl) (hD.sub [4, 0, 1, 2, 3] rfl rfl) dX12_overtaken_14
set_option maxHeartbeats 4000000 in
set_option maxRecDepth 100000 in
theorem q_latest (l : Launch) (D : va_G) (k : Nat → ClassId) (hm : Nat) (Ma : Nat) (Mn : Nat) (Ms : Nat) (My : Nat) (Mt : Nat) (Mp : Nat) (Mx : Nat) (Mo : Nat) (Mk : Nat) (Ml : Nat) (Mb : Nat) (Mh : Nat) (Mc : Nat) (Mz : Nat) (Mr : Nat) (Mq : Nat) (Mst : Int) (Mtd : Int) (Msz : Int) (Mtk : Int) (Mfr : Int) (Men : Int) (Mva : Int) (Mfk : Int) (Mfp : Int) (Mfs : Int) (Mse : Int) (Mlt : Int) (Mdp : Int) (Mct : Int) (Mdr : Int) (Mrs : Int) (Mit : Int) (Mmk : Int) (Mtp : Int64) (Mbt : Int64) (Af : Nat → Int32) (Kf : Nat → Int32) (Lf : Nat → Int32) (Bf : Nat → Int32) (x1 : Int) (x2 : Int) (hM : M0 Af) (h9x1 : -2147483648 ≤ x1 ∧ x1 < 2147483648) (h9x2 : -2147483648 ≤ x2 ∧ x2 < 2147483648) : WD (σ := ((Nat → Int) × (Nat → Int64) × (Nat → Nat → Int32) × (Nat → Nat → Int64))) l yX12_latest cX12_latest 3 (some .int) 6 0 0 D k [.ref hm, .int (iZ x1), .int (iZ x2)] [(hm, .inr (12, [.ref Ma, .ref Mn, .int (iZ Mst), .long Mtp, .long Mbt, .ref Ms, .ref My, .ref Mt, .ref Mp, .ref Mx, .int (iZ Mtd), .int (iZ Msz), .int (iZ Mtk), .int (iZ Mfr), .int (iZ Men), .int (iZ Mva), .int (iZ Mfk), .int (iZ Mfp), .int (iZ Mfs), .int (iZ Mse), .int (iZ Mlt), .ref Mo, .int (iZ Mdp), .int (iZ Mct), .ref Mk, .ref Ml, .ref Mb, .ref Mh, .ref Mc, .int (iZ Mdr), .int (iZ Mrs), .ref Mz, .ref Mr, .ref Mq, .int (iZ Mit), .int (iZ Mmk)])), (Ma, .inl (k 1, 5340, .inl Af)), (Mk, .inl (k 1, 6, .inl Kf)), (Ml, .inl (k 1, 6, .inl Lf)), (Mb, .inl (k 1, 6, .inl Bf))] (fun u => some (.int (iZ (u.1 0)))) (fun _ => True) (fun u => [(hm, .inr (12, [.ref Ma, .ref Mn, .int (iZ (u.1 1)), .long Mtp, .long Mbt, .ref Ms, .ref My, .ref Mt, .ref Mp, .ref Mx, .int (iZ Mtd), .int (iZ Msz), .int (iZ Mtk), .int (iZ Mfr), .int (iZ Men), .int (iZ Mva), .int (iZ Mfk), .int (iZ Mfp), .int (iZ Mfs), .int (iZ Mse), .int (iZ Mlt), .ref Mo, .int (iZ Mdp), .int (iZ Mct), .ref Mk, .ref Ml, .ref Mb, .ref Mh, .ref Mc, .int (iZ Mdr), .int (iZ Mrs), .ref Mz, .ref Mr, .ref Mq, .int (iZ Mit), .int (iZ Mmk)])), (Ma, .inl (k 1, 5340, .inl Af)), (Mk, .inl (k 1, 6, .inl (u.2.2.1 0))), (Ml, .inl (k 1, 6, .inl (u.2.2.1 1))), (Mb, .inl (k 1, 6, .inl (u.2.2.1 2)))]) := by
  refine MW (by decide) (Nat.le_of_ble_eq_true rfl) (fun p e s m below meth c ls A hx hb hml hr hlocks hin hts hown hKK hP hD hS hA hl => ?_)
  have hK := hKK.1
  have hl : lv_has ls 3 [(0, .ref hm), (1, .int (iZ x1)), (2, .int (iZ x2))] := hl
  obtain ⟨m0, m1, m3, m4, m5, mF, mO, mS⟩ := id hM
  refine lv_aload_n hx hb dX12_latest_0 rfl (lv_at hl 0 rfl) ?_
  refine lv_iload_n hx hb dX12_latest_1 rfl (lv_at hl 1 rfl) ?_
  refine lv_iload_n hx hb dX12_latest_2 rfl (lv_at hl 2 rfl) ?_
  refine CPV (As := [.int (iZ x1), .int (iZ x2)]) (rest := []) hx hb hml hown hts hKK (hP.sub (ws' := [(hm, .inr (12, [.ref Ma, .ref Mn, .int (iZ Mst), .long Mtp, .long Mbt, .ref Ms, .ref My, .ref Mt, .ref Mp, .ref Mx, .int (iZ Mtd), .int (iZ Msz), .int (iZ Mtk), .int (iZ Mfr), .int (iZ Men), .int (iZ Mva), .int (iZ Mfk), .int (iZ Mfp), .int (iZ Mfs), .int (iZ Mse), .int (iZ Mlt), .ref Mo, .int (iZ Mdp), .int (iZ Mct), .ref Mk, .ref Ml, .ref Mb, .ref Mh, .ref Mc, .int (iZ Mdr), .int (iZ Mrs), .ref Mz, .ref Mr, .ref Mq, .int (iZ Mit), .int (iZ Mmk)])), (Ma, .inl (k 1, 5340, .inl Af))]) [0, 1] rfl) (m_isNews l D k ([.ref Ma, .ref Mn, .int (iZ Mst), .long Mtp, .long Mbt, .ref Ms, .ref My, .ref Mt, .ref Mp, .ref Mx, .int (iZ Mtd), .int (iZ Msz), .int (iZ Mtk), .int (iZ Mfr), .int (iZ Men), .int (iZ Mva), .int (iZ Mfk), .int (iZ Mfp), .int (iZ Mfs), .int (iZ Mse), .int (iZ Mlt), .ref Mo, .int (iZ Mdp), .int (iZ Mct), .ref Mk, .ref Ml, .ref Mb, .ref Mh, .ref Mc, .int (iZ Mdr), .int (iZ Mrs), .ref Mz, .ref Mr, .ref Mq, .int (iZ Mit), .int (iZ Mmk)]) hm Ma Af x1 x2 rfl hM ⟨by omega, by omega⟩ ⟨by omega, by omega⟩) ci_X12_isNews qm_X12_299 ⟨Nat.le_of_ble_eq_true rfl, Nat.le_of_ble_eq_true rfl⟩ ⟨Nat.le_of_ble_eq_true rfl, Nat.le_of_ble_eq_true rfl⟩ 0 rfl rfl rfl hl.1 rfl (Nat.le_of_ble_eq_true rfl) dX12_latest_3 (fun z_1 hz_1 => ?_)
  rcases hz_1 with ⟨qz_1, hz_1⟩ | ⟨qz_1, hz_1⟩
  ·
    subst qz_1
    refine lv_if_ne (tgt := 15) hx hb dX12_latest_6 (by decide) (fun _ => ?_) (fun c => absurd c (by decide))
    refine lv_aload_n hx hb dX12_latest_15 rfl (lv_at hl 0 rfl) ?_
    refine lv_iload_n hx hb dX12_latest_16 rfl (lv_at hl 1 rfl) ?_
    refine lv_iload_n hx hb dX12_latest_17 rfl (lv_at hl 2 rfl) ?_
    refine CWV (As := [.int (iZ x1), .int (iZ x2)]) (rest := []) (wc := [(hm, .inr (12, [.ref Ma, .ref Mn, .int (iZ Mst), .long Mtp, .long Mbt, .ref Ms, .ref My, .ref Mt, .ref Mp, .ref Mx, .int (iZ Mtd), .int (iZ Msz), .int (iZ Mtk), .int (iZ Mfr), .int (iZ Men), .int (iZ Mva), .int (iZ Mfk), .int (iZ Mfp), .int (iZ Mfs), .int (iZ Mse), .int (iZ Mlt), .ref Mo, .int (iZ Mdp), .int (iZ Mct), .ref Mk, .ref Ml, .ref Mb, .ref Mh, .ref Mc, .int (iZ Mdr), .int (iZ Mrs), .ref Mz, .ref Mr, .ref Mq, .int (iZ Mit), .int (iZ Mmk)])), (Ma, .inl (k 1, 5340, .inl Af)), (Mk, .inl (k 1, 6, .inl Kf)), (Ml, .inl (k 1, 6, .inl Lf)), (Mb, .inl (k 1, 6, .inl Bf))]) (wr := []) hx hb hml hown hts hKK hP hD hS hA (m_lays l D k hm Ma Mn Ms My Mt Mp Mx Mo Mk Ml Mb Mh Mc Mz Mr Mq Mst Mtd Msz Mtk Mfr Men Mva Mfk Mfp Mfs Mse Mlt Mdp Mct Mdr Mrs Mit Mmk Mtp Mbt Af Kf Lf Bf x1 x2 hM ⟨by omega, by omega⟩ ⟨by omega, by omega⟩) ci_X12_lays qm_X12_302 ⟨Nat.le_of_ble_eq_true rfl, Nat.le_of_ble_eq_true rfl⟩ ⟨Nat.le_of_ble_eq_true rfl, Nat.le_of_ble_eq_true rfl⟩ [0, 1, 2, 3, 4] [] rfl rfl rfl rfl rfl (by decide) 0 rfl rfl rfl hl.1 rfl (Nat.le_of_ble_eq_true rfl) dX12_latest_18 (fun u_3 H locs hφ hP hD hS => ?_)
    obtain ⟨I_4, L_5, F_6, G_7⟩ := u_3
    obtain ⟨p_9, p_10⟩ : (KR (F_6 0) 6) ∧ (rgI (F_6 1) (-1) 5 6) := hφ
    refine W.eq (g2 := F0 m 21 ls []) rfl ?_
    refine lv_aload_n hx hb dX12_latest_21 rfl (lv_at hl 0 rfl) ?_
    refine va_get (D := D) (ci := 12) (v := .ref Mk) (C := RX12) (T := TX12) (N := 36) hx hb hts iX12 hown hK hP 0 rfl rfl 24 (by decide) (hts _ qf_X12_47) (fun _ h => h) rfl dX12_latest_22 ?_
    refine lv_aload_n hx hb dX12_latest_25 rfl (lv_at hl 0 rfl) ?_
    refine CPV (As := []) (rest := [.ref Mk]) hx hb hml hown hts hKK (hP.sub (ws' := [(hm, .inr (12, [.ref Ma, .ref Mn, .int (iZ Mst), .long Mtp, .long Mbt, .ref Ms, .ref My, .ref Mt, .ref Mp, .ref Mx, .int (iZ Mtd), .int (iZ Msz), .int (iZ Mtk), .int (iZ Mfr), .int (iZ Men), .int (iZ Mva), .int (iZ Mfk), .int (iZ Mfp), .int (iZ Mfs), .int (iZ Mse), .int (iZ Mlt), .ref Mo, .int (iZ Mdp), .int (iZ Mct), .ref Mk, .ref Ml, .ref Mb, .ref Mh, .ref Mc, .int (iZ Mdr), .int (iZ Mrs), .ref Mz, .ref Mr, .ref Mq, .int (iZ Mit), .int (iZ Mmk)])), (Ma, .inl (k 1, 5340, .inl Af)), (Mk, .inl (k 1, 6, .inl (F_6 0)))]) [0, 1, 2] rfl) (m_lastOne l D k ([.ref Ma, .ref Mn, .int (iZ Mst), .long Mtp, .long Mbt, .ref Ms, .ref My, .ref Mt, .ref Mp, .ref Mx, .int (iZ Mtd), .int (iZ Msz), .int (iZ Mtk), .int (iZ Mfr), .int (iZ Men), .int (iZ Mva), .int (iZ Mfk), .int (iZ Mfp), .int (iZ Mfs), .int (iZ Mse), .int (iZ Mlt), .ref Mo, .int (iZ Mdp), .int (iZ Mct), .ref Mk, .ref Ml, .ref Mb, .ref Mh, .ref Mc, .int (iZ Mdr), .int (iZ Mrs), .ref Mz, .ref Mr, .ref Mq, .int (iZ Mit), .int (iZ Mmk)]) hm Ma Mk Af (F_6 0) rfl rfl hM) ci_X12_lastOne qm_X12_311 ⟨Nat.le_of_ble_eq_true rfl, Nat.le_of_ble_eq_true rfl⟩ ⟨Nat.le_of_ble_eq_true rfl, Nat.le_of_ble_eq_true rfl⟩ 0 rfl rfl rfl hl.1 rfl (Nat.le_of_ble_eq_true rfl) dX12_latest_26 (fun z_11 hz_11 => ?_)
    refine va_iald hx hb hK hP 2 1 rfl rfl (zin (e := z_11) (n := 6) ⟨by omega, by omega⟩ (by decide)) dX12_latest_29 ?_
    refine lv_topi (fun x_12 ex_12 => ?_)
    obtain rfl : x_12 = iZ (gz (F_6 0) z_11) := ex_12.trans (gz_eq ⟨by omega, by omega⟩)
    have h_13 := p_9 z_11 (by omega) (by omega)
    refine lv_ldc (own := RX12) (v := 1000000) hx hb hown (hts _ qk_X12_88) dX12_latest_30 ?_
    refine W.eq (g2 := F0 m 32 ls [.int (iZ 1000000), .int (iZ (gz (F_6 0) z_11))]) rfl ?_
    refine lv_icmp_ne (tgt := 44) hx hb dX12_latest_32 (by decide) (fun c_14 => ?_) (fun c_14 => ?_)
    ·
      have c_14 := mt (zeq (x := iZ (gz (F_6 0) z_11)) (y := iZ 1000000) rfl rfl ⟨by omega, by omega⟩ ⟨by omega, by omega⟩).mpr c_14
      refine lv_aload_n hx hb dX12_latest_44 rfl (lv_at hl 0 rfl) ?_
      refine lv_aload_n hx hb dX12_latest_45 rfl (lv_at hl 0 rfl) ?_
      refine CPV (As := []) (rest := [.ref hm]) hx hb hml hown hts hKK (hP.sub (ws' := [(hm, .inr (12, [.ref Ma, .ref Mn, .int (iZ Mst), .long Mtp, .long Mbt, .ref Ms, .ref My, .ref Mt, .ref Mp, .ref Mx, .int (iZ Mtd), .int (iZ Msz), .int (iZ Mtk), .int (iZ Mfr), .int (iZ Men), .int (iZ Mva), .int (iZ Mfk), .int (iZ Mfp), .int (iZ Mfs), .int (iZ Mse), .int (iZ Mlt), .ref Mo, .int (iZ Mdp), .int (iZ Mct), .ref Mk, .ref Ml, .ref Mb, .ref Mh, .ref Mc, .int (iZ Mdr), .int (iZ Mrs), .ref Mz, .ref Mr, .ref Mq, .int (iZ Mit), .int (iZ Mmk)])), (Ma, .inl (k 1, 5340, .inl Af)), (Mk, .inl (k 1, 6, .inl (F_6 0)))]) [0, 1, 2] rfl) (m_lastOne l D k ([.ref Ma, .ref Mn, .int (iZ Mst), .long Mtp, .long Mbt, .ref Ms, .ref My, .ref Mt, .ref Mp, .ref Mx, .int (iZ Mtd), .int (iZ Msz), .int (iZ Mtk), .int (iZ Mfr), .int (iZ Men), .int (iZ Mva), .int (iZ Mfk), .int (iZ Mfp), .int (iZ Mfs), .int (iZ Mse), .int (iZ Mlt), .ref Mo, .int (iZ Mdp), .int (iZ Mct), .ref Mk, .ref Ml, .ref Mb, .ref Mh, .ref Mc, .int (iZ Mdr), .int (iZ Mrs), .ref Mz, .ref Mr, .ref Mq, .int (iZ Mit), .int (iZ Mmk)]) hm Ma Mk Af (F_6 0) rfl rfl hM) ci_X12_lastOne qm_X12_311 ⟨Nat.le_of_ble_eq_true rfl, Nat.le_of_ble_eq_true rfl⟩ ⟨Nat.le_of_ble_eq_true rfl, Nat.le_of_ble_eq_true rfl⟩ 0 rfl rfl rfl hl.1 rfl (Nat.le_of_ble_eq_true rfl) dX12_latest_46 (fun z_15 hz_15 => ?_)
      refine CWV (As := [.int (iZ z_15)]) (rest := []) (wc := [(hm, .inr (12, [.ref Ma, .ref Mn, .int (iZ Mst), .long Mtp, .long Mbt, .ref Ms, .ref My, .ref Mt, .ref Mp, .ref Mx, .int (iZ Mtd), .int (iZ Msz), .int (iZ Mtk), .int (iZ Mfr), .int (iZ Men), .int (iZ Mva), .int (iZ Mfk), .int (iZ Mfp), .int (iZ Mfs), .int (iZ Mse), .int (iZ Mlt), .ref Mo, .int (iZ Mdp), .int (iZ Mct), .ref Mk, .ref Ml, .ref Mb, .ref Mh, .ref Mc, .int (iZ Mdr), .int (iZ Mrs), .ref Mz, .ref Mr, .ref Mq, .int (iZ Mit), .int (iZ Mmk)]))]) (wr := [(Ma, .inl (k 1, 5340, .inl Af)), (Mk, .inl (k 1, 6, .inl (F_6 0))), (Ml, .inl (k 1, 6, .inl (F_6 1))), (Mb, .inl (k 1, 6, .inl (F_6 2)))]) hx hb hml hown hts hKK hP hD hS hA (m_gives l D k hm Ma Mn Ms My Mt Mp Mx Mo Mk Ml Mb Mh Mc Mz Mr Mq Mst Mtd Msz Mtk Mfr Men Mva Mfk Mfp Mfs Mse Mlt Mdp Mct Mdr Mrs Mit Mmk Mtp Mbt z_15) ci_X12_gives qm_X12_85 ⟨Nat.le_of_ble_eq_true rfl, Nat.le_of_ble_eq_true rfl⟩ ⟨Nat.le_of_ble_eq_true rfl, Nat.le_of_ble_eq_true rfl⟩ [0] [1, 2, 3, 4] rfl rfl rfl rfl rfl (by decide) 0 rfl rfl rfl hl.1 rfl (Nat.le_of_ble_eq_true rfl) dX12_latest_49 (fun u_16 H locs hφ hP hD hS => ?_)
      obtain ⟨I_17, L_18, F_19, G_20⟩ := u_16
      refine W.eq (g2 := F0 m 52 ls [.int (iZ z_15)]) rfl ?_
      exact EWi hx hb hr hlocks hS (fun i => [z_15, 0].getD i 0, fun i => [0].getD i 0, fun i => [(F_6 0), (F_6 1), (F_6 2)].getD i (fun _ => 0), fun i => [].getD i (fun _ => 0)) rfl trivial (hP.sub [4, 0, 1, 2, 3] rfl) (hD.sub [4, 0, 1, 2, 3] rfl rfl) dX12_latest_52
    ·
      have c_14 := (zeq (x := iZ (gz (F_6 0) z_11)) (y := iZ 1000000) rfl rfl ⟨by omega, by omega⟩ ⟨by omega, by omega⟩).mp c_14
      refine lv_aload_n hx hb dX12_latest_35 rfl (lv_at hl 0 rfl) ?_
      refine lv_bipush (v := iZ 6) hx hb dX12_latest_36 (by decide) ?_
      refine CWV (As := [.int (iZ 6)]) (rest := []) (wc := [(hm, .inr (12, [.ref Ma, .ref Mn, .int (iZ Mst), .long Mtp, .long Mbt, .ref Ms, .ref My, .ref Mt, .ref Mp, .ref Mx, .int (iZ Mtd), .int (iZ Msz), .int (iZ Mtk), .int (iZ Mfr), .int (iZ Men), .int (iZ Mva), .int (iZ Mfk), .int (iZ Mfp), .int (iZ Mfs), .int (iZ Mse), .int (iZ Mlt), .ref Mo, .int (iZ Mdp), .int (iZ Mct), .ref Mk, .ref Ml, .ref Mb, .ref Mh, .ref Mc, .int (iZ Mdr), .int (iZ Mrs), .ref Mz, .ref Mr, .ref Mq, .int (iZ Mit), .int (iZ Mmk)]))]) (wr := [(Ma, .inl (k 1, 5340, .inl Af)), (Mk, .inl (k 1, 6, .inl (F_6 0))), (Ml, .inl (k 1, 6, .inl (F_6 1))), (Mb, .inl (k 1, 6, .inl (F_6 2)))]) hx hb hml hown hts hKK hP hD hS hA (m_refuse l D k hm Ma Mn Ms My Mt Mp Mx Mo Mk Ml Mb Mh Mc Mz Mr Mq Mst Mtd Msz Mtk Mfr Men Mva Mfk Mfp Mfs Mse Mlt Mdp Mct Mdr Mrs Mit Mmk Mtp Mbt 6) ci_X12_refuse qm_X12_81 ⟨Nat.le_of_ble_eq_true rfl, Nat.le_of_ble_eq_true rfl⟩ ⟨Nat.le_of_ble_eq_true rfl, Nat.le_of_ble_eq_true rfl⟩ [0] [1, 2, 3, 4] rfl rfl rfl rfl rfl (by decide) 0 rfl rfl rfl hl.1 rfl (Nat.le_of_ble_eq_true rfl) dX12_latest_38 (fun u_22 H locs hφ hP hD hS => ?_)
      obtain ⟨I_23, L_24, F_25, G_26⟩ := u_22
      refine W.eq (g2 := F0 m 41 ls [.int (iZ (-1))]) rfl ?_
      refine lv_goto (tgt := 52) hx hb dX12_latest_41 (by decide) ?_
      exact EWi hx hb hr hlocks hS (fun i => [(-1), 6].getD i 0, fun i => [0].getD i 0, fun i => [(F_6 0), (F_6 1), (F_6 2)].getD i (fun _ => 0), fun i => [].getD i (fun _ => 0)) rfl trivial (hP.sub [4, 0, 1, 2, 3] rfl) (hD.sub [4, 0, 1, 2, 3] rfl rfl) dX12_latest_52
  ·
    subst qz_1
    refine lv_if_ne (tgt := 15) hx hb dX12_latest_6 (by decide) (fun c => absurd (by decide) c) (fun _ => ?_)
    refine lv_aload_n hx hb dX12_latest_9 rfl (lv_at hl 0 rfl) ?_
    refine lv_iconst (v := iZ 1) hx hb dX12_latest_10 (by decide) ?_
    refine CWV (As := [.int (iZ 1)]) (rest := []) (wc := [(hm, .inr (12, [.ref Ma, .ref Mn, .int (iZ Mst), .long Mtp, .long Mbt, .ref Ms, .ref My, .ref Mt, .ref Mp, .ref Mx, .int (iZ Mtd), .int (iZ Msz), .int (iZ Mtk), .int (iZ Mfr), .int (iZ Men), .int (iZ Mva), .int (iZ Mfk), .int (iZ Mfp), .int (iZ Mfs), .int (iZ Mse), .int (iZ Mlt), .ref Mo, .int (iZ Mdp), .int (iZ Mct), .ref Mk, .ref Ml, .ref Mb, .ref Mh, .ref Mc, .int (iZ Mdr), .int (iZ Mrs), .ref Mz, .ref Mr, .ref Mq, .int (iZ Mit), .int (iZ Mmk)]))]) (wr := [(Ma, .inl (k 1, 5340, .inl Af)), (Mk, .inl (k 1, 6, .inl Kf)), (Ml, .inl (k 1, 6, .inl Lf)), (Mb, .inl (k 1, 6, .inl Bf))]) hx hb hml hown hts hKK hP hD hS hA (m_refuse l D k hm Ma Mn Ms My Mt Mp Mx Mo Mk Ml Mb Mh Mc Mz Mr Mq Mst Mtd Msz Mtk Mfr Men Mva Mfk Mfp Mfs Mse Mlt Mdp Mct Mdr Mrs Mit Mmk Mtp Mbt 1) ci_X12_refuse qm_X12_81 ⟨Nat.le_of_ble_eq_true rfl, Nat.le_of_ble_eq_true rfl⟩ ⟨Nat.le_of_ble_eq_true rfl, Nat.le_of_ble_eq_true rfl⟩ [0] [1, 2, 3, 4] rfl rfl rfl rfl rfl (by decide) 0 rfl rfl rfl hl.1 rfl (Nat.le_of_ble_eq_true rfl) dX12_latest_11 (fun u_29 H locs hφ hP hD hS => ?_)
    obtain ⟨I_30, L_31, F_32, G_33⟩ := u_29
    refine W.eq (g2 := F0 m 14 ls [.int (iZ (-1))]) rfl ?_
    exact EWi hx hb hr hlocks hS (fun i => [(-1), 1].getD i 0, fun i => [0].getD i 0, fun i => [Kf, Lf, Bf].getD i (fun _ => 0), fun i => [].getD i (fun _ => 0)) rfl trivial (hP.sub [4, 0, 1, 2, 3] rfl) (hD.sub [4, 0, 1, 2, 3] rfl rfl) dX12_latest_14
set_option maxHeartbeats 4000000 in
set_option maxRecDepth 100000 in
theorem q_centre (l : Launch) (D : va_G) (k : Nat → ClassId) (hm : Nat) (Ma : Nat) (Mn : Nat) (Ms : Nat) (My : Nat) (Mt : Nat) (Mp : Nat) (Mx : Nat) (Mo : Nat) (Mk : Nat) (Ml : Nat) (Mb : Nat) (Mh : Nat) (Mc : Nat) (Mz : Nat) (Mr : Nat) (Mq : Nat) (Mst : Int) (Mtd : Int) (Msz : Int) (Mtk : Int) (Mfr : Int) (Men : Int) (Mva : Int) (Mfk : Int) (Mfp : Int) (Mfs : Int) (Mse : Int) (Mlt : Int) (Mdp : Int) (Mct : Int) (Mdr : Int) (Mrs : Int) (Mit : Int) (Mmk : Int) (Mtp : Int64) (Mbt : Int64) (Af : Nat → Int32) (Kf : Nat → Int32) (Lf : Nat → Int32) (Bf : Nat → Int32) (x1 : Int) (hM : M0 Af) (h9x1 : -2147483648 ≤ x1 ∧ x1 < 2147483648) : WD (σ := ((Nat → Int) × (Nat → Int64) × (Nat → Nat → Int32) × (Nat → Nat → Int64))) l yX12_centre cX12_centre 5 (some .int) 6 0 0 D k [.ref hm, .int (iZ x1)] [(hm, .inr (12, [.ref Ma, .ref Mn, .int (iZ Mst), .long Mtp, .long Mbt, .ref Ms, .ref My, .ref Mt, .ref Mp, .ref Mx, .int (iZ Mtd), .int (iZ Msz), .int (iZ Mtk), .int (iZ Mfr), .int (iZ Men), .int (iZ Mva), .int (iZ Mfk), .int (iZ Mfp), .int (iZ Mfs), .int (iZ Mse), .int (iZ Mlt), .ref Mo, .int (iZ Mdp), .int (iZ Mct), .ref Mk, .ref Ml, .ref Mb, .ref Mh, .ref Mc, .int (iZ Mdr), .int (iZ Mrs), .ref Mz, .ref Mr, .ref Mq, .int (iZ Mit), .int (iZ Mmk)])), (Ma, .inl (k 1, 5340, .inl Af)), (Mk, .inl (k 1, 6, .inl Kf)), (Ml, .inl (k 1, 6, .inl Lf)), (Mb, .inl (k 1, 6, .inl Bf))] (fun u => some (.int (iZ (u.1 0)))) (fun _ => True) (fun u => [(hm, .inr (12, [.ref Ma, .ref Mn, .int (iZ (u.1 1)), .long Mtp, .long Mbt, .ref Ms, .ref My, .ref Mt, .ref Mp, .ref Mx, .int (iZ Mtd), .int (iZ Msz), .int (iZ Mtk), .int (iZ Mfr), .int (iZ Men), .int (iZ Mva), .int (iZ Mfk), .int (iZ Mfp), .int (iZ Mfs), .int (iZ Mse), .int (iZ Mlt), .ref Mo, .int (iZ Mdp), .int (iZ Mct), .ref Mk, .ref Ml, .ref Mb, .ref Mh, .ref Mc, .int (iZ Mdr), .int (iZ Mrs), .ref Mz, .ref Mr, .ref Mq, .int (iZ Mit), .int (iZ Mmk)])), (Ma, .inl (k 1, 5340, .inl Af)), (Mk, .inl (k 1, 6, .inl (u.2.2.1 0))), (Ml, .inl (k 1, 6, .inl (u.2.2.1 1))), (Mb, .inl (k 1, 6, .inl (u.2.2.1 2)))]) := by
  refine MW (by decide) (Nat.le_of_ble_eq_true rfl) (fun p e s m below meth c ls A hx hb hml hr hlocks hin hts hown hKK hP hD hS hA hl => ?_)
  have hK := hKK.1
  have hl : lv_has ls 5 [(0, .ref hm), (1, .int (iZ x1))] := hl
  obtain ⟨m0, m1, m3, m4, m5, mF, mO, mS⟩ := id hM
  refine lv_iload_n hx hb dX12_centre_0 rfl (lv_at hl 1 rfl) ?_
  refine CPS (As := [.int (iZ x1)]) (rest := []) hx hb hml hown hts hKK (hP.sub (ws' := []) [] rfl) (m_isWeek l D k x1 ⟨by omega, by omega⟩) ci_X12_isWeek qm_X12_268 ⟨Nat.le_of_ble_eq_true rfl, Nat.le_of_ble_eq_true rfl⟩ ⟨Nat.le_of_ble_eq_true rfl, Nat.le_of_ble_eq_true rfl⟩ rfl hl.1 rfl (Nat.le_of_ble_eq_true rfl) dX12_centre_1 (fun z_1 hz_1 => ?_)
  rcases hz_1 with ⟨qz_1, hz_1⟩ | ⟨qz_1, hz_1⟩
  ·
    subst qz_1
    refine lv_if_ne (tgt := 13) hx hb dX12_centre_4 (by decide) (fun _ => ?_) (fun c => absurd c (by decide))
    refine lv_iconst (v := iZ (-1)) hx hb dX12_centre_13 (by decide) ?_
    refine lv_istore_n (lv' := [(2, .int (iZ (-1))), (0, .ref hm), (1, .int (iZ x1))]) hx hb dX12_centre_14 rfl hl (by decide) rfl (fun ls hl => ?_)
    refine lv_ldc (own := RX12) (v := 1000000) hx hb hown (hts _ qk_X12_88) dX12_centre_15 ?_
    refine W.eq (g2 := F0 m 17 ls [.int (iZ 1000000)]) rfl ?_
    refine lv_istore_n (lv' := [(3, .int (iZ 1000000)), (2, .int (iZ (-1))), (0, .ref hm), (1, .int (iZ x1))]) hx hb dX12_centre_17 rfl hl (by decide) rfl (fun ls hl => ?_)
    refine lv_iconst (v := iZ 0) hx hb dX12_centre_18 (by decide) ?_
    refine lv_istore (lv' := [(4, .int (iZ 0)), (3, .int (iZ 1000000)), (2, .int (iZ (-1))), (0, .ref hm), (1, .int (iZ x1))]) hx hb dX12_centre_19 hl (by decide) rfl (fun ls hl => ?_)
    have HL21 : ∀ (fu : Nat) (v3_21 : Int) (v2_21 : Int) (v4_21 : Int) (Kfq21 : Nat → Int32) (Lfq21 : Nat → Int32) (Bfq21 : Nat → Int32) (H : Heap) (locs : List Loc) (ls : Array Slot), ((gz Af 0) + 2 - v4_21) < (fu : Int) → ((0 ≤ v4_21 ∧ v4_21 ≤ (gz Af 0) + 1)) → (-1 ≤ v2_21 ∧ v2_21 < gz Af 0) → (-2147483648 ≤ v3_21 ∧ v3_21 < 2147483648) → va_P D vwCl [(hm, .inr (12, [.ref Ma, .ref Mn, .int (iZ Mst), .long Mtp, .long Mbt, .ref Ms, .ref My, .ref Mt, .ref Mp, .ref Mx, .int (iZ Mtd), .int (iZ Msz), .int (iZ Mtk), .int (iZ Mfr), .int (iZ Men), .int (iZ Mva), .int (iZ Mfk), .int (iZ Mfp), .int (iZ Mfs), .int (iZ Mse), .int (iZ Mlt), .ref Mo, .int (iZ Mdp), .int (iZ Mct), .ref Mk, .ref Ml, .ref Mb, .ref Mh, .ref Mc, .int (iZ Mdr), .int (iZ Mrs), .ref Mz, .ref Mr, .ref Mq, .int (iZ Mit), .int (iZ Mmk)])), (Ma, .inl (k 1, 5340, .inl Af)), (Mk, .inl (k 1, 6, .inl Kfq21)), (Ml, .inl (k 1, 6, .inl Lfq21)), (Mb, .inl (k 1, 6, .inl Bfq21))] H → va_D A [(hm, .inr (12, [.ref Ma, .ref Mn, .int (iZ Mst), .long Mtp, .long Mbt, .ref Ms, .ref My, .ref Mt, .ref Mp, .ref Mx, .int (iZ Mtd), .int (iZ Msz), .int (iZ Mtk), .int (iZ Mfr), .int (iZ Men), .int (iZ Mva), .int (iZ Mfk), .int (iZ Mfp), .int (iZ Mfs), .int (iZ Mse), .int (iZ Mlt), .ref Mo, .int (iZ Mdp), .int (iZ Mct), .ref Mk, .ref Ml, .ref Mb, .ref Mh, .ref Mc, .int (iZ Mdr), .int (iZ Mrs), .ref Mz, .ref Mr, .ref Mq, .int (iZ Mit), .int (iZ Mmk)])), (Ma, .inl (k 1, 5340, .inl Af)), (Mk, .inl (k 1, 6, .inl Kfq21)), (Ml, .inl (k 1, 6, .inl Lfq21)), (Mb, .inl (k 1, 6, .inl Bfq21))] → va_S A s.heap H locs → lv_has ls 5 [(4, .int (iZ v4_21)), (3, .int (iZ v3_21)), (2, .int (iZ v2_21)), (0, .ref hm), (1, .int (iZ x1))] → W p l e (rj 6 0 0) s m [.ref hm, .int (iZ x1)].toArray below meth c H locs 0 0 (MQ below (QW (σ := ((Nat → Int) × (Nat → Int64) × (Nat → Nat → Int32) × (Nat → Nat → Int64))) (fun u => some (.int (iZ (u.1 0)))) (fun _ => True) (fun u => [(hm, .inr (12, [.ref Ma, .ref Mn, .int (iZ (u.1 1)), .long Mtp, .long Mbt, .ref Ms, .ref My, .ref Mt, .ref Mp, .ref Mx, .int (iZ Mtd), .int (iZ Msz), .int (iZ Mtk), .int (iZ Mfr), .int (iZ Men), .int (iZ Mva), .int (iZ Mfk), .int (iZ Mfp), .int (iZ Mfs), .int (iZ Mse), .int (iZ Mlt), .ref Mo, .int (iZ Mdp), .int (iZ Mct), .ref Mk, .ref Ml, .ref Mb, .ref Mh, .ref Mc, .int (iZ Mdr), .int (iZ Mrs), .ref Mz, .ref Mr, .ref Mq, .int (iZ Mit), .int (iZ Mmk)])), (Ma, .inl (k 1, 5340, .inl Af)), (Mk, .inl (k 1, 6, .inl (u.2.2.1 0))), (Ml, .inl (k 1, 6, .inl (u.2.2.1 1))), (Mb, .inl (k 1, 6, .inl (u.2.2.1 2)))]) D A) [.ref hm, .int (iZ x1)].toArray s 0 0 A) (F0 m 21 ls []) := by
      intro fu
      induction fu with
      | zero => intro v3_21 v2_21 v4_21 Kfq21 Lfq21 Bfq21 H locs ls hμ21 hi21 hf0_21 hf1_21 hP hD hS hl; exact absurd hμ21 (by omega)
      | succ fu ih21 =>
        intro v3_21 v2_21 v4_21 Kfq21 Lfq21 Bfq21 H locs ls hμ21 hi21 hf0_21 hf1_21 hP hD hS hl
        refine lv_iload hx hb dX12_centre_21 (lv_at hl 0 rfl) ?_
        refine lv_aload_n hx hb dX12_centre_23 rfl (lv_at hl 3 rfl) ?_
        refine va_get (D := D) (ci := 12) (v := .ref Ma) (C := RX12) (T := TX12) (N := 36) hx hb hts iX12 hown hK hP 0 rfl rfl 0 (by decide) (hts _ qf_X12_7) (fun _ h => h) rfl dX12_centre_24 ?_
        refine lv_iconst (v := iZ 0) hx hb dX12_centre_27 (by decide) ?_
        refine va_iald hx hb hK hP 1 1 rfl rfl (zin (e := 0) (n := 5340) ⟨by omega, by omega⟩ (by decide)) dX12_centre_28 ?_
        refine lv_topi (fun x_3 ex_3 => ?_)
        obtain rfl : x_3 = iZ (gz Af 0) := ex_3.trans (gz_eq ⟨by omega, by omega⟩)
        have h_4 := gz_rg Af 0
        refine lv_icmp_ge (tgt := 74) hx hb dX12_centre_29 (by decide) (fun c_5 => ?_) (fun c_5 => ?_)
        ·
          have c_5 := (zle (x := iZ (gz Af 0)) (y := iZ v4_21) rfl rfl ⟨by omega, by omega⟩ ⟨by omega, by omega⟩).mp c_5
          refine lv_aload_n hx hb dX12_centre_74 rfl (lv_at hl 3 rfl) ?_
          refine lv_iload_n hx hb dX12_centre_75 rfl (lv_at hl 2 rfl) ?_
          refine CWV (As := [.int (iZ v2_21)]) (rest := []) (wc := [(hm, .inr (12, [.ref Ma, .ref Mn, .int (iZ Mst), .long Mtp, .long Mbt, .ref Ms, .ref My, .ref Mt, .ref Mp, .ref Mx, .int (iZ Mtd), .int (iZ Msz), .int (iZ Mtk), .int (iZ Mfr), .int (iZ Men), .int (iZ Mva), .int (iZ Mfk), .int (iZ Mfp), .int (iZ Mfs), .int (iZ Mse), .int (iZ Mlt), .ref Mo, .int (iZ Mdp), .int (iZ Mct), .ref Mk, .ref Ml, .ref Mb, .ref Mh, .ref Mc, .int (iZ Mdr), .int (iZ Mrs), .ref Mz, .ref Mr, .ref Mq, .int (iZ Mit), .int (iZ Mmk)]))]) (wr := [(Ma, .inl (k 1, 5340, .inl Af)), (Mk, .inl (k 1, 6, .inl Kfq21)), (Ml, .inl (k 1, 6, .inl Lfq21)), (Mb, .inl (k 1, 6, .inl Bfq21))]) hx hb hml hown hts hKK hP hD hS hA (m_orNone l D k hm Ma Mn Ms My Mt Mp Mx Mo Mk Ml Mb Mh Mc Mz Mr Mq Mst Mtd Msz Mtk Mfr Men Mva Mfk Mfp Mfs Mse Mlt Mdp Mct Mdr Mrs Mit Mmk Mtp Mbt v2_21 ⟨by omega, by omega⟩) ci_X12_orNone qm_X12_290 ⟨Nat.le_of_ble_eq_true rfl, Nat.le_of_ble_eq_true rfl⟩ ⟨Nat.le_of_ble_eq_true rfl, Nat.le_of_ble_eq_true rfl⟩ [0] [1, 2, 3, 4] rfl rfl rfl rfl rfl (by decide) 0 rfl rfl rfl hl.1 rfl (Nat.le_of_ble_eq_true rfl) dX12_centre_76 (fun u_6 H locs hφ hP hD hS => ?_)
          obtain ⟨I_7, L_8, F_9, G_10⟩ := u_6
          have p_12 : ((v2_21 : Int) = -1 ∧ (I_7 1) = 6) ∨ (¬ (v2_21 : Int) = -1 ∧ (I_7 1) = 0) := hφ
          refine W.eq (g2 := F0 m 79 ls [.int (iZ v2_21)]) rfl ?_
          exact EWi hx hb hr hlocks hS (fun i => [v2_21, (I_7 1)].getD i 0, fun i => [0].getD i 0, fun i => [Kfq21, Lfq21, Bfq21].getD i (fun _ => 0), fun i => [].getD i (fun _ => 0)) rfl trivial (hP.sub [4, 0, 1, 2, 3] rfl) (hD.sub [4, 0, 1, 2, 3] rfl rfl) dX12_centre_79
        ·
          have c_5 := mt (zle (x := iZ (gz Af 0)) (y := iZ v4_21) rfl rfl ⟨by omega, by omega⟩ ⟨by omega, by omega⟩).mpr c_5
          refine lv_aload_n hx hb dX12_centre_32 rfl (lv_at hl 3 rfl) ?_
          refine lv_iload hx hb dX12_centre_33 (lv_at hl 0 rfl) ?_
          refine lv_iload_n hx hb dX12_centre_35 rfl (lv_at hl 4 rfl) ?_
          refine CWV (As := [.int (iZ v4_21), .int (iZ x1)]) (rest := []) (wc := [(hm, .inr (12, [.ref Ma, .ref Mn, .int (iZ Mst), .long Mtp, .long Mbt, .ref Ms, .ref My, .ref Mt, .ref Mp, .ref Mx, .int (iZ Mtd), .int (iZ Msz), .int (iZ Mtk), .int (iZ Mfr), .int (iZ Men), .int (iZ Mva), .int (iZ Mfk), .int (iZ Mfp), .int (iZ Mfs), .int (iZ Mse), .int (iZ Mlt), .ref Mo, .int (iZ Mdp), .int (iZ Mct), .ref Mk, .ref Ml, .ref Mb, .ref Mh, .ref Mc, .int (iZ Mdr), .int (iZ Mrs), .ref Mz, .ref Mr, .ref Mq, .int (iZ Mit), .int (iZ Mmk)])), (Ma, .inl (k 1, 5340, .inl Af)), (Mk, .inl (k 1, 6, .inl Kfq21)), (Ml, .inl (k 1, 6, .inl Lfq21)), (Mb, .inl (k 1, 6, .inl Bfq21))]) (wr := []) hx hb hml hown hts hKK hP hD hS hA (m_lays l D k hm Ma Mn Ms My Mt Mp Mx Mo Mk Ml Mb Mh Mc Mz Mr Mq Mst Mtd Msz Mtk Mfr Men Mva Mfk Mfp Mfs Mse Mlt Mdp Mct Mdr Mrs Mit Mmk Mtp Mbt Af Kfq21 Lfq21 Bfq21 v4_21 x1 hM ⟨by omega, by omega⟩ ⟨by omega, by omega⟩) ci_X12_lays qm_X12_302 ⟨Nat.le_of_ble_eq_true rfl, Nat.le_of_ble_eq_true rfl⟩ ⟨Nat.le_of_ble_eq_true rfl, Nat.le_of_ble_eq_true rfl⟩ [0, 1, 2, 3, 4] [] rfl rfl rfl rfl rfl (by decide) 0 rfl rfl rfl hl.1 rfl (Nat.le_of_ble_eq_true rfl) dX12_centre_36 (fun u_13 H locs hφ hP hD hS => ?_)
          obtain ⟨I_14, L_15, F_16, G_17⟩ := u_13
          obtain ⟨p_19, p_20⟩ : (KR (F_16 0) 6) ∧ (rgI (F_16 1) (-1) 5 6) := hφ
          refine W.eq (g2 := F0 m 39 ls []) rfl ?_
          refine lv_aload_n hx hb dX12_centre_39 rfl (lv_at hl 3 rfl) ?_
          refine va_get (D := D) (ci := 12) (v := .ref Mk) (C := RX12) (T := TX12) (N := 36) hx hb hts iX12 hown hK hP 0 rfl rfl 24 (by decide) (hts _ qf_X12_47) (fun _ h => h) rfl dX12_centre_40 ?_
          refine lv_aload_n hx hb dX12_centre_43 rfl (lv_at hl 3 rfl) ?_
          refine CPV (As := []) (rest := [.ref Mk]) hx hb hml hown hts hKK (hP.sub (ws' := [(hm, .inr (12, [.ref Ma, .ref Mn, .int (iZ Mst), .long Mtp, .long Mbt, .ref Ms, .ref My, .ref Mt, .ref Mp, .ref Mx, .int (iZ Mtd), .int (iZ Msz), .int (iZ Mtk), .int (iZ Mfr), .int (iZ Men), .int (iZ Mva), .int (iZ Mfk), .int (iZ Mfp), .int (iZ Mfs), .int (iZ Mse), .int (iZ Mlt), .ref Mo, .int (iZ Mdp), .int (iZ Mct), .ref Mk, .ref Ml, .ref Mb, .ref Mh, .ref Mc, .int (iZ Mdr), .int (iZ Mrs), .ref Mz, .ref Mr, .ref Mq, .int (iZ Mit), .int (iZ Mmk)])), (Ma, .inl (k 1, 5340, .inl Af)), (Mk, .inl (k 1, 6, .inl (F_16 0)))]) [0, 1, 2] rfl) (m_lastOne l D k ([.ref Ma, .ref Mn, .int (iZ Mst), .long Mtp, .long Mbt, .ref Ms, .ref My, .ref Mt, .ref Mp, .ref Mx, .int (iZ Mtd), .int (iZ Msz), .int (iZ Mtk), .int (iZ Mfr), .int (iZ Men), .int (iZ Mva), .int (iZ Mfk), .int (iZ Mfp), .int (iZ Mfs), .int (iZ Mse), .int (iZ Mlt), .ref Mo, .int (iZ Mdp), .int (iZ Mct), .ref Mk, .ref Ml, .ref Mb, .ref Mh, .ref Mc, .int (iZ Mdr), .int (iZ Mrs), .ref Mz, .ref Mr, .ref Mq, .int (iZ Mit), .int (iZ Mmk)]) hm Ma Mk Af (F_16 0) rfl rfl hM) ci_X12_lastOne qm_X12_311 ⟨Nat.le_of_ble_eq_true rfl, Nat.le_of_ble_eq_true rfl⟩ ⟨Nat.le_of_ble_eq_true rfl, Nat.le_of_ble_eq_true rfl⟩ 0 rfl rfl rfl hl.1 rfl (Nat.le_of_ble_eq_true rfl) dX12_centre_44 (fun z_21 hz_21 => ?_)
          refine va_iald hx hb hK hP 2 1 rfl rfl (zin (e := z_21) (n := 6) ⟨by omega, by omega⟩ (by decide)) dX12_centre_47 ?_
          refine lv_topi (fun x_22 ex_22 => ?_)
          obtain rfl : x_22 = iZ (gz (F_16 0) z_21) := ex_22.trans (gz_eq ⟨by omega, by omega⟩)
          have h_23 := p_19 z_21 (by omega) (by omega)
          refine lv_iload_n hx hb dX12_centre_48 rfl (lv_at hl 1 rfl) ?_
          refine lv_icmp_lt (tgt := 55) hx hb dX12_centre_49 (by decide) (fun c_24 => ?_) (fun c_24 => ?_)
          ·
            have c_24 := (zlt (x := iZ (gz (F_16 0) z_21)) (y := iZ v3_21) rfl rfl ⟨by omega, by omega⟩ ⟨by omega, by omega⟩).mp c_24
            refine lv_aload_n hx hb dX12_centre_55 rfl (lv_at hl 3 rfl) ?_
            refine va_get (D := D) (ci := 12) (v := .ref Mk) (C := RX12) (T := TX12) (N := 36) hx hb hts iX12 hown hK hP 0 rfl rfl 24 (by decide) (hts _ qf_X12_47) (fun _ h => h) rfl dX12_centre_56 ?_
            refine lv_aload_n hx hb dX12_centre_59 rfl (lv_at hl 3 rfl) ?_
            refine CPV (As := []) (rest := [.ref Mk]) hx hb hml hown hts hKK (hP.sub (ws' := [(hm, .inr (12, [.ref Ma, .ref Mn, .int (iZ Mst), .long Mtp, .long Mbt, .ref Ms, .ref My, .ref Mt, .ref Mp, .ref Mx, .int (iZ Mtd), .int (iZ Msz), .int (iZ Mtk), .int (iZ Mfr), .int (iZ Men), .int (iZ Mva), .int (iZ Mfk), .int (iZ Mfp), .int (iZ Mfs), .int (iZ Mse), .int (iZ Mlt), .ref Mo, .int (iZ Mdp), .int (iZ Mct), .ref Mk, .ref Ml, .ref Mb, .ref Mh, .ref Mc, .int (iZ Mdr), .int (iZ Mrs), .ref Mz, .ref Mr, .ref Mq, .int (iZ Mit), .int (iZ Mmk)])), (Ma, .inl (k 1, 5340, .inl Af)), (Mk, .inl (k 1, 6, .inl (F_16 0)))]) [0, 1, 2] rfl) (m_lastOne l D k ([.ref Ma, .ref Mn, .int (iZ Mst), .long Mtp, .long Mbt, .ref Ms, .ref My, .ref Mt, .ref Mp, .ref Mx, .int (iZ Mtd), .int (iZ Msz), .int (iZ Mtk), .int (iZ Mfr), .int (iZ Men), .int (iZ Mva), .int (iZ Mfk), .int (iZ Mfp), .int (iZ Mfs), .int (iZ Mse), .int (iZ Mlt), .ref Mo, .int (iZ Mdp), .int (iZ Mct), .ref Mk, .ref Ml, .ref Mb, .ref Mh, .ref Mc, .int (iZ Mdr), .int (iZ Mrs), .ref Mz, .ref Mr, .ref Mq, .int (iZ Mit), .int (iZ Mmk)]) hm Ma Mk Af (F_16 0) rfl rfl hM) ci_X12_lastOne qm_X12_311 ⟨Nat.le_of_ble_eq_true rfl, Nat.le_of_ble_eq_true rfl⟩ ⟨Nat.le_of_ble_eq_true rfl, Nat.le_of_ble_eq_true rfl⟩ 0 rfl rfl rfl hl.1 rfl (Nat.le_of_ble_eq_true rfl) dX12_centre_60 (fun z_25 hz_25 => ?_)
            refine va_iald hx hb hK hP 2 1 rfl rfl (zin (e := z_25) (n := 6) ⟨by omega, by omega⟩ (by decide)) dX12_centre_63 ?_
            refine lv_topi (fun x_26 ex_26 => ?_)
            obtain rfl : x_26 = iZ (gz (F_16 0) z_25) := ex_26.trans (gz_eq ⟨by omega, by omega⟩)
            have h_27 := p_19 z_25 (by omega) (by omega)
            refine lv_istore_n (lv' := [(3, .int (iZ (gz (F_16 0) z_25))), (4, .int (iZ v4_21)), (2, .int (iZ v2_21)), (0, .ref hm), (1, .int (iZ x1))]) hx hb dX12_centre_64 rfl hl (by decide) rfl (fun ls hl => ?_)
            refine lv_iload hx hb dX12_centre_65 (lv_at hl 1 rfl) ?_
            refine lv_istore_n (lv' := [(2, .int (iZ v4_21)), (3, .int (iZ (gz (F_16 0) z_25))), (4, .int (iZ v4_21)), (0, .ref hm), (1, .int (iZ x1))]) hx hb dX12_centre_67 rfl hl (by decide) rfl (fun ls hl => ?_)
            refine lv_iinc (v := iZ (v4_21 + 1)) (lv' := [(4, .int (iZ (v4_21 + 1))), (2, .int (iZ v4_21)), (3, .int (iZ (gz (F_16 0) z_25))), (0, .ref hm), (1, .int (iZ x1))]) hx hb dX12_centre_68 hl (k := 2) rfl (iZ_add v4_21 1) (by decide) rfl (fun ls hl => ?_)
            refine lv_goto (tgt := 21) hx hb dX12_centre_71 (by decide) ?_
            exact ih21  (gz (F_16 0) z_25) v4_21 (v4_21 + 1) (F_16 0) (F_16 1) (F_16 2) _ _ _ (by omega) (show (0 ≤ (v4_21 + 1) ∧ (v4_21 + 1) ≤ (gz Af 0) + 1) from ⟨by omega, by omega⟩) (show -1 ≤ v4_21 ∧ v4_21 < gz Af 0 from (by omega)) (show -2147483648 ≤ (gz (F_16 0) z_25) ∧ (gz (F_16 0) z_25) < 2147483648 from (by omega)) (hP.sub [0, 1, 2, 3, 4] rfl) (hD.sub [0, 1, 2, 3, 4] rfl rfl) hS (lv_sub hl [0, 2, 1, 3, 4] rfl)
          ·
            have c_24 := mt (zlt (x := iZ (gz (F_16 0) z_21)) (y := iZ v3_21) rfl rfl ⟨by omega, by omega⟩ ⟨by omega, by omega⟩).mpr c_24
            refine lv_goto (tgt := 68) hx hb dX12_centre_52 (by decide) ?_
            refine lv_iinc (v := iZ (v4_21 + 1)) (lv' := [(4, .int (iZ (v4_21 + 1))), (3, .int (iZ v3_21)), (2, .int (iZ v2_21)), (0, .ref hm), (1, .int (iZ x1))]) hx hb dX12_centre_68 hl (k := 0) rfl (iZ_add v4_21 1) (by decide) rfl (fun ls hl => ?_)
            refine lv_goto (tgt := 21) hx hb dX12_centre_71 (by decide) ?_
            exact ih21  v3_21 v2_21 (v4_21 + 1) (F_16 0) (F_16 1) (F_16 2) _ _ _ (by omega) (show (0 ≤ (v4_21 + 1) ∧ (v4_21 + 1) ≤ (gz Af 0) + 1) from ⟨by omega, by omega⟩) (show -1 ≤ v2_21 ∧ v2_21 < gz Af 0 from (by omega)) (show -2147483648 ≤ v3_21 ∧ v3_21 < 2147483648 from (by omega)) (hP.sub [0, 1, 2, 3, 4] rfl) (hD.sub [0, 1, 2, 3, 4] rfl rfl) hS (lv_sub hl [0, 1, 2, 3, 4] rfl)
    exact HL21 10 1000000 (-1) 0 Kf Lf Bf _ _ _ (by omega) (show (0 ≤ 0 ∧ 0 ≤ (gz Af 0) + 1) from ⟨by omega, by omega⟩) (show -1 ≤ (-1) ∧ (-1) < gz Af 0 from (by omega)) (show -2147483648 ≤ 1000000 ∧ 1000000 < 2147483648 from (by omega)) (hP.sub [0, 1, 2, 3, 4] rfl) (hD.sub [0, 1, 2, 3, 4] rfl rfl) hS (lv_sub hl [0, 1, 2, 3, 4] rfl)
  ·
    subst qz_1
    refine lv_if_ne (tgt := 13) hx hb dX12_centre_4 (by decide) (fun c => absurd (by decide) c) (fun _ => ?_)
    refine lv_aload_n hx hb dX12_centre_7 rfl (lv_at hl 0 rfl) ?_
    refine lv_iconst (v := iZ 1) hx hb dX12_centre_8 (by decide) ?_
    refine CWV (As := [.int (iZ 1)]) (rest := []) (wc := [(hm, .inr (12, [.ref Ma, .ref Mn, .int (iZ Mst), .long Mtp, .long Mbt, .ref Ms, .ref My, .ref Mt, .ref Mp, .ref Mx, .int (iZ Mtd), .int (iZ Msz), .int (iZ Mtk), .int (iZ Mfr), .int (iZ Men), .int (iZ Mva), .int (iZ Mfk), .int (iZ Mfp), .int (iZ Mfs), .int (iZ Mse), .int (iZ Mlt), .ref Mo, .int (iZ Mdp), .int (iZ Mct), .ref Mk, .ref Ml, .ref Mb, .ref Mh, .ref Mc, .int (iZ Mdr), .int (iZ Mrs), .ref Mz, .ref Mr, .ref Mq, .int (iZ Mit), .int (iZ Mmk)]))]) (wr := [(Ma, .inl (k 1, 5340, .inl Af)), (Mk, .inl (k 1, 6, .inl Kf)), (Ml, .inl (k 1, 6, .inl Lf)), (Mb, .inl (k 1, 6, .inl Bf))]) hx hb hml hown hts hKK hP hD hS hA (m_refuse l D k hm Ma Mn Ms My Mt Mp Mx Mo Mk Ml Mb Mh Mc Mz Mr Mq Mst Mtd Msz Mtk Mfr Men Mva Mfk Mfp Mfs Mse Mlt Mdp Mct Mdr Mrs Mit Mmk Mtp Mbt 1) ci_X12_refuse qm_X12_81 ⟨Nat.le_of_ble_eq_true rfl, Nat.le_of_ble_eq_true rfl⟩ ⟨Nat.le_of_ble_eq_true rfl, Nat.le_of_ble_eq_true rfl⟩ [0] [1, 2, 3, 4] rfl rfl rfl rfl rfl (by decide) 0 rfl rfl rfl hl.1 rfl (Nat.le_of_ble_eq_true rfl) dX12_centre_9 (fun u_29 H locs hφ hP hD hS => ?_)
    obtain ⟨I_30, L_31, F_32, G_33⟩ := u_29
    refine W.eq (g2 := F0 m 12 ls [.int (iZ (-1))]) rfl ?_
    exact EWi hx hb hr hlocks hS (fun i => [(-1), 1].getD i 0, fun i => [0].getD i 0, fun i => [Kf, Lf, Bf].getD i (fun _ => 0), fun i => [].getD i (fun _ => 0)) rfl trivial (hP.sub [4, 0, 1, 2, 3] rfl) (hD.sub [4, 0, 1, 2, 3] rfl rfl) dX12_centre_12
set_option maxHeartbeats 4000000 in
set_option maxRecDepth 100000 in
theorem q_cutOff (l : Launch) (D : va_G) (k : Nat → ClassId) (hm : Nat) (Ma : Nat) (Mn : Nat) (Ms : Nat) (My : Nat) (Mt : Nat) (Mp : Nat) (Mx : Nat) (Mo : Nat) (Mk : Nat) (Ml : Nat) (Mb : Nat) (Mh : Nat) (Mc : Nat) (Mz : Nat) (Mr : Nat) (Mq : Nat) (Mst : Int) (Mtd : Int) (Msz : Int) (Mtk : Int) (Mfr : Int) (Men : Int) (Mva : Int) (Mfk : Int) (Mfp : Int) (Mfs : Int) (Mse : Int) (Mlt : Int) (Mdp : Int) (Mct : Int) (Mdr : Int) (Mrs : Int) (Mit : Int) (Mmk : Int) (Mtp : Int64) (Mbt : Int64) (Af : Nat → Int32) (Kf : Nat → Int32) (Lf : Nat → Int32) (Bf : Nat → Int32) (x1 : Int) (x2 : Int) (hM : M0 Af) (h9x1 : -2147483648 ≤ x1 ∧ x1 < 2147483648) (h9x2 : -2147483648 ≤ x2 ∧ x2 < 2147483648) : WD (σ := ((Nat → Int) × (Nat → Int64) × (Nat → Nat → Int32) × (Nat → Nat → Int64))) l yX12_cutOff cX12_cutOff 3 (some .int) 6 0 0 D k [.ref hm, .int (iZ x1), .int (iZ x2)] [(hm, .inr (12, [.ref Ma, .ref Mn, .int (iZ Mst), .long Mtp, .long Mbt, .ref Ms, .ref My, .ref Mt, .ref Mp, .ref Mx, .int (iZ Mtd), .int (iZ Msz), .int (iZ Mtk), .int (iZ Mfr), .int (iZ Men), .int (iZ Mva), .int (iZ Mfk), .int (iZ Mfp), .int (iZ Mfs), .int (iZ Mse), .int (iZ Mlt), .ref Mo, .int (iZ Mdp), .int (iZ Mct), .ref Mk, .ref Ml, .ref Mb, .ref Mh, .ref Mc, .int (iZ Mdr), .int (iZ Mrs), .ref Mz, .ref Mr, .ref Mq, .int (iZ Mit), .int (iZ Mmk)])), (Ma, .inl (k 1, 5340, .inl Af)), (Mk, .inl (k 1, 6, .inl Kf)), (Ml, .inl (k 1, 6, .inl Lf)), (Mb, .inl (k 1, 6, .inl Bf))] (fun u => some (.int (iZ (u.1 0)))) (fun _ => True) (fun u => [(hm, .inr (12, [.ref Ma, .ref Mn, .int (iZ (u.1 1)), .long Mtp, .long Mbt, .ref Ms, .ref My, .ref Mt, .ref Mp, .ref Mx, .int (iZ Mtd), .int (iZ Msz), .int (iZ Mtk), .int (iZ Mfr), .int (iZ Men), .int (iZ Mva), .int (iZ Mfk), .int (iZ Mfp), .int (iZ Mfs), .int (iZ Mse), .int (iZ Mlt), .ref Mo, .int (iZ Mdp), .int (iZ Mct), .ref Mk, .ref Ml, .ref Mb, .ref Mh, .ref Mc, .int (iZ Mdr), .int (iZ Mrs), .ref Mz, .ref Mr, .ref Mq, .int (iZ Mit), .int (iZ Mmk)])), (Ma, .inl (k 1, 5340, .inl Af)), (Mk, .inl (k 1, 6, .inl (u.2.2.1 0))), (Ml, .inl (k 1, 6, .inl (u.2.2.1 1))), (Mb, .inl (k 1, 6, .inl (u.2.2.1 2)))]) := by
  refine MW (by decide) (Nat.le_of_ble_eq_true rfl) (fun p e s m below meth c ls A hx hb hml hr hlocks hin hts hown hKK hP hD hS hA hl => ?_)
  have hK := hKK.1
  have hl : lv_has ls 3 [(0, .ref hm), (1, .int (iZ x1)), (2, .int (iZ x2))] := hl
  obtain ⟨m0, m1, m3, m4, m5, mF, mO, mS⟩ := id hM
  refine lv_aload_n hx hb dX12_cutOff_0 rfl (lv_at hl 0 rfl) ?_
  refine lv_iload_n hx hb dX12_cutOff_1 rfl (lv_at hl 1 rfl) ?_
  refine lv_iload_n hx hb dX12_cutOff_2 rfl (lv_at hl 2 rfl) ?_
  refine CPV (As := [.int (iZ x1), .int (iZ x2)]) (rest := []) hx hb hml hown hts hKK (hP.sub (ws' := [(hm, .inr (12, [.ref Ma, .ref Mn, .int (iZ Mst), .long Mtp, .long Mbt, .ref Ms, .ref My, .ref Mt, .ref Mp, .ref Mx, .int (iZ Mtd), .int (iZ Msz), .int (iZ Mtk), .int (iZ Mfr), .int (iZ Men), .int (iZ Mva), .int (iZ Mfk), .int (iZ Mfp), .int (iZ Mfs), .int (iZ Mse), .int (iZ Mlt), .ref Mo, .int (iZ Mdp), .int (iZ Mct), .ref Mk, .ref Ml, .ref Mb, .ref Mh, .ref Mc, .int (iZ Mdr), .int (iZ Mrs), .ref Mz, .ref Mr, .ref Mq, .int (iZ Mit), .int (iZ Mmk)])), (Ma, .inl (k 1, 5340, .inl Af))]) [0, 1] rfl) (m_isNews l D k ([.ref Ma, .ref Mn, .int (iZ Mst), .long Mtp, .long Mbt, .ref Ms, .ref My, .ref Mt, .ref Mp, .ref Mx, .int (iZ Mtd), .int (iZ Msz), .int (iZ Mtk), .int (iZ Mfr), .int (iZ Men), .int (iZ Mva), .int (iZ Mfk), .int (iZ Mfp), .int (iZ Mfs), .int (iZ Mse), .int (iZ Mlt), .ref Mo, .int (iZ Mdp), .int (iZ Mct), .ref Mk, .ref Ml, .ref Mb, .ref Mh, .ref Mc, .int (iZ Mdr), .int (iZ Mrs), .ref Mz, .ref Mr, .ref Mq, .int (iZ Mit), .int (iZ Mmk)]) hm Ma Af x1 x2 rfl hM ⟨by omega, by omega⟩ ⟨by omega, by omega⟩) ci_X12_isNews qm_X12_299 ⟨Nat.le_of_ble_eq_true rfl, Nat.le_of_ble_eq_true rfl⟩ ⟨Nat.le_of_ble_eq_true rfl, Nat.le_of_ble_eq_true rfl⟩ 0 rfl rfl rfl hl.1 rfl (Nat.le_of_ble_eq_true rfl) dX12_cutOff_3 (fun z_1 hz_1 => ?_)
  rcases hz_1 with ⟨qz_1, hz_1⟩ | ⟨qz_1, hz_1⟩
  ·
    subst qz_1
    refine lv_if_ne (tgt := 15) hx hb dX12_cutOff_6 (by decide) (fun _ => ?_) (fun c => absurd c (by decide))
    refine lv_aload_n hx hb dX12_cutOff_15 rfl (lv_at hl 0 rfl) ?_
    refine lv_iload_n hx hb dX12_cutOff_16 rfl (lv_at hl 1 rfl) ?_
    refine lv_iload_n hx hb dX12_cutOff_17 rfl (lv_at hl 2 rfl) ?_
    refine CWV (As := [.int (iZ x1), .int (iZ x2)]) (rest := []) (wc := [(hm, .inr (12, [.ref Ma, .ref Mn, .int (iZ Mst), .long Mtp, .long Mbt, .ref Ms, .ref My, .ref Mt, .ref Mp, .ref Mx, .int (iZ Mtd), .int (iZ Msz), .int (iZ Mtk), .int (iZ Mfr), .int (iZ Men), .int (iZ Mva), .int (iZ Mfk), .int (iZ Mfp), .int (iZ Mfs), .int (iZ Mse), .int (iZ Mlt), .ref Mo, .int (iZ Mdp), .int (iZ Mct), .ref Mk, .ref Ml, .ref Mb, .ref Mh, .ref Mc, .int (iZ Mdr), .int (iZ Mrs), .ref Mz, .ref Mr, .ref Mq, .int (iZ Mit), .int (iZ Mmk)])), (Ma, .inl (k 1, 5340, .inl Af)), (Mk, .inl (k 1, 6, .inl Kf)), (Ml, .inl (k 1, 6, .inl Lf)), (Mb, .inl (k 1, 6, .inl Bf))]) (wr := []) hx hb hml hown hts hKK hP hD hS hA (m_lays l D k hm Ma Mn Ms My Mt Mp Mx Mo Mk Ml Mb Mh Mc Mz Mr Mq Mst Mtd Msz Mtk Mfr Men Mva Mfk Mfp Mfs Mse Mlt Mdp Mct Mdr Mrs Mit Mmk Mtp Mbt Af Kf Lf Bf x1 x2 hM ⟨by omega, by omega⟩ ⟨by omega, by omega⟩) ci_X12_lays qm_X12_302 ⟨Nat.le_of_ble_eq_true rfl, Nat.le_of_ble_eq_true rfl⟩ ⟨Nat.le_of_ble_eq_true rfl, Nat.le_of_ble_eq_true rfl⟩ [0, 1, 2, 3, 4] [] rfl rfl rfl rfl rfl (by decide) 0 rfl rfl rfl hl.1 rfl (Nat.le_of_ble_eq_true rfl) dX12_cutOff_18 (fun u_3 H locs hφ hP hD hS => ?_)
    obtain ⟨I_4, L_5, F_6, G_7⟩ := u_3
    obtain ⟨p_9, p_10⟩ : (KR (F_6 0) 6) ∧ (rgI (F_6 1) (-1) 5 6) := hφ
    refine W.eq (g2 := F0 m 21 ls []) rfl ?_
    refine lv_aload_n hx hb dX12_cutOff_21 rfl (lv_at hl 0 rfl) ?_
    refine lv_iconst (v := iZ 1) hx hb dX12_cutOff_22 (by decide) ?_
    refine lv_aload_n hx hb dX12_cutOff_23 rfl (lv_at hl 0 rfl) ?_
    refine va_get (D := D) (ci := 12) (v := .ref Ma) (C := RX12) (T := TX12) (N := 36) hx hb hts iX12 hown hK hP 0 rfl rfl 0 (by decide) (hts _ qf_X12_7) (fun _ h => h) rfl dX12_cutOff_24 ?_
    refine lv_iconst (v := iZ 0) hx hb dX12_cutOff_27 (by decide) ?_
    refine va_iald hx hb hK hP 1 1 rfl rfl (zin (e := 0) (n := 5340) ⟨by omega, by omega⟩ (by decide)) dX12_cutOff_28 ?_
    refine lv_topi (fun x_11 ex_11 => ?_)
    obtain rfl : x_11 = iZ (gz Af 0) := ex_11.trans (gz_eq ⟨by omega, by omega⟩)
    have h_12 := gz_rg Af 0
    refine lv_ishl hx hb dX12_cutOff_29 ?_
    refine lv_topi (fun x_14 ex_14 => ?_)
    obtain ⟨z_13, hz_13, hz_13a, hz_13b⟩ := i32_z x_14
    subst hz_13
    refine lv_iconst (v := iZ 1) hx hb dX12_cutOff_30 (by decide) ?_
    refine lv_isub hx hb dX12_cutOff_31 ?_
    refine lv_topi (fun x_16 ex_16 => ?_)
    obtain ⟨z_15, hz_15, hz_15a, hz_15b⟩ := i32_z x_16
    subst hz_15
    refine lv_aload_n hx hb dX12_cutOff_32 rfl (lv_at hl 0 rfl) ?_
    refine lv_ldcw (own := RX12) (v := 999999) hx hb hown (hts _ qk_X12_314) dX12_cutOff_33 ?_
    refine W.eq (g2 := F0 m 36 ls [.int (iZ 999999), .ref hm, .int (iZ z_15), .ref hm]) rfl ?_
    refine CPV (As := [.int (iZ 999999)]) (rest := [.int (iZ z_15), .ref hm]) hx hb hml hown hts hKK (hP.sub (ws' := [(hm, .inr (12, [.ref Ma, .ref Mn, .int (iZ Mst), .long Mtp, .long Mbt, .ref Ms, .ref My, .ref Mt, .ref Mp, .ref Mx, .int (iZ Mtd), .int (iZ Msz), .int (iZ Mtk), .int (iZ Mfr), .int (iZ Men), .int (iZ Mva), .int (iZ Mfk), .int (iZ Mfp), .int (iZ Mfs), .int (iZ Mse), .int (iZ Mlt), .ref Mo, .int (iZ Mdp), .int (iZ Mct), .ref Mk, .ref Ml, .ref Mb, .ref Mh, .ref Mc, .int (iZ Mdr), .int (iZ Mrs), .ref Mz, .ref Mr, .ref Mq, .int (iZ Mit), .int (iZ Mmk)])), (Ma, .inl (k 1, 5340, .inl Af)), (Mk, .inl (k 1, 6, .inl (F_6 0)))]) [0, 1, 2] rfl) (m_setBy l D k ([.ref Ma, .ref Mn, .int (iZ Mst), .long Mtp, .long Mbt, .ref Ms, .ref My, .ref Mt, .ref Mp, .ref Mx, .int (iZ Mtd), .int (iZ Msz), .int (iZ Mtk), .int (iZ Mfr), .int (iZ Men), .int (iZ Mva), .int (iZ Mfk), .int (iZ Mfp), .int (iZ Mfs), .int (iZ Mse), .int (iZ Mlt), .ref Mo, .int (iZ Mdp), .int (iZ Mct), .ref Mk, .ref Ml, .ref Mb, .ref Mh, .ref Mc, .int (iZ Mdr), .int (iZ Mrs), .ref Mz, .ref Mr, .ref Mq, .int (iZ Mit), .int (iZ Mmk)]) hm Ma Mk Af (F_6 0) 999999 rfl rfl hM ⟨by omega, by omega⟩) ci_X12_setBy qm_X12_306 ⟨Nat.le_of_ble_eq_true rfl, Nat.le_of_ble_eq_true rfl⟩ ⟨Nat.le_of_ble_eq_true rfl, Nat.le_of_ble_eq_true rfl⟩ 0 rfl rfl rfl hl.1 rfl (Nat.le_of_ble_eq_true rfl) dX12_cutOff_36 (fun z_17 hz_17 => ?_)
    refine lv_iconst (v := iZ (-1)) hx hb dX12_cutOff_39 (by decide) ?_
    refine lv_ixor hx hb dX12_cutOff_40 ?_
    refine lv_topi (fun x_19 ex_19 => ?_)
    obtain ⟨z_18, hz_18, hz_18a, hz_18b⟩ := i32_z x_19
    subst hz_18
    refine lv_iand hx hb dX12_cutOff_41 ?_
    refine lv_topi (fun x_21 ex_21 => ?_)
    obtain ⟨z_20, hz_20, hz_20a, hz_20b⟩ := i32_z x_21
    subst hz_20
    refine CWV (As := [.int (iZ z_20)]) (rest := []) (wc := [(hm, .inr (12, [.ref Ma, .ref Mn, .int (iZ Mst), .long Mtp, .long Mbt, .ref Ms, .ref My, .ref Mt, .ref Mp, .ref Mx, .int (iZ Mtd), .int (iZ Msz), .int (iZ Mtk), .int (iZ Mfr), .int (iZ Men), .int (iZ Mva), .int (iZ Mfk), .int (iZ Mfp), .int (iZ Mfs), .int (iZ Mse), .int (iZ Mlt), .ref Mo, .int (iZ Mdp), .int (iZ Mct), .ref Mk, .ref Ml, .ref Mb, .ref Mh, .ref Mc, .int (iZ Mdr), .int (iZ Mrs), .ref Mz, .ref Mr, .ref Mq, .int (iZ Mit), .int (iZ Mmk)]))]) (wr := [(Ma, .inl (k 1, 5340, .inl Af)), (Mk, .inl (k 1, 6, .inl (F_6 0))), (Ml, .inl (k 1, 6, .inl (F_6 1))), (Mb, .inl (k 1, 6, .inl (F_6 2)))]) hx hb hml hown hts hKK hP hD hS hA (m_gives l D k hm Ma Mn Ms My Mt Mp Mx Mo Mk Ml Mb Mh Mc Mz Mr Mq Mst Mtd Msz Mtk Mfr Men Mva Mfk Mfp Mfs Mse Mlt Mdp Mct Mdr Mrs Mit Mmk Mtp Mbt z_20) ci_X12_gives qm_X12_85 ⟨Nat.le_of_ble_eq_true rfl, Nat.le_of_ble_eq_true rfl⟩ ⟨Nat.le_of_ble_eq_true rfl, Nat.le_of_ble_eq_true rfl⟩ [0] [1, 2, 3, 4] rfl rfl rfl rfl rfl (by decide) 0 rfl rfl rfl hl.1 rfl (Nat.le_of_ble_eq_true rfl) dX12_cutOff_42 (fun u_22 H locs hφ hP hD hS => ?_)
    obtain ⟨I_23, L_24, F_25, G_26⟩ := u_22
    refine W.eq (g2 := F0 m 45 ls [.int (iZ z_20)]) rfl ?_
    exact EWi hx hb hr hlocks hS (fun i => [z_20, 0].getD i 0, fun i => [0].getD i 0, fun i => [(F_6 0), (F_6 1), (F_6 2)].getD i (fun _ => 0), fun i => [].getD i (fun _ => 0)) rfl trivial (hP.sub [4, 0, 1, 2, 3] rfl) (hD.sub [4, 0, 1, 2, 3] rfl rfl) dX12_cutOff_45
  ·
    subst qz_1
    refine lv_if_ne (tgt := 15) hx hb dX12_cutOff_6 (by decide) (fun c => absurd (by decide) c) (fun _ => ?_)
    refine lv_aload_n hx hb dX12_cutOff_9 rfl (lv_at hl 0 rfl) ?_
    refine lv_iconst (v := iZ 1) hx hb dX12_cutOff_10 (by decide) ?_
    refine CWV (As := [.int (iZ 1)]) (rest := []) (wc := [(hm, .inr (12, [.ref Ma, .ref Mn, .int (iZ Mst), .long Mtp, .long Mbt, .ref Ms, .ref My, .ref Mt, .ref Mp, .ref Mx, .int (iZ Mtd), .int (iZ Msz), .int (iZ Mtk), .int (iZ Mfr), .int (iZ Men), .int (iZ Mva), .int (iZ Mfk), .int (iZ Mfp), .int (iZ Mfs), .int (iZ Mse), .int (iZ Mlt), .ref Mo, .int (iZ Mdp), .int (iZ Mct), .ref Mk, .ref Ml, .ref Mb, .ref Mh, .ref Mc, .int (iZ Mdr), .int (iZ Mrs), .ref Mz, .ref Mr, .ref Mq, .int (iZ Mit), .int (iZ Mmk)]))]) (wr := [(Ma, .inl (k 1, 5340, .inl Af)), (Mk, .inl (k 1, 6, .inl Kf)), (Ml, .inl (k 1, 6, .inl Lf)), (Mb, .inl (k 1, 6, .inl Bf))]) hx hb hml hown hts hKK hP hD hS hA (m_refuse l D k hm Ma Mn Ms My Mt Mp Mx Mo Mk Ml Mb Mh Mc Mz Mr Mq Mst Mtd Msz Mtk Mfr Men Mva Mfk Mfp Mfs Mse Mlt Mdp Mct Mdr Mrs Mit Mmk Mtp Mbt 1) ci_X12_refuse qm_X12_81 ⟨Nat.le_of_ble_eq_true rfl, Nat.le_of_ble_eq_true rfl⟩ ⟨Nat.le_of_ble_eq_true rfl, Nat.le_of_ble_eq_true rfl⟩ [0] [1, 2, 3, 4] rfl rfl rfl rfl rfl (by decide) 0 rfl rfl rfl hl.1 rfl (Nat.le_of_ble_eq_true rfl) dX12_cutOff_11 (fun u_29 H locs hφ hP hD hS => ?_)
    obtain ⟨I_30, L_31, F_32, G_33⟩ := u_29
    refine W.eq (g2 := F0 m 14 ls [.int (iZ (-1))]) rfl ?_
    exact EWi hx hb hr hlocks hS (fun i => [(-1), 1].getD i 0, fun i => [0].getD i 0, fun i => [Kf, Lf, Bf].getD i (fun _ => 0), fun i => [].getD i (fun _ => 0)) rfl trivial (hP.sub [4, 0, 1, 2, 3] rfl) (hD.sub [4, 0, 1, 2, 3] rfl rfl) dX12_cutOff_14
set_option maxHeartbeats 4000000 in
set_option maxRecDepth 100000 in
theorem q_hearsBack (l : Launch) (D : va_G) (k : Nat → ClassId) (hm : Nat) (Ma : Nat) (Mn : Nat) (Ms : Nat) (My : Nat) (Mt : Nat) (Mp : Nat) (Mx : Nat) (Mo : Nat) (Mk : Nat) (Ml : Nat) (Mb : Nat) (Mh : Nat) (Mc : Nat) (Mz : Nat) (Mr : Nat) (Mq : Nat) (Mst : Int) (Mtd : Int) (Msz : Int) (Mtk : Int) (Mfr : Int) (Men : Int) (Mva : Int) (Mfk : Int) (Mfp : Int) (Mfs : Int) (Mse : Int) (Mlt : Int) (Mdp : Int) (Mct : Int) (Mdr : Int) (Mrs : Int) (Mit : Int) (Mmk : Int) (Mtp : Int64) (Mbt : Int64) (Af : Nat → Int32) (Kf : Nat → Int32) (Lf : Nat → Int32) (Bf : Nat → Int32) (x1 : Int) (x2 : Int) (hM : M0 Af) (h9x1 : -2147483648 ≤ x1 ∧ x1 < 2147483648) (h9x2 : -2147483648 ≤ x2 ∧ x2 < 2147483648) : WD (σ := ((Nat → Int) × (Nat → Int64) × (Nat → Nat → Int32) × (Nat → Nat → Int64))) l yX12_hearsBack cX12_hearsBack 5 (some .int) 6 0 0 D k [.ref hm, .int (iZ x1), .int (iZ x2)] [(hm, .inr (12, [.ref Ma, .ref Mn, .int (iZ Mst), .long Mtp, .long Mbt, .ref Ms, .ref My, .ref Mt, .ref Mp, .ref Mx, .int (iZ Mtd), .int (iZ Msz), .int (iZ Mtk), .int (iZ Mfr), .int (iZ Men), .int (iZ Mva), .int (iZ Mfk), .int (iZ Mfp), .int (iZ Mfs), .int (iZ Mse), .int (iZ Mlt), .ref Mo, .int (iZ Mdp), .int (iZ Mct), .ref Mk, .ref Ml, .ref Mb, .ref Mh, .ref Mc, .int (iZ Mdr), .int (iZ Mrs), .ref Mz, .ref Mr, .ref Mq, .int (iZ Mit), .int (iZ Mmk)])), (Ma, .inl (k 1, 5340, .inl Af)), (Mk, .inl (k 1, 6, .inl Kf)), (Ml, .inl (k 1, 6, .inl Lf)), (Mb, .inl (k 1, 6, .inl Bf))] (fun u => some (.int (iZ (u.1 0)))) (fun _ => True) (fun u => [(hm, .inr (12, [.ref Ma, .ref Mn, .int (iZ (u.1 1)), .long Mtp, .long Mbt, .ref Ms, .ref My, .ref Mt, .ref Mp, .ref Mx, .int (iZ Mtd), .int (iZ Msz), .int (iZ Mtk), .int (iZ Mfr), .int (iZ Men), .int (iZ Mva), .int (iZ Mfk), .int (iZ Mfp), .int (iZ Mfs), .int (iZ Mse), .int (iZ Mlt), .ref Mo, .int (iZ Mdp), .int (iZ Mct), .ref Mk, .ref Ml, .ref Mb, .ref Mh, .ref Mc, .int (iZ Mdr), .int (iZ Mrs), .ref Mz, .ref Mr, .ref Mq, .int (iZ Mit), .int (iZ Mmk)])), (Ma, .inl (k 1, 5340, .inl Af)), (Mk, .inl (k 1, 6, .inl (u.2.2.1 0))), (Ml, .inl (k 1, 6, .inl (u.2.2.1 1))), (Mb, .inl (k 1, 6, .inl (u.2.2.1 2)))]) := by
  refine MW (by decide) (Nat.le_of_ble_eq_true rfl) (fun p e s m below meth c ls A hx hb hml hr hlocks hin hts hown hKK hP hD hS hA hl => ?_)
  have hK := hKK.1
  have hl : lv_has ls 5 [(0, .ref hm), (1, .int (iZ x1)), (2, .int (iZ x2))] := hl
  obtain ⟨m0, m1, m3, m4, m5, mF, mO, mS⟩ := id hM
  refine lv_aload_n hx hb dX12_hearsBack_0 rfl (lv_at hl 0 rfl) ?_
  refine lv_iload_n hx hb dX12_hearsBack_1 rfl (lv_at hl 1 rfl) ?_
  refine lv_iload_n hx hb dX12_hearsBack_2 rfl (lv_at hl 2 rfl) ?_
  refine CPV (As := [.int (iZ x1), .int (iZ x2)]) (rest := []) hx hb hml hown hts hKK (hP.sub (ws' := [(hm, .inr (12, [.ref Ma, .ref Mn, .int (iZ Mst), .long Mtp, .long Mbt, .ref Ms, .ref My, .ref Mt, .ref Mp, .ref Mx, .int (iZ Mtd), .int (iZ Msz), .int (iZ Mtk), .int (iZ Mfr), .int (iZ Men), .int (iZ Mva), .int (iZ Mfk), .int (iZ Mfp), .int (iZ Mfs), .int (iZ Mse), .int (iZ Mlt), .ref Mo, .int (iZ Mdp), .int (iZ Mct), .ref Mk, .ref Ml, .ref Mb, .ref Mh, .ref Mc, .int (iZ Mdr), .int (iZ Mrs), .ref Mz, .ref Mr, .ref Mq, .int (iZ Mit), .int (iZ Mmk)])), (Ma, .inl (k 1, 5340, .inl Af))]) [0, 1] rfl) (m_isNews l D k ([.ref Ma, .ref Mn, .int (iZ Mst), .long Mtp, .long Mbt, .ref Ms, .ref My, .ref Mt, .ref Mp, .ref Mx, .int (iZ Mtd), .int (iZ Msz), .int (iZ Mtk), .int (iZ Mfr), .int (iZ Men), .int (iZ Mva), .int (iZ Mfk), .int (iZ Mfp), .int (iZ Mfs), .int (iZ Mse), .int (iZ Mlt), .ref Mo, .int (iZ Mdp), .int (iZ Mct), .ref Mk, .ref Ml, .ref Mb, .ref Mh, .ref Mc, .int (iZ Mdr), .int (iZ Mrs), .ref Mz, .ref Mr, .ref Mq, .int (iZ Mit), .int (iZ Mmk)]) hm Ma Af x1 x2 rfl hM ⟨by omega, by omega⟩ ⟨by omega, by omega⟩) ci_X12_isNews qm_X12_299 ⟨Nat.le_of_ble_eq_true rfl, Nat.le_of_ble_eq_true rfl⟩ ⟨Nat.le_of_ble_eq_true rfl, Nat.le_of_ble_eq_true rfl⟩ 0 rfl rfl rfl hl.1 rfl (Nat.le_of_ble_eq_true rfl) dX12_hearsBack_3 (fun z_1 hz_1 => ?_)
  rcases hz_1 with ⟨qz_1, hz_1⟩ | ⟨qz_1, hz_1⟩
  ·
    subst qz_1
    refine lv_if_ne (tgt := 15) hx hb dX12_hearsBack_6 (by decide) (fun _ => ?_) (fun c => absurd c (by decide))
    refine lv_aload_n hx hb dX12_hearsBack_15 rfl (lv_at hl 0 rfl) ?_
    refine lv_iload_n hx hb dX12_hearsBack_16 rfl (lv_at hl 1 rfl) ?_
    refine lv_iload_n hx hb dX12_hearsBack_17 rfl (lv_at hl 2 rfl) ?_
    refine CWV (As := [.int (iZ x1), .int (iZ x2)]) (rest := []) (wc := [(hm, .inr (12, [.ref Ma, .ref Mn, .int (iZ Mst), .long Mtp, .long Mbt, .ref Ms, .ref My, .ref Mt, .ref Mp, .ref Mx, .int (iZ Mtd), .int (iZ Msz), .int (iZ Mtk), .int (iZ Mfr), .int (iZ Men), .int (iZ Mva), .int (iZ Mfk), .int (iZ Mfp), .int (iZ Mfs), .int (iZ Mse), .int (iZ Mlt), .ref Mo, .int (iZ Mdp), .int (iZ Mct), .ref Mk, .ref Ml, .ref Mb, .ref Mh, .ref Mc, .int (iZ Mdr), .int (iZ Mrs), .ref Mz, .ref Mr, .ref Mq, .int (iZ Mit), .int (iZ Mmk)])), (Ma, .inl (k 1, 5340, .inl Af)), (Mk, .inl (k 1, 6, .inl Kf)), (Ml, .inl (k 1, 6, .inl Lf)), (Mb, .inl (k 1, 6, .inl Bf))]) (wr := []) hx hb hml hown hts hKK hP hD hS hA (m_lays l D k hm Ma Mn Ms My Mt Mp Mx Mo Mk Ml Mb Mh Mc Mz Mr Mq Mst Mtd Msz Mtk Mfr Men Mva Mfk Mfp Mfs Mse Mlt Mdp Mct Mdr Mrs Mit Mmk Mtp Mbt Af Kf Lf Bf x1 x2 hM ⟨by omega, by omega⟩ ⟨by omega, by omega⟩) ci_X12_lays qm_X12_302 ⟨Nat.le_of_ble_eq_true rfl, Nat.le_of_ble_eq_true rfl⟩ ⟨Nat.le_of_ble_eq_true rfl, Nat.le_of_ble_eq_true rfl⟩ [0, 1, 2, 3, 4] [] rfl rfl rfl rfl rfl (by decide) 0 rfl rfl rfl hl.1 rfl (Nat.le_of_ble_eq_true rfl) dX12_hearsBack_18 (fun u_3 H locs hφ hP hD hS => ?_)
    obtain ⟨I_4, L_5, F_6, G_7⟩ := u_3
    obtain ⟨p_9, p_10⟩ : (KR (F_6 0) 6) ∧ (rgI (F_6 1) (-1) 5 6) := hφ
    refine W.eq (g2 := F0 m 21 ls []) rfl ?_
    refine lv_ldc (own := RX12) (v := 1000000) hx hb hown (hts _ qk_X12_88) dX12_hearsBack_21 ?_
    refine W.eq (g2 := F0 m 23 ls [.int (iZ 1000000)]) rfl ?_
    refine lv_istore_n (lv' := [(3, .int (iZ 1000000)), (0, .ref hm), (1, .int (iZ x1)), (2, .int (iZ x2))]) hx hb dX12_hearsBack_23 rfl hl (by decide) rfl (fun ls hl => ?_)
    refine lv_iconst (v := iZ 0) hx hb dX12_hearsBack_24 (by decide) ?_
    refine lv_istore (lv' := [(4, .int (iZ 0)), (3, .int (iZ 1000000)), (0, .ref hm), (1, .int (iZ x1)), (2, .int (iZ x2))]) hx hb dX12_hearsBack_25 hl (by decide) rfl (fun ls hl => ?_)
    have HL27 : ∀ (fu : Nat) (v3_27 : Int) (v4_27 : Int) (H : Heap) (locs : List Loc) (ls : Array Slot), ((gz Af 0) + 2 - v4_27) < (fu : Int) → ((0 ≤ v4_27 ∧ v4_27 ≤ (gz Af 0) + 1)) → (0 ≤ v3_27 ∧ v3_27 ≤ 1000000) → va_P D vwCl [(hm, .inr (12, [.ref Ma, .ref Mn, .int (iZ Mst), .long Mtp, .long Mbt, .ref Ms, .ref My, .ref Mt, .ref Mp, .ref Mx, .int (iZ Mtd), .int (iZ Msz), .int (iZ Mtk), .int (iZ Mfr), .int (iZ Men), .int (iZ Mva), .int (iZ Mfk), .int (iZ Mfp), .int (iZ Mfs), .int (iZ Mse), .int (iZ Mlt), .ref Mo, .int (iZ Mdp), .int (iZ Mct), .ref Mk, .ref Ml, .ref Mb, .ref Mh, .ref Mc, .int (iZ Mdr), .int (iZ Mrs), .ref Mz, .ref Mr, .ref Mq, .int (iZ Mit), .int (iZ Mmk)])), (Ma, .inl (k 1, 5340, .inl Af)), (Mk, .inl (k 1, 6, .inl (F_6 0))), (Ml, .inl (k 1, 6, .inl (F_6 1))), (Mb, .inl (k 1, 6, .inl (F_6 2)))] H → va_D A [(hm, .inr (12, [.ref Ma, .ref Mn, .int (iZ Mst), .long Mtp, .long Mbt, .ref Ms, .ref My, .ref Mt, .ref Mp, .ref Mx, .int (iZ Mtd), .int (iZ Msz), .int (iZ Mtk), .int (iZ Mfr), .int (iZ Men), .int (iZ Mva), .int (iZ Mfk), .int (iZ Mfp), .int (iZ Mfs), .int (iZ Mse), .int (iZ Mlt), .ref Mo, .int (iZ Mdp), .int (iZ Mct), .ref Mk, .ref Ml, .ref Mb, .ref Mh, .ref Mc, .int (iZ Mdr), .int (iZ Mrs), .ref Mz, .ref Mr, .ref Mq, .int (iZ Mit), .int (iZ Mmk)])), (Ma, .inl (k 1, 5340, .inl Af)), (Mk, .inl (k 1, 6, .inl (F_6 0))), (Ml, .inl (k 1, 6, .inl (F_6 1))), (Mb, .inl (k 1, 6, .inl (F_6 2)))] → va_S A s.heap H locs → lv_has ls 5 [(4, .int (iZ v4_27)), (3, .int (iZ v3_27)), (0, .ref hm), (1, .int (iZ x1)), (2, .int (iZ x2))] → W p l e (rj 6 0 0) s m [.ref hm, .int (iZ x1), .int (iZ x2)].toArray below meth c H locs 0 0 (MQ below (QW (σ := ((Nat → Int) × (Nat → Int64) × (Nat → Nat → Int32) × (Nat → Nat → Int64))) (fun u => some (.int (iZ (u.1 0)))) (fun _ => True) (fun u => [(hm, .inr (12, [.ref Ma, .ref Mn, .int (iZ (u.1 1)), .long Mtp, .long Mbt, .ref Ms, .ref My, .ref Mt, .ref Mp, .ref Mx, .int (iZ Mtd), .int (iZ Msz), .int (iZ Mtk), .int (iZ Mfr), .int (iZ Men), .int (iZ Mva), .int (iZ Mfk), .int (iZ Mfp), .int (iZ Mfs), .int (iZ Mse), .int (iZ Mlt), .ref Mo, .int (iZ Mdp), .int (iZ Mct), .ref Mk, .ref Ml, .ref Mb, .ref Mh, .ref Mc, .int (iZ Mdr), .int (iZ Mrs), .ref Mz, .ref Mr, .ref Mq, .int (iZ Mit), .int (iZ Mmk)])), (Ma, .inl (k 1, 5340, .inl Af)), (Mk, .inl (k 1, 6, .inl (u.2.2.1 0))), (Ml, .inl (k 1, 6, .inl (u.2.2.1 1))), (Mb, .inl (k 1, 6, .inl (u.2.2.1 2)))]) D A) [.ref hm, .int (iZ x1), .int (iZ x2)].toArray s 0 0 A) (F0 m 27 ls []) := by
      intro fu
      induction fu with
      | zero => intro v3_27 v4_27 H locs ls hμ27 hi27 hf0_27 hP hD hS hl; exact absurd hμ27 (by omega)
      | succ fu ih27 =>
        intro v3_27 v4_27 H locs ls hμ27 hi27 hf0_27 hP hD hS hl
        refine lv_iload hx hb dX12_hearsBack_27 (lv_at hl 0 rfl) ?_
        refine lv_aload_n hx hb dX12_hearsBack_29 rfl (lv_at hl 2 rfl) ?_
        refine va_get (D := D) (ci := 12) (v := .ref Ma) (C := RX12) (T := TX12) (N := 36) hx hb hts iX12 hown hK hP 0 rfl rfl 0 (by decide) (hts _ qf_X12_7) (fun _ h => h) rfl dX12_hearsBack_30 ?_
        refine lv_iconst (v := iZ 0) hx hb dX12_hearsBack_33 (by decide) ?_
        refine va_iald hx hb hK hP 1 1 rfl rfl (zin (e := 0) (n := 5340) ⟨by omega, by omega⟩ (by decide)) dX12_hearsBack_34 ?_
        refine lv_topi (fun x_11 ex_11 => ?_)
        obtain rfl : x_11 = iZ (gz Af 0) := ex_11.trans (gz_eq ⟨by omega, by omega⟩)
        have h_12 := gz_rg Af 0
        refine lv_icmp_ge (tgt := 69) hx hb dX12_hearsBack_35 (by decide) (fun c_13 => ?_) (fun c_13 => ?_)
        ·
          have c_13 := (zle (x := iZ (gz Af 0)) (y := iZ v4_27) rfl rfl ⟨by omega, by omega⟩ ⟨by omega, by omega⟩).mp c_13
          refine lv_aload_n hx hb dX12_hearsBack_69 rfl (lv_at hl 2 rfl) ?_
          refine lv_iload_n hx hb dX12_hearsBack_70 rfl (lv_at hl 1 rfl) ?_
          refine CWV (As := [.int (iZ v3_27)]) (rest := []) (wc := [(hm, .inr (12, [.ref Ma, .ref Mn, .int (iZ Mst), .long Mtp, .long Mbt, .ref Ms, .ref My, .ref Mt, .ref Mp, .ref Mx, .int (iZ Mtd), .int (iZ Msz), .int (iZ Mtk), .int (iZ Mfr), .int (iZ Men), .int (iZ Mva), .int (iZ Mfk), .int (iZ Mfp), .int (iZ Mfs), .int (iZ Mse), .int (iZ Mlt), .ref Mo, .int (iZ Mdp), .int (iZ Mct), .ref Mk, .ref Ml, .ref Mb, .ref Mh, .ref Mc, .int (iZ Mdr), .int (iZ Mrs), .ref Mz, .ref Mr, .ref Mq, .int (iZ Mit), .int (iZ Mmk)]))]) (wr := [(Ma, .inl (k 1, 5340, .inl Af)), (Mk, .inl (k 1, 6, .inl (F_6 0))), (Ml, .inl (k 1, 6, .inl (F_6 1))), (Mb, .inl (k 1, 6, .inl (F_6 2)))]) hx hb hml hown hts hKK hP hD hS hA (m_orNever l D k hm Ma Mn Ms My Mt Mp Mx Mo Mk Ml Mb Mh Mc Mz Mr Mq Mst Mtd Msz Mtk Mfr Men Mva Mfk Mfp Mfs Mse Mlt Mdp Mct Mdr Mrs Mit Mmk Mtp Mbt v3_27 ⟨by omega, by omega⟩) ci_X12_orNever qm_X12_284 ⟨Nat.le_of_ble_eq_true rfl, Nat.le_of_ble_eq_true rfl⟩ ⟨Nat.le_of_ble_eq_true rfl, Nat.le_of_ble_eq_true rfl⟩ [0] [1, 2, 3, 4] rfl rfl rfl rfl rfl (by decide) 0 rfl rfl rfl hl.1 rfl (Nat.le_of_ble_eq_true rfl) dX12_hearsBack_71 (fun u_14 H locs hφ hP hD hS => ?_)
          obtain ⟨I_15, L_16, F_17, G_18⟩ := u_14
          have p_20 : ((v3_27 : Int) ≥ 1000000 ∧ (I_15 0) = -1 ∧ (I_15 1) = 6) ∨ ((v3_27 : Int) < 1000000 ∧ (I_15 0) = v3_27 ∧ (I_15 1) = 0) := hφ
          refine W.eq (g2 := F0 m 74 ls [.int (iZ (I_15 0))]) rfl ?_
          exact EWi hx hb hr hlocks hS (fun i => [(I_15 0), (I_15 1)].getD i 0, fun i => [0].getD i 0, fun i => [(F_6 0), (F_6 1), (F_6 2)].getD i (fun _ => 0), fun i => [].getD i (fun _ => 0)) rfl trivial (hP.sub [4, 0, 1, 2, 3] rfl) (hD.sub [4, 0, 1, 2, 3] rfl rfl) dX12_hearsBack_74
        ·
          have c_13 := mt (zle (x := iZ (gz Af 0)) (y := iZ v4_27) rfl rfl ⟨by omega, by omega⟩ ⟨by omega, by omega⟩).mpr c_13
          refine lv_iload hx hb dX12_hearsBack_38 (lv_at hl 0 rfl) ?_
          refine lv_iload_n hx hb dX12_hearsBack_40 rfl (lv_at hl 3 rfl) ?_
          refine lv_icmp_eq (tgt := 63) hx hb dX12_hearsBack_41 (by decide) (fun c_21 => ?_) (fun c_21 => ?_)
          ·
            have c_21 := (zeq (x := iZ v4_27) (y := iZ x1) rfl rfl ⟨by omega, by omega⟩ ⟨by omega, by omega⟩).mp c_21
            refine lv_iinc (v := iZ (v4_27 + 1)) (lv' := [(4, .int (iZ (v4_27 + 1))), (3, .int (iZ v3_27)), (0, .ref hm), (1, .int (iZ x1)), (2, .int (iZ x2))]) hx hb dX12_hearsBack_63 hl (k := 0) rfl (iZ_add v4_27 1) (by decide) rfl (fun ls hl => ?_)
            refine lv_goto (tgt := 27) hx hb dX12_hearsBack_66 (by decide) ?_
            exact ih27  v3_27 (v4_27 + 1) _ _ _ (by omega) (show (0 ≤ (v4_27 + 1) ∧ (v4_27 + 1) ≤ (gz Af 0) + 1) from ⟨by omega, by omega⟩) (show 0 ≤ v3_27 ∧ v3_27 ≤ 1000000 from (by omega)) (hP.sub [0, 1, 2, 3, 4] rfl) (hD.sub [0, 1, 2, 3, 4] rfl rfl) hS (lv_sub hl [0, 1, 2, 3, 4] rfl)
          ·
            have c_21 := mt (zeq (x := iZ v4_27) (y := iZ x1) rfl rfl ⟨by omega, by omega⟩ ⟨by omega, by omega⟩).mpr c_21
            refine lv_iload_n hx hb dX12_hearsBack_44 rfl (lv_at hl 1 rfl) ?_
            refine lv_aload_n hx hb dX12_hearsBack_45 rfl (lv_at hl 2 rfl) ?_
            refine lv_iload hx hb dX12_hearsBack_46 (lv_at hl 0 rfl) ?_
            refine lv_aload_n hx hb dX12_hearsBack_48 rfl (lv_at hl 2 rfl) ?_
            refine va_get (D := D) (ci := 12) (v := .ref Mk) (C := RX12) (T := TX12) (N := 36) hx hb hts iX12 hown hK hP 0 rfl rfl 24 (by decide) (hts _ qf_X12_47) (fun _ h => h) rfl dX12_hearsBack_49 ?_
            refine lv_iload hx hb dX12_hearsBack_52 (lv_at hl 0 rfl) ?_
            refine va_iald hx hb hK hP 2 1 rfl rfl (zin (e := v4_27) (n := 6) ⟨by omega, by omega⟩ (by decide)) dX12_hearsBack_54 ?_
            refine lv_topi (fun x_22 ex_22 => ?_)
            obtain rfl : x_22 = iZ (gz (F_6 0) v4_27) := ex_22.trans (gz_eq ⟨by omega, by omega⟩)
            have h_23 := p_9 v4_27 (by omega) (by omega)
            refine lv_iload_n hx hb dX12_hearsBack_55 rfl (lv_at hl 3 rfl) ?_
            refine CPV (As := [.int (iZ v4_27), .int (iZ (gz (F_6 0) v4_27)), .int (iZ x1)]) (rest := [.int (iZ v3_27)]) hx hb hml hown hts hKK (hP.sub (ws' := [(hm, .inr (12, [.ref Ma, .ref Mn, .int (iZ Mst), .long Mtp, .long Mbt, .ref Ms, .ref My, .ref Mt, .ref Mp, .ref Mx, .int (iZ Mtd), .int (iZ Msz), .int (iZ Mtk), .int (iZ Mfr), .int (iZ Men), .int (iZ Mva), .int (iZ Mfk), .int (iZ Mfp), .int (iZ Mfs), .int (iZ Mse), .int (iZ Mlt), .ref Mo, .int (iZ Mdp), .int (iZ Mct), .ref Mk, .ref Ml, .ref Mb, .ref Mh, .ref Mc, .int (iZ Mdr), .int (iZ Mrs), .ref Mz, .ref Mr, .ref Mq, .int (iZ Mit), .int (iZ Mmk)])), (Ma, .inl (k 1, 5340, .inl Af))]) [0, 1] rfl) (m_arrival l D k ([.ref Ma, .ref Mn, .int (iZ Mst), .long Mtp, .long Mbt, .ref Ms, .ref My, .ref Mt, .ref Mp, .ref Mx, .int (iZ Mtd), .int (iZ Msz), .int (iZ Mtk), .int (iZ Mfr), .int (iZ Men), .int (iZ Mva), .int (iZ Mfk), .int (iZ Mfp), .int (iZ Mfs), .int (iZ Mse), .int (iZ Mlt), .ref Mo, .int (iZ Mdp), .int (iZ Mct), .ref Mk, .ref Ml, .ref Mb, .ref Mh, .ref Mc, .int (iZ Mdr), .int (iZ Mrs), .ref Mz, .ref Mr, .ref Mq, .int (iZ Mit), .int (iZ Mmk)]) hm Ma Af v4_27 (gz (F_6 0) v4_27) x1 rfl hM ⟨by omega, by omega⟩ ⟨by omega, by omega⟩ ⟨by omega, by omega⟩) ci_X12_arrival qm_X12_280 ⟨Nat.le_of_ble_eq_true rfl, Nat.le_of_ble_eq_true rfl⟩ ⟨Nat.le_of_ble_eq_true rfl, Nat.le_of_ble_eq_true rfl⟩ 0 rfl rfl rfl hl.1 rfl (Nat.le_of_ble_eq_true rfl) dX12_hearsBack_56 (fun z_24 hz_24 => ?_)
            obtain ⟨ez_24, az_24⟩ := hz_24
            refine va_mmin (rest := []) hx hb (by rw [hml]; exact hl.1.symm) (own := RX12) hown (hts _ qm_X12_137) (hts _ qt_yJ9_min_7cf53) (hts _ qz_J9) (hts _ qc_J9_min_7cf53) (Nat.le_of_ble_eq_true rfl) (Nat.le_of_ble_eq_true rfl) (Nat.le_of_ble_eq_true rfl) (Nat.le_of_ble_eq_true rfl) dX12_hearsBack_59 ?_
            refine lv_topi (fun x_25 ex_25 => ?_)
            obtain rfl : x_25 = iZ (min v3_27 z_24) := ex_25.trans (zmin ⟨by omega, by omega⟩ ⟨by omega, by omega⟩)
            refine lv_istore_n (lv' := [(3, .int (iZ (min v3_27 z_24))), (4, .int (iZ v4_27)), (0, .ref hm), (1, .int (iZ x1)), (2, .int (iZ x2))]) hx hb dX12_hearsBack_62 rfl hl (by decide) rfl (fun ls hl => ?_)
            refine lv_iinc (v := iZ (v4_27 + 1)) (lv' := [(4, .int (iZ (v4_27 + 1))), (3, .int (iZ (min v3_27 z_24))), (0, .ref hm), (1, .int (iZ x1)), (2, .int (iZ x2))]) hx hb dX12_hearsBack_63 hl (k := 1) rfl (iZ_add v4_27 1) (by decide) rfl (fun ls hl => ?_)
            refine lv_goto (tgt := 27) hx hb dX12_hearsBack_66 (by decide) ?_
            exact ih27  (min v3_27 z_24) (v4_27 + 1) _ _ _ (by omega) (show (0 ≤ (v4_27 + 1) ∧ (v4_27 + 1) ≤ (gz Af 0) + 1) from ⟨by omega, by omega⟩) (show 0 ≤ (min v3_27 z_24) ∧ (min v3_27 z_24) ≤ 1000000 from (by omega)) (hP.sub [0, 1, 2, 3, 4] rfl) (hD.sub [0, 1, 2, 3, 4] rfl rfl) hS (lv_sub hl [0, 1, 2, 3, 4] rfl)
    exact HL27 10 1000000 0 _ _ _ (by omega) (show (0 ≤ 0 ∧ 0 ≤ (gz Af 0) + 1) from ⟨by omega, by omega⟩) (show 0 ≤ 1000000 ∧ 1000000 ≤ 1000000 from (by omega)) (hP.sub [0, 1, 2, 3, 4] rfl) (hD.sub [0, 1, 2, 3, 4] rfl rfl) hS (lv_sub hl [0, 1, 2, 3, 4] rfl)
  ·
    subst qz_1
    refine lv_if_ne (tgt := 15) hx hb dX12_hearsBack_6 (by decide) (fun c => absurd (by decide) c) (fun _ => ?_)
    refine lv_aload_n hx hb dX12_hearsBack_9 rfl (lv_at hl 0 rfl) ?_
    refine lv_iconst (v := iZ 1) hx hb dX12_hearsBack_10 (by decide) ?_
    refine CWV (As := [.int (iZ 1)]) (rest := []) (wc := [(hm, .inr (12, [.ref Ma, .ref Mn, .int (iZ Mst), .long Mtp, .long Mbt, .ref Ms, .ref My, .ref Mt, .ref Mp, .ref Mx, .int (iZ Mtd), .int (iZ Msz), .int (iZ Mtk), .int (iZ Mfr), .int (iZ Men), .int (iZ Mva), .int (iZ Mfk), .int (iZ Mfp), .int (iZ Mfs), .int (iZ Mse), .int (iZ Mlt), .ref Mo, .int (iZ Mdp), .int (iZ Mct), .ref Mk, .ref Ml, .ref Mb, .ref Mh, .ref Mc, .int (iZ Mdr), .int (iZ Mrs), .ref Mz, .ref Mr, .ref Mq, .int (iZ Mit), .int (iZ Mmk)]))]) (wr := [(Ma, .inl (k 1, 5340, .inl Af)), (Mk, .inl (k 1, 6, .inl Kf)), (Ml, .inl (k 1, 6, .inl Lf)), (Mb, .inl (k 1, 6, .inl Bf))]) hx hb hml hown hts hKK hP hD hS hA (m_refuse l D k hm Ma Mn Ms My Mt Mp Mx Mo Mk Ml Mb Mh Mc Mz Mr Mq Mst Mtd Msz Mtk Mfr Men Mva Mfk Mfp Mfs Mse Mlt Mdp Mct Mdr Mrs Mit Mmk Mtp Mbt 1) ci_X12_refuse qm_X12_81 ⟨Nat.le_of_ble_eq_true rfl, Nat.le_of_ble_eq_true rfl⟩ ⟨Nat.le_of_ble_eq_true rfl, Nat.le_of_ble_eq_true rfl⟩ [0] [1, 2, 3, 4] rfl rfl rfl rfl rfl (by decide) 0 rfl rfl rfl hl.1 rfl (Nat.le_of_ble_eq_true rfl) dX12_hearsBack_11 (fun u_27 H locs hφ hP hD hS => ?_)
    obtain ⟨I_28, L_29, F_30, G_31⟩ := u_27
    refine W.eq (g2 := F0 m 14 ls [.int (iZ (-1))]) rfl ?_
    exact EWi hx hb hr hlocks hS (fun i => [(-1), 1].getD i 0, fun i => [0].getD i 0, fun i => [Kf, Lf, Bf].getD i (fun _ => 0), fun i => [].getD i (fun _ => 0)) rfl trivial (hP.sub [4, 0, 1, 2, 3] rfl) (hD.sub [4, 0, 1, 2, 3] rfl rfl) dX12_hearsBack_14
set_option maxHeartbeats 4000000 in
set_option maxRecDepth 100000 in
theorem q_remote (l : Launch) (D : va_G) (k : Nat → ClassId) (hm : Nat) (Ma : Nat) (Mn : Nat) (Ms : Nat) (My : Nat) (Mt : Nat) (Mp : Nat) (Mx : Nat) (Mo : Nat) (Mk : Nat) (Ml : Nat) (Mb : Nat) (Mh : Nat) (Mc : Nat) (Mz : Nat) (Mr : Nat) (Mq : Nat) (Mst : Int) (Mtd : Int) (Msz : Int) (Mtk : Int) (Mfr : Int) (Men : Int) (Mva : Int) (Mfk : Int) (Mfp : Int) (Mfs : Int) (Mse : Int) (Mlt : Int) (Mdp : Int) (Mct : Int) (Mdr : Int) (Mrs : Int) (Mit : Int) (Mmk : Int) (Mtp : Int64) (Mbt : Int64) (Af : Nat → Int32) (Kf : Nat → Int32) (Lf : Nat → Int32) (Bf : Nat → Int32) (x1 : Int) (hM : M0 Af) (h9x1 : -2147483648 ≤ x1 ∧ x1 < 2147483648) : WD (σ := ((Nat → Int) × (Nat → Int64) × (Nat → Nat → Int32) × (Nat → Nat → Int64))) l yX12_remote cX12_remote 7 (some .int) 6 0 0 D k [.ref hm, .int (iZ x1)] [(hm, .inr (12, [.ref Ma, .ref Mn, .int (iZ Mst), .long Mtp, .long Mbt, .ref Ms, .ref My, .ref Mt, .ref Mp, .ref Mx, .int (iZ Mtd), .int (iZ Msz), .int (iZ Mtk), .int (iZ Mfr), .int (iZ Men), .int (iZ Mva), .int (iZ Mfk), .int (iZ Mfp), .int (iZ Mfs), .int (iZ Mse), .int (iZ Mlt), .ref Mo, .int (iZ Mdp), .int (iZ Mct), .ref Mk, .ref Ml, .ref Mb, .ref Mh, .ref Mc, .int (iZ Mdr), .int (iZ Mrs), .ref Mz, .ref Mr, .ref Mq, .int (iZ Mit), .int (iZ Mmk)])), (Ma, .inl (k 1, 5340, .inl Af)), (Mk, .inl (k 1, 6, .inl Kf)), (Ml, .inl (k 1, 6, .inl Lf)), (Mb, .inl (k 1, 6, .inl Bf))] (fun u => some (.int (iZ (u.1 0)))) (fun _ => True) (fun u => [(hm, .inr (12, [.ref Ma, .ref Mn, .int (iZ (u.1 1)), .long Mtp, .long Mbt, .ref Ms, .ref My, .ref Mt, .ref Mp, .ref Mx, .int (iZ Mtd), .int (iZ Msz), .int (iZ Mtk), .int (iZ Mfr), .int (iZ Men), .int (iZ Mva), .int (iZ Mfk), .int (iZ Mfp), .int (iZ Mfs), .int (iZ Mse), .int (iZ Mlt), .ref Mo, .int (iZ Mdp), .int (iZ Mct), .ref Mk, .ref Ml, .ref Mb, .ref Mh, .ref Mc, .int (iZ Mdr), .int (iZ Mrs), .ref Mz, .ref Mr, .ref Mq, .int (iZ Mit), .int (iZ Mmk)])), (Ma, .inl (k 1, 5340, .inl Af)), (Mk, .inl (k 1, 6, .inl (u.2.2.1 0))), (Ml, .inl (k 1, 6, .inl (u.2.2.1 1))), (Mb, .inl (k 1, 6, .inl (u.2.2.1 2)))]) := by
  refine MW (by decide) (Nat.le_of_ble_eq_true rfl) (fun p e s m below meth c ls A hx hb hml hr hlocks hin hts hown hKK hP hD hS hA hl => ?_)
  have hK := hKK.1
  have hl : lv_has ls 7 [(0, .ref hm), (1, .int (iZ x1))] := hl
  obtain ⟨m0, m1, m3, m4, m5, mF, mO, mS⟩ := id hM
  refine lv_iload_n hx hb dX12_remote_0 rfl (lv_at hl 1 rfl) ?_
  refine CPS (As := [.int (iZ x1)]) (rest := []) hx hb hml hown hts hKK (hP.sub (ws' := []) [] rfl) (m_isWeek l D k x1 ⟨by omega, by omega⟩) ci_X12_isWeek qm_X12_268 ⟨Nat.le_of_ble_eq_true rfl, Nat.le_of_ble_eq_true rfl⟩ ⟨Nat.le_of_ble_eq_true rfl, Nat.le_of_ble_eq_true rfl⟩ rfl hl.1 rfl (Nat.le_of_ble_eq_true rfl) dX12_remote_1 (fun z_1 hz_1 => ?_)
  rcases hz_1 with ⟨qz_1, hz_1⟩ | ⟨qz_1, hz_1⟩
  ·
    subst qz_1
    refine lv_if_ne (tgt := 13) hx hb dX12_remote_4 (by decide) (fun _ => ?_) (fun c => absurd c (by decide))
    refine lv_iconst (v := iZ (-1)) hx hb dX12_remote_13 (by decide) ?_
    refine lv_istore_n (lv' := [(2, .int (iZ (-1))), (0, .ref hm), (1, .int (iZ x1))]) hx hb dX12_remote_14 rfl hl (by decide) rfl (fun ls hl => ?_)
    refine lv_iconst (v := iZ (-1)) hx hb dX12_remote_15 (by decide) ?_
    refine lv_istore_n (lv' := [(3, .int (iZ (-1))), (2, .int (iZ (-1))), (0, .ref hm), (1, .int (iZ x1))]) hx hb dX12_remote_16 rfl hl (by decide) rfl (fun ls hl => ?_)
    refine lv_iconst (v := iZ 0) hx hb dX12_remote_17 (by decide) ?_
    refine lv_istore (lv' := [(4, .int (iZ 0)), (3, .int (iZ (-1))), (2, .int (iZ (-1))), (0, .ref hm), (1, .int (iZ x1))]) hx hb dX12_remote_18 hl (by decide) rfl (fun ls hl => ?_)
    have HL20 : ∀ (fu : Nat) (v3_20 : Int) (v2_20 : Int) (v4_20 : Int) (Kfq20 : Nat → Int32) (Lfq20 : Nat → Int32) (Bfq20 : Nat → Int32) (H : Heap) (locs : List Loc) (ls : Array Slot), ((gz Af 0) + 2 - v4_20) < (fu : Int) → ((0 ≤ v4_20 ∧ v4_20 ≤ (gz Af 0) + 1)) → (-1 ≤ v2_20 ∧ v2_20 < gz Af 0) → (-1 ≤ v3_20 ∧ v3_20 ≤ 700000) → va_P D vwCl [(hm, .inr (12, [.ref Ma, .ref Mn, .int (iZ Mst), .long Mtp, .long Mbt, .ref Ms, .ref My, .ref Mt, .ref Mp, .ref Mx, .int (iZ Mtd), .int (iZ Msz), .int (iZ Mtk), .int (iZ Mfr), .int (iZ Men), .int (iZ Mva), .int (iZ Mfk), .int (iZ Mfp), .int (iZ Mfs), .int (iZ Mse), .int (iZ Mlt), .ref Mo, .int (iZ Mdp), .int (iZ Mct), .ref Mk, .ref Ml, .ref Mb, .ref Mh, .ref Mc, .int (iZ Mdr), .int (iZ Mrs), .ref Mz, .ref Mr, .ref Mq, .int (iZ Mit), .int (iZ Mmk)])), (Ma, .inl (k 1, 5340, .inl Af)), (Mk, .inl (k 1, 6, .inl Kfq20)), (Ml, .inl (k 1, 6, .inl Lfq20)), (Mb, .inl (k 1, 6, .inl Bfq20))] H → va_D A [(hm, .inr (12, [.ref Ma, .ref Mn, .int (iZ Mst), .long Mtp, .long Mbt, .ref Ms, .ref My, .ref Mt, .ref Mp, .ref Mx, .int (iZ Mtd), .int (iZ Msz), .int (iZ Mtk), .int (iZ Mfr), .int (iZ Men), .int (iZ Mva), .int (iZ Mfk), .int (iZ Mfp), .int (iZ Mfs), .int (iZ Mse), .int (iZ Mlt), .ref Mo, .int (iZ Mdp), .int (iZ Mct), .ref Mk, .ref Ml, .ref Mb, .ref Mh, .ref Mc, .int (iZ Mdr), .int (iZ Mrs), .ref Mz, .ref Mr, .ref Mq, .int (iZ Mit), .int (iZ Mmk)])), (Ma, .inl (k 1, 5340, .inl Af)), (Mk, .inl (k 1, 6, .inl Kfq20)), (Ml, .inl (k 1, 6, .inl Lfq20)), (Mb, .inl (k 1, 6, .inl Bfq20))] → va_S A s.heap H locs → lv_has ls 7 [(4, .int (iZ v4_20)), (3, .int (iZ v3_20)), (2, .int (iZ v2_20)), (0, .ref hm), (1, .int (iZ x1))] → W p l e (rj 6 0 0) s m [.ref hm, .int (iZ x1)].toArray below meth c H locs 0 0 (MQ below (QW (σ := ((Nat → Int) × (Nat → Int64) × (Nat → Nat → Int32) × (Nat → Nat → Int64))) (fun u => some (.int (iZ (u.1 0)))) (fun _ => True) (fun u => [(hm, .inr (12, [.ref Ma, .ref Mn, .int (iZ (u.1 1)), .long Mtp, .long Mbt, .ref Ms, .ref My, .ref Mt, .ref Mp, .ref Mx, .int (iZ Mtd), .int (iZ Msz), .int (iZ Mtk), .int (iZ Mfr), .int (iZ Men), .int (iZ Mva), .int (iZ Mfk), .int (iZ Mfp), .int (iZ Mfs), .int (iZ Mse), .int (iZ Mlt), .ref Mo, .int (iZ Mdp), .int (iZ Mct), .ref Mk, .ref Ml, .ref Mb, .ref Mh, .ref Mc, .int (iZ Mdr), .int (iZ Mrs), .ref Mz, .ref Mr, .ref Mq, .int (iZ Mit), .int (iZ Mmk)])), (Ma, .inl (k 1, 5340, .inl Af)), (Mk, .inl (k 1, 6, .inl (u.2.2.1 0))), (Ml, .inl (k 1, 6, .inl (u.2.2.1 1))), (Mb, .inl (k 1, 6, .inl (u.2.2.1 2)))]) D A) [.ref hm, .int (iZ x1)].toArray s 0 0 A) (F0 m 20 ls []) := by
      intro fu
      induction fu with
      | zero => intro v3_20 v2_20 v4_20 Kfq20 Lfq20 Bfq20 H locs ls hμ20 hi20 hf0_20 hf1_20 hP hD hS hl; exact absurd hμ20 (by omega)
      | succ fu ih20 =>
        intro v3_20 v2_20 v4_20 Kfq20 Lfq20 Bfq20 H locs ls hμ20 hi20 hf0_20 hf1_20 hP hD hS hl
        refine lv_iload hx hb dX12_remote_20 (lv_at hl 0 rfl) ?_
        refine lv_aload_n hx hb dX12_remote_22 rfl (lv_at hl 3 rfl) ?_
        refine va_get (D := D) (ci := 12) (v := .ref Ma) (C := RX12) (T := TX12) (N := 36) hx hb hts iX12 hown hK hP 0 rfl rfl 0 (by decide) (hts _ qf_X12_7) (fun _ h => h) rfl dX12_remote_23 ?_
        refine lv_iconst (v := iZ 0) hx hb dX12_remote_26 (by decide) ?_
        refine va_iald hx hb hK hP 1 1 rfl rfl (zin (e := 0) (n := 5340) ⟨by omega, by omega⟩ (by decide)) dX12_remote_27 ?_
        refine lv_topi (fun x_3 ex_3 => ?_)
        obtain rfl : x_3 = iZ (gz Af 0) := ex_3.trans (gz_eq ⟨by omega, by omega⟩)
        have h_4 := gz_rg Af 0
        refine lv_icmp_ge (tgt := 111) hx hb dX12_remote_28 (by decide) (fun c_5 => ?_) (fun c_5 => ?_)
        ·
          have c_5 := (zle (x := iZ (gz Af 0)) (y := iZ v4_20) rfl rfl ⟨by omega, by omega⟩ ⟨by omega, by omega⟩).mp c_5
          refine lv_aload_n hx hb dX12_remote_111 rfl (lv_at hl 3 rfl) ?_
          refine lv_iload_n hx hb dX12_remote_112 rfl (lv_at hl 2 rfl) ?_
          refine CWV (As := [.int (iZ v2_20)]) (rest := []) (wc := [(hm, .inr (12, [.ref Ma, .ref Mn, .int (iZ Mst), .long Mtp, .long Mbt, .ref Ms, .ref My, .ref Mt, .ref Mp, .ref Mx, .int (iZ Mtd), .int (iZ Msz), .int (iZ Mtk), .int (iZ Mfr), .int (iZ Men), .int (iZ Mva), .int (iZ Mfk), .int (iZ Mfp), .int (iZ Mfs), .int (iZ Mse), .int (iZ Mlt), .ref Mo, .int (iZ Mdp), .int (iZ Mct), .ref Mk, .ref Ml, .ref Mb, .ref Mh, .ref Mc, .int (iZ Mdr), .int (iZ Mrs), .ref Mz, .ref Mr, .ref Mq, .int (iZ Mit), .int (iZ Mmk)]))]) (wr := [(Ma, .inl (k 1, 5340, .inl Af)), (Mk, .inl (k 1, 6, .inl Kfq20)), (Ml, .inl (k 1, 6, .inl Lfq20)), (Mb, .inl (k 1, 6, .inl Bfq20))]) hx hb hml hown hts hKK hP hD hS hA (m_orNone l D k hm Ma Mn Ms My Mt Mp Mx Mo Mk Ml Mb Mh Mc Mz Mr Mq Mst Mtd Msz Mtk Mfr Men Mva Mfk Mfp Mfs Mse Mlt Mdp Mct Mdr Mrs Mit Mmk Mtp Mbt v2_20 ⟨by omega, by omega⟩) ci_X12_orNone qm_X12_290 ⟨Nat.le_of_ble_eq_true rfl, Nat.le_of_ble_eq_true rfl⟩ ⟨Nat.le_of_ble_eq_true rfl, Nat.le_of_ble_eq_true rfl⟩ [0] [1, 2, 3, 4] rfl rfl rfl rfl rfl (by decide) 0 rfl rfl rfl hl.1 rfl (Nat.le_of_ble_eq_true rfl) dX12_remote_113 (fun u_6 H locs hφ hP hD hS => ?_)
          obtain ⟨I_7, L_8, F_9, G_10⟩ := u_6
          have p_12 : ((v2_20 : Int) = -1 ∧ (I_7 1) = 6) ∨ (¬ (v2_20 : Int) = -1 ∧ (I_7 1) = 0) := hφ
          refine W.eq (g2 := F0 m 116 ls [.int (iZ v2_20)]) rfl ?_
          exact EWi hx hb hr hlocks hS (fun i => [v2_20, (I_7 1)].getD i 0, fun i => [0].getD i 0, fun i => [Kfq20, Lfq20, Bfq20].getD i (fun _ => 0), fun i => [].getD i (fun _ => 0)) rfl trivial (hP.sub [4, 0, 1, 2, 3] rfl) (hD.sub [4, 0, 1, 2, 3] rfl rfl) dX12_remote_116
        ·
          have c_5 := mt (zle (x := iZ (gz Af 0)) (y := iZ v4_20) rfl rfl ⟨by omega, by omega⟩ ⟨by omega, by omega⟩).mpr c_5
          refine lv_iconst (v := iZ 0) hx hb dX12_remote_31 (by decide) ?_
          refine lv_istore (lv' := [(5, .int (iZ 0)), (4, .int (iZ v4_20)), (3, .int (iZ v3_20)), (2, .int (iZ v2_20)), (0, .ref hm), (1, .int (iZ x1))]) hx hb dX12_remote_32 hl (by decide) rfl (fun ls hl => ?_)
          refine lv_iconst (v := iZ 0) hx hb dX12_remote_34 (by decide) ?_
          refine lv_istore (lv' := [(6, .int (iZ 0)), (5, .int (iZ 0)), (4, .int (iZ v4_20)), (3, .int (iZ v3_20)), (2, .int (iZ v2_20)), (0, .ref hm), (1, .int (iZ x1))]) hx hb dX12_remote_35 hl (by decide) rfl (fun ls hl => ?_)
          have HL37 : ∀ (fu : Nat) (v5_37 : Int) (v6_37 : Int) (Kfq37 : Nat → Int32) (Lfq37 : Nat → Int32) (Bfq37 : Nat → Int32) (H : Heap) (locs : List Loc) (ls : Array Slot), ((gz Af 0) + 2 - v6_37) < (fu : Int) → ((0 ≤ v6_37 ∧ v6_37 ≤ (gz Af 0) + 1)) → (0 ≤ v5_37 ∧ v5_37 ≤ v6_37 * 100000) → va_P D vwCl [(hm, .inr (12, [.ref Ma, .ref Mn, .int (iZ Mst), .long Mtp, .long Mbt, .ref Ms, .ref My, .ref Mt, .ref Mp, .ref Mx, .int (iZ Mtd), .int (iZ Msz), .int (iZ Mtk), .int (iZ Mfr), .int (iZ Men), .int (iZ Mva), .int (iZ Mfk), .int (iZ Mfp), .int (iZ Mfs), .int (iZ Mse), .int (iZ Mlt), .ref Mo, .int (iZ Mdp), .int (iZ Mct), .ref Mk, .ref Ml, .ref Mb, .ref Mh, .ref Mc, .int (iZ Mdr), .int (iZ Mrs), .ref Mz, .ref Mr, .ref Mq, .int (iZ Mit), .int (iZ Mmk)])), (Ma, .inl (k 1, 5340, .inl Af)), (Mk, .inl (k 1, 6, .inl Kfq37)), (Ml, .inl (k 1, 6, .inl Lfq37)), (Mb, .inl (k 1, 6, .inl Bfq37))] H → va_D A [(hm, .inr (12, [.ref Ma, .ref Mn, .int (iZ Mst), .long Mtp, .long Mbt, .ref Ms, .ref My, .ref Mt, .ref Mp, .ref Mx, .int (iZ Mtd), .int (iZ Msz), .int (iZ Mtk), .int (iZ Mfr), .int (iZ Men), .int (iZ Mva), .int (iZ Mfk), .int (iZ Mfp), .int (iZ Mfs), .int (iZ Mse), .int (iZ Mlt), .ref Mo, .int (iZ Mdp), .int (iZ Mct), .ref Mk, .ref Ml, .ref Mb, .ref Mh, .ref Mc, .int (iZ Mdr), .int (iZ Mrs), .ref Mz, .ref Mr, .ref Mq, .int (iZ Mit), .int (iZ Mmk)])), (Ma, .inl (k 1, 5340, .inl Af)), (Mk, .inl (k 1, 6, .inl Kfq37)), (Ml, .inl (k 1, 6, .inl Lfq37)), (Mb, .inl (k 1, 6, .inl Bfq37))] → va_S A s.heap H locs → lv_has ls 7 [(6, .int (iZ v6_37)), (5, .int (iZ v5_37)), (4, .int (iZ v4_20)), (3, .int (iZ v3_20)), (2, .int (iZ v2_20)), (0, .ref hm), (1, .int (iZ x1))] → W p l e (rj 6 0 0) s m [.ref hm, .int (iZ x1)].toArray below meth c H locs 0 0 (MQ below (QW (σ := ((Nat → Int) × (Nat → Int64) × (Nat → Nat → Int32) × (Nat → Nat → Int64))) (fun u => some (.int (iZ (u.1 0)))) (fun _ => True) (fun u => [(hm, .inr (12, [.ref Ma, .ref Mn, .int (iZ (u.1 1)), .long Mtp, .long Mbt, .ref Ms, .ref My, .ref Mt, .ref Mp, .ref Mx, .int (iZ Mtd), .int (iZ Msz), .int (iZ Mtk), .int (iZ Mfr), .int (iZ Men), .int (iZ Mva), .int (iZ Mfk), .int (iZ Mfp), .int (iZ Mfs), .int (iZ Mse), .int (iZ Mlt), .ref Mo, .int (iZ Mdp), .int (iZ Mct), .ref Mk, .ref Ml, .ref Mb, .ref Mh, .ref Mc, .int (iZ Mdr), .int (iZ Mrs), .ref Mz, .ref Mr, .ref Mq, .int (iZ Mit), .int (iZ Mmk)])), (Ma, .inl (k 1, 5340, .inl Af)), (Mk, .inl (k 1, 6, .inl (u.2.2.1 0))), (Ml, .inl (k 1, 6, .inl (u.2.2.1 1))), (Mb, .inl (k 1, 6, .inl (u.2.2.1 2)))]) D A) [.ref hm, .int (iZ x1)].toArray s 0 0 A) (F0 m 37 ls []) := by
            intro fu
            induction fu with
            | zero => intro v5_37 v6_37 Kfq37 Lfq37 Bfq37 H locs ls hμ37 hi37 hf0_37 hP hD hS hl; exact absurd hμ37 (by omega)
            | succ fu ih37 =>
              intro v5_37 v6_37 Kfq37 Lfq37 Bfq37 H locs ls hμ37 hi37 hf0_37 hP hD hS hl
              refine lv_iload hx hb dX12_remote_37 (lv_at hl 0 rfl) ?_
              refine lv_aload_n hx hb dX12_remote_39 rfl (lv_at hl 5 rfl) ?_
              refine va_get (D := D) (ci := 12) (v := .ref Ma) (C := RX12) (T := TX12) (N := 36) hx hb hts iX12 hown hK hP 0 rfl rfl 0 (by decide) (hts _ qf_X12_7) (fun _ h => h) rfl dX12_remote_40 ?_
              refine lv_iconst (v := iZ 0) hx hb dX12_remote_43 (by decide) ?_
              refine va_iald hx hb hK hP 1 1 rfl rfl (zin (e := 0) (n := 5340) ⟨by omega, by omega⟩ (by decide)) dX12_remote_44 ?_
              refine lv_topi (fun x_13 ex_13 => ?_)
              obtain rfl : x_13 = iZ (gz Af 0) := ex_13.trans (gz_eq ⟨by omega, by omega⟩)
              have h_14 := gz_rg Af 0
              refine lv_icmp_ge (tgt := 90) hx hb dX12_remote_45 (by decide) (fun c_15 => ?_) (fun c_15 => ?_)
              ·
                have c_15 := (zle (x := iZ (gz Af 0)) (y := iZ v6_37) rfl rfl ⟨by omega, by omega⟩ ⟨by omega, by omega⟩).mp c_15
                refine lv_iload hx hb dX12_remote_90 (lv_at hl 1 rfl) ?_
                refine lv_iload_n hx hb dX12_remote_92 rfl (lv_at hl 3 rfl) ?_
                refine lv_icmp_gt (tgt := 99) hx hb dX12_remote_93 (by decide) (fun c_16 => ?_) (fun c_16 => ?_)
                ·
                  have c_16 := (zlt (x := iZ v3_20) (y := iZ v5_37) rfl rfl ⟨by omega, by omega⟩ ⟨by omega, by omega⟩).mp c_16
                  refine lv_iload hx hb dX12_remote_99 (lv_at hl 1 rfl) ?_
                  refine lv_istore_n (lv' := [(3, .int (iZ v5_37)), (6, .int (iZ v6_37)), (5, .int (iZ v5_37)), (4, .int (iZ v4_20)), (2, .int (iZ v2_20)), (0, .ref hm), (1, .int (iZ x1))]) hx hb dX12_remote_101 rfl hl (by decide) rfl (fun ls hl => ?_)
                  refine lv_iload hx hb dX12_remote_102 (lv_at hl 3 rfl) ?_
                  refine lv_istore_n (lv' := [(2, .int (iZ v4_20)), (3, .int (iZ v5_37)), (6, .int (iZ v6_37)), (5, .int (iZ v5_37)), (4, .int (iZ v4_20)), (0, .ref hm), (1, .int (iZ x1))]) hx hb dX12_remote_104 rfl hl (by decide) rfl (fun ls hl => ?_)
                  refine lv_iinc (v := iZ (v4_20 + 1)) (lv' := [(4, .int (iZ (v4_20 + 1))), (2, .int (iZ v4_20)), (3, .int (iZ v5_37)), (6, .int (iZ v6_37)), (5, .int (iZ v5_37)), (0, .ref hm), (1, .int (iZ x1))]) hx hb dX12_remote_105 hl (k := 4) rfl (iZ_add v4_20 1) (by decide) rfl (fun ls hl => ?_)
                  refine lv_goto (tgt := 20) hx hb dX12_remote_108 (by decide) ?_
                  exact ih20  v5_37 v4_20 (v4_20 + 1) Kfq37 Lfq37 Bfq37 _ _ _ (by omega) (show (0 ≤ (v4_20 + 1) ∧ (v4_20 + 1) ≤ (gz Af 0) + 1) from ⟨by omega, by omega⟩) (show -1 ≤ v4_20 ∧ v4_20 < gz Af 0 from (by omega)) (show -1 ≤ v5_37 ∧ v5_37 ≤ 700000 from (by omega)) (hP.sub [0, 1, 2, 3, 4] rfl) (hD.sub [0, 1, 2, 3, 4] rfl rfl) hS (lv_sub hl [0, 2, 1, 5, 6] rfl)
                ·
                  have c_16 := mt (zlt (x := iZ v3_20) (y := iZ v5_37) rfl rfl ⟨by omega, by omega⟩ ⟨by omega, by omega⟩).mpr c_16
                  refine lv_goto (tgt := 105) hx hb dX12_remote_96 (by decide) ?_
                  refine lv_iinc (v := iZ (v4_20 + 1)) (lv' := [(4, .int (iZ (v4_20 + 1))), (6, .int (iZ v6_37)), (5, .int (iZ v5_37)), (3, .int (iZ v3_20)), (2, .int (iZ v2_20)), (0, .ref hm), (1, .int (iZ x1))]) hx hb dX12_remote_105 hl (k := 2) rfl (iZ_add v4_20 1) (by decide) rfl (fun ls hl => ?_)
                  refine lv_goto (tgt := 20) hx hb dX12_remote_108 (by decide) ?_
                  exact ih20  v3_20 v2_20 (v4_20 + 1) Kfq37 Lfq37 Bfq37 _ _ _ (by omega) (show (0 ≤ (v4_20 + 1) ∧ (v4_20 + 1) ≤ (gz Af 0) + 1) from ⟨by omega, by omega⟩) (show -1 ≤ v2_20 ∧ v2_20 < gz Af 0 from (by omega)) (show -1 ≤ v3_20 ∧ v3_20 ≤ 700000 from (by omega)) (hP.sub [0, 1, 2, 3, 4] rfl) (hD.sub [0, 1, 2, 3, 4] rfl rfl) hS (lv_sub hl [0, 3, 4, 5, 6] rfl)
              ·
                have c_15 := mt (zle (x := iZ (gz Af 0)) (y := iZ v6_37) rfl rfl ⟨by omega, by omega⟩ ⟨by omega, by omega⟩).mpr c_15
                refine lv_aload_n hx hb dX12_remote_48 rfl (lv_at hl 5 rfl) ?_
                refine lv_iload hx hb dX12_remote_49 (lv_at hl 0 rfl) ?_
                refine lv_iload_n hx hb dX12_remote_51 rfl (lv_at hl 6 rfl) ?_
                refine CWV (As := [.int (iZ v6_37), .int (iZ x1)]) (rest := []) (wc := [(hm, .inr (12, [.ref Ma, .ref Mn, .int (iZ Mst), .long Mtp, .long Mbt, .ref Ms, .ref My, .ref Mt, .ref Mp, .ref Mx, .int (iZ Mtd), .int (iZ Msz), .int (iZ Mtk), .int (iZ Mfr), .int (iZ Men), .int (iZ Mva), .int (iZ Mfk), .int (iZ Mfp), .int (iZ Mfs), .int (iZ Mse), .int (iZ Mlt), .ref Mo, .int (iZ Mdp), .int (iZ Mct), .ref Mk, .ref Ml, .ref Mb, .ref Mh, .ref Mc, .int (iZ Mdr), .int (iZ Mrs), .ref Mz, .ref Mr, .ref Mq, .int (iZ Mit), .int (iZ Mmk)])), (Ma, .inl (k 1, 5340, .inl Af)), (Mk, .inl (k 1, 6, .inl Kfq37)), (Ml, .inl (k 1, 6, .inl Lfq37)), (Mb, .inl (k 1, 6, .inl Bfq37))]) (wr := []) hx hb hml hown hts hKK hP hD hS hA (m_lays l D k hm Ma Mn Ms My Mt Mp Mx Mo Mk Ml Mb Mh Mc Mz Mr Mq Mst Mtd Msz Mtk Mfr Men Mva Mfk Mfp Mfs Mse Mlt Mdp Mct Mdr Mrs Mit Mmk Mtp Mbt Af Kfq37 Lfq37 Bfq37 v6_37 x1 hM ⟨by omega, by omega⟩ ⟨by omega, by omega⟩) ci_X12_lays qm_X12_302 ⟨Nat.le_of_ble_eq_true rfl, Nat.le_of_ble_eq_true rfl⟩ ⟨Nat.le_of_ble_eq_true rfl, Nat.le_of_ble_eq_true rfl⟩ [0, 1, 2, 3, 4] [] rfl rfl rfl rfl rfl (by decide) 0 rfl rfl rfl hl.1 rfl (Nat.le_of_ble_eq_true rfl) dX12_remote_52 (fun u_17 H locs hφ hP hD hS => ?_)
                obtain ⟨I_18, L_19, F_20, G_21⟩ := u_17
                obtain ⟨p_23, p_24⟩ : (KR (F_20 0) 6) ∧ (rgI (F_20 1) (-1) 5 6) := hφ
                refine W.eq (g2 := F0 m 55 ls []) rfl ?_
                refine lv_iload hx hb dX12_remote_55 (lv_at hl 1 rfl) ?_
                refine lv_aload_n hx hb dX12_remote_57 rfl (lv_at hl 5 rfl) ?_
                refine va_get (D := D) (ci := 12) (v := .ref Mk) (C := RX12) (T := TX12) (N := 36) hx hb hts iX12 hown hK hP 0 rfl rfl 24 (by decide) (hts _ qf_X12_47) (fun _ h => h) rfl dX12_remote_58 ?_
                refine lv_iload hx hb dX12_remote_61 (lv_at hl 2 rfl) ?_
                refine va_iald hx hb hK hP 2 1 rfl rfl (zin (e := v4_20) (n := 6) ⟨by omega, by omega⟩ (by decide)) dX12_remote_63 ?_
                refine lv_topi (fun x_25 ex_25 => ?_)
                obtain rfl : x_25 = iZ (gz (F_20 0) v4_20) := ex_25.trans (gz_eq ⟨by omega, by omega⟩)
                have h_26 := p_23 v4_20 (by omega) (by omega)
                refine lv_ldc (own := RX12) (v := 1000000) hx hb hown (hts _ qk_X12_88) dX12_remote_64 ?_
                refine W.eq (g2 := F0 m 66 ls [.int (iZ 1000000), .int (iZ (gz (F_20 0) v4_20)), .int (iZ v5_37)]) rfl ?_
                refine lv_icmp_ne (tgt := 74) hx hb dX12_remote_66 (by decide) (fun c_27 => ?_) (fun c_27 => ?_)
                ·
                  have c_27 := mt (zeq (x := iZ (gz (F_20 0) v4_20)) (y := iZ 1000000) rfl rfl ⟨by omega, by omega⟩ ⟨by omega, by omega⟩).mpr c_27
                  refine lv_aload_n hx hb dX12_remote_74 rfl (lv_at hl 5 rfl) ?_
                  refine va_get (D := D) (ci := 12) (v := .ref Mk) (C := RX12) (T := TX12) (N := 36) hx hb hts iX12 hown hK hP 0 rfl rfl 24 (by decide) (hts _ qf_X12_47) (fun _ h => h) rfl dX12_remote_75 ?_
                  refine lv_iload hx hb dX12_remote_78 (lv_at hl 2 rfl) ?_
                  refine va_iald hx hb hK hP 2 1 rfl rfl (zin (e := v4_20) (n := 6) ⟨by omega, by omega⟩ (by decide)) dX12_remote_80 ?_
                  refine lv_topi (fun x_28 ex_28 => ?_)
                  obtain rfl : x_28 = iZ (gz (F_20 0) v4_20) := ex_28.trans (gz_eq ⟨by omega, by omega⟩)
                  have h_29 := p_23 v4_20 (by omega) (by omega)
                  refine lv_iadd hx hb dX12_remote_81 ?_
                  refine lv_topi (fun x_30 ex_30 => ?_)
                  obtain rfl : x_30 = iZ (v5_37 + (gz (F_20 0) v4_20)) := ex_30.trans (iZ_add v5_37 (gz (F_20 0) v4_20))
                  refine lv_istore (lv' := [(5, .int (iZ (v5_37 + (gz (F_20 0) v4_20)))), (6, .int (iZ v6_37)), (4, .int (iZ v4_20)), (3, .int (iZ v3_20)), (2, .int (iZ v2_20)), (0, .ref hm), (1, .int (iZ x1))]) hx hb dX12_remote_82 hl (by decide) rfl (fun ls hl => ?_)
                  refine lv_iinc (v := iZ (v6_37 + 1)) (lv' := [(6, .int (iZ (v6_37 + 1))), (5, .int (iZ (v5_37 + (gz (F_20 0) v4_20)))), (4, .int (iZ v4_20)), (3, .int (iZ v3_20)), (2, .int (iZ v2_20)), (0, .ref hm), (1, .int (iZ x1))]) hx hb dX12_remote_84 hl (k := 1) rfl (iZ_add v6_37 1) (by decide) rfl (fun ls hl => ?_)
                  refine lv_goto (tgt := 37) hx hb dX12_remote_87 (by decide) ?_
                  exact ih37  (v5_37 + (gz (F_20 0) v4_20)) (v6_37 + 1) (F_20 0) (F_20 1) (F_20 2) _ _ _ (by omega) (show (0 ≤ (v6_37 + 1) ∧ (v6_37 + 1) ≤ (gz Af 0) + 1) from ⟨by omega, by omega⟩) (show 0 ≤ (v5_37 + (gz (F_20 0) v4_20)) ∧ (v5_37 + (gz (F_20 0) v4_20)) ≤ (v6_37 + 1) * 100000 from (by omega)) (hP.sub [0, 1, 2, 3, 4] rfl) (hD.sub [0, 1, 2, 3, 4] rfl rfl) hS (lv_sub hl [0, 1, 2, 3, 4, 5, 6] rfl)
                ·
                  have c_27 := (zeq (x := iZ (gz (F_20 0) v4_20)) (y := iZ 1000000) rfl rfl ⟨by omega, by omega⟩ ⟨by omega, by omega⟩).mp c_27
                  refine lv_ldc (own := RX12) (v := 100000) hx hb hown (hts _ qk_X12_136) dX12_remote_69 ?_
                  refine W.eq (g2 := F0 m 71 ls [.int (iZ 100000), .int (iZ v5_37)]) rfl ?_
                  refine lv_goto (tgt := 81) hx hb dX12_remote_71 (by decide) ?_
                  refine lv_iadd hx hb dX12_remote_81 ?_
                  refine lv_topi (fun x_31 ex_31 => ?_)
                  obtain rfl : x_31 = iZ (v5_37 + 100000) := ex_31.trans (iZ_add v5_37 100000)
                  refine lv_istore (lv' := [(5, .int (iZ (v5_37 + 100000))), (6, .int (iZ v6_37)), (4, .int (iZ v4_20)), (3, .int (iZ v3_20)), (2, .int (iZ v2_20)), (0, .ref hm), (1, .int (iZ x1))]) hx hb dX12_remote_82 hl (by decide) rfl (fun ls hl => ?_)
                  refine lv_iinc (v := iZ (v6_37 + 1)) (lv' := [(6, .int (iZ (v6_37 + 1))), (5, .int (iZ (v5_37 + 100000))), (4, .int (iZ v4_20)), (3, .int (iZ v3_20)), (2, .int (iZ v2_20)), (0, .ref hm), (1, .int (iZ x1))]) hx hb dX12_remote_84 hl (k := 1) rfl (iZ_add v6_37 1) (by decide) rfl (fun ls hl => ?_)
                  refine lv_goto (tgt := 37) hx hb dX12_remote_87 (by decide) ?_
                  exact ih37  (v5_37 + 100000) (v6_37 + 1) (F_20 0) (F_20 1) (F_20 2) _ _ _ (by omega) (show (0 ≤ (v6_37 + 1) ∧ (v6_37 + 1) ≤ (gz Af 0) + 1) from ⟨by omega, by omega⟩) (show 0 ≤ (v5_37 + 100000) ∧ (v5_37 + 100000) ≤ (v6_37 + 1) * 100000 from (by omega)) (hP.sub [0, 1, 2, 3, 4] rfl) (hD.sub [0, 1, 2, 3, 4] rfl rfl) hS (lv_sub hl [0, 1, 2, 3, 4, 5, 6] rfl)
          exact HL37 10 0 0 Kfq20 Lfq20 Bfq20 _ _ _ (by omega) (show (0 ≤ 0 ∧ 0 ≤ (gz Af 0) + 1) from ⟨by omega, by omega⟩) (show 0 ≤ 0 ∧ 0 ≤ 0 * 100000 from (by omega)) (hP.sub [0, 1, 2, 3, 4] rfl) (hD.sub [0, 1, 2, 3, 4] rfl rfl) hS (lv_sub hl [0, 1, 2, 3, 4, 5, 6] rfl)
    exact HL20 10 (-1) (-1) 0 Kf Lf Bf _ _ _ (by omega) (show (0 ≤ 0 ∧ 0 ≤ (gz Af 0) + 1) from ⟨by omega, by omega⟩) (show -1 ≤ (-1) ∧ (-1) < gz Af 0 from (by omega)) (show -1 ≤ (-1) ∧ (-1) ≤ 700000 from (by omega)) (hP.sub [0, 1, 2, 3, 4] rfl) (hD.sub [0, 1, 2, 3, 4] rfl rfl) hS (lv_sub hl [0, 1, 2, 3, 4] rfl)
  ·
    subst qz_1
    refine lv_if_ne (tgt := 13) hx hb dX12_remote_4 (by decide) (fun c => absurd (by decide) c) (fun _ => ?_)
    refine lv_aload_n hx hb dX12_remote_7 rfl (lv_at hl 0 rfl) ?_
    refine lv_iconst (v := iZ 1) hx hb dX12_remote_8 (by decide) ?_
    refine CWV (As := [.int (iZ 1)]) (rest := []) (wc := [(hm, .inr (12, [.ref Ma, .ref Mn, .int (iZ Mst), .long Mtp, .long Mbt, .ref Ms, .ref My, .ref Mt, .ref Mp, .ref Mx, .int (iZ Mtd), .int (iZ Msz), .int (iZ Mtk), .int (iZ Mfr), .int (iZ Men), .int (iZ Mva), .int (iZ Mfk), .int (iZ Mfp), .int (iZ Mfs), .int (iZ Mse), .int (iZ Mlt), .ref Mo, .int (iZ Mdp), .int (iZ Mct), .ref Mk, .ref Ml, .ref Mb, .ref Mh, .ref Mc, .int (iZ Mdr), .int (iZ Mrs), .ref Mz, .ref Mr, .ref Mq, .int (iZ Mit), .int (iZ Mmk)]))]) (wr := [(Ma, .inl (k 1, 5340, .inl Af)), (Mk, .inl (k 1, 6, .inl Kf)), (Ml, .inl (k 1, 6, .inl Lf)), (Mb, .inl (k 1, 6, .inl Bf))]) hx hb hml hown hts hKK hP hD hS hA (m_refuse l D k hm Ma Mn Ms My Mt Mp Mx Mo Mk Ml Mb Mh Mc Mz Mr Mq Mst Mtd Msz Mtk Mfr Men Mva Mfk Mfp Mfs Mse Mlt Mdp Mct Mdr Mrs Mit Mmk Mtp Mbt 1) ci_X12_refuse qm_X12_81 ⟨Nat.le_of_ble_eq_true rfl, Nat.le_of_ble_eq_true rfl⟩ ⟨Nat.le_of_ble_eq_true rfl, Nat.le_of_ble_eq_true rfl⟩ [0] [1, 2, 3, 4] rfl rfl rfl rfl rfl (by decide) 0 rfl rfl rfl hl.1 rfl (Nat.le_of_ble_eq_true rfl) dX12_remote_9 (fun u_33 H locs hφ hP hD hS => ?_)
    obtain ⟨I_34, L_35, F_36, G_37⟩ := u_33
    refine W.eq (g2 := F0 m 12 ls [.int (iZ (-1))]) rfl ?_
    exact EWi hx hb hr hlocks hS (fun i => [(-1), 1].getD i 0, fun i => [0].getD i 0, fun i => [Kf, Lf, Bf].getD i (fun _ => 0), fun i => [].getD i (fun _ => 0)) rfl trivial (hP.sub [4, 0, 1, 2, 3] rfl) (hD.sub [4, 0, 1, 2, 3] rfl rfl) dX12_remote_12
set_option maxHeartbeats 4000000 in
set_option maxRecDepth 100000 in
theorem q_early (l : Launch) (D : va_G) (k : Nat → ClassId) (hm : Nat) (Ma : Nat) (Mn : Nat) (Ms : Nat) (My : Nat) (Mt : Nat) (Mp : Nat) (Mx : Nat) (Mo : Nat) (Mk : Nat) (Ml : Nat) (Mb : Nat) (Mh : Nat) (Mc : Nat) (Mz : Nat) (Mr : Nat) (Mq : Nat) (Mst : Int) (Mtd : Int) (Msz : Int) (Mtk : Int) (Mfr : Int) (Men : Int) (Mva : Int) (Mfk : Int) (Mfp : Int) (Mfs : Int) (Mse : Int) (Mlt : Int) (Mdp : Int) (Mct : Int) (Mdr : Int) (Mrs : Int) (Mit : Int) (Mmk : Int) (Mtp : Int64) (Mbt : Int64) (Af : Nat → Int32) (Kf : Nat → Int32) (Lf : Nat → Int32) (Bf : Nat → Int32) (Sf : Nat → Int32) (Yf : Nat → Int32) (Tf : Nat → Int64) (x1 : Int) (x2 : Int) (x3 : Int) (hM : M0 Af) (rgY : rgI Yf (-1) 60 4) (h9x1 : -2147483648 ≤ x1 ∧ x1 < 2147483648) (h9x2 : -2147483648 ≤ x2 ∧ x2 < 2147483648) (h9x3 : -2147483648 ≤ x3 ∧ x3 < 2147483648) : WD (σ := ((Nat → Int) × (Nat → Int64) × (Nat → Nat → Int32) × (Nat → Nat → Int64))) l yX12_early cX12_early 6 (some .int) 6 0 0 D k [.ref hm, .int (iZ x1), .int (iZ x2), .int (iZ x3)] [(hm, .inr (12, [.ref Ma, .ref Mn, .int (iZ Mst), .long Mtp, .long Mbt, .ref Ms, .ref My, .ref Mt, .ref Mp, .ref Mx, .int (iZ Mtd), .int (iZ Msz), .int (iZ Mtk), .int (iZ Mfr), .int (iZ Men), .int (iZ Mva), .int (iZ Mfk), .int (iZ Mfp), .int (iZ Mfs), .int (iZ Mse), .int (iZ Mlt), .ref Mo, .int (iZ Mdp), .int (iZ Mct), .ref Mk, .ref Ml, .ref Mb, .ref Mh, .ref Mc, .int (iZ Mdr), .int (iZ Mrs), .ref Mz, .ref Mr, .ref Mq, .int (iZ Mit), .int (iZ Mmk)])), (Ma, .inl (k 1, 5340, .inl Af)), (Mk, .inl (k 1, 6, .inl Kf)), (Ml, .inl (k 1, 6, .inl Lf)), (Mb, .inl (k 1, 6, .inl Bf)), (Ms, .inl (k 1, 4, .inl Sf)), (My, .inl (k 1, 4, .inl Yf)), (Mt, .inl (k 2, 240, .inr (.inl Tf)))] (fun u => some (.int (iZ (u.1 0)))) (fun _ => True) (fun u => [(hm, .inr (12, [.ref Ma, .ref Mn, .int (iZ (u.1 1)), .long Mtp, .long Mbt, .ref Ms, .ref My, .ref Mt, .ref Mp, .ref Mx, .int (iZ Mtd), .int (iZ Msz), .int (iZ Mtk), .int (iZ Mfr), .int (iZ Men), .int (iZ Mva), .int (iZ Mfk), .int (iZ Mfp), .int (iZ Mfs), .int (iZ Mse), .int (iZ Mlt), .ref Mo, .int (iZ Mdp), .int (iZ Mct), .ref Mk, .ref Ml, .ref Mb, .ref Mh, .ref Mc, .int (iZ Mdr), .int (iZ Mrs), .ref Mz, .ref Mr, .ref Mq, .int (iZ Mit), .int (iZ Mmk)])), (Ma, .inl (k 1, 5340, .inl Af)), (Mk, .inl (k 1, 6, .inl (u.2.2.1 0))), (Ml, .inl (k 1, 6, .inl (u.2.2.1 1))), (Mb, .inl (k 1, 6, .inl (u.2.2.1 2))), (Ms, .inl (k 1, 4, .inl Sf)), (My, .inl (k 1, 4, .inl Yf)), (Mt, .inl (k 2, 240, .inr (.inl Tf)))]) := by
  refine MW (by decide) (Nat.le_of_ble_eq_true rfl) (fun p e s m below meth c ls A hx hb hml hr hlocks hin hts hown hKK hP hD hS hA hl => ?_)
  have hK := hKK.1
  have hl : lv_has ls 6 [(0, .ref hm), (1, .int (iZ x1)), (2, .int (iZ x2)), (3, .int (iZ x3))] := hl
  obtain ⟨m0, m1, m3, m4, m5, mF, mO, mS⟩ := id hM
  refine lv_aload_n hx hb dX12_early_0 rfl (lv_at hl 0 rfl) ?_
  refine lv_iload_n hx hb dX12_early_1 rfl (lv_at hl 1 rfl) ?_
  refine lv_iload_n hx hb dX12_early_2 rfl (lv_at hl 2 rfl) ?_
  refine CPV (As := [.int (iZ x1), .int (iZ x2)]) (rest := []) hx hb hml hown hts hKK (hP.sub (ws' := [(hm, .inr (12, [.ref Ma, .ref Mn, .int (iZ Mst), .long Mtp, .long Mbt, .ref Ms, .ref My, .ref Mt, .ref Mp, .ref Mx, .int (iZ Mtd), .int (iZ Msz), .int (iZ Mtk), .int (iZ Mfr), .int (iZ Men), .int (iZ Mva), .int (iZ Mfk), .int (iZ Mfp), .int (iZ Mfs), .int (iZ Mse), .int (iZ Mlt), .ref Mo, .int (iZ Mdp), .int (iZ Mct), .ref Mk, .ref Ml, .ref Mb, .ref Mh, .ref Mc, .int (iZ Mdr), .int (iZ Mrs), .ref Mz, .ref Mr, .ref Mq, .int (iZ Mit), .int (iZ Mmk)])), (Ma, .inl (k 1, 5340, .inl Af))]) [0, 1] rfl) (m_isNews l D k ([.ref Ma, .ref Mn, .int (iZ Mst), .long Mtp, .long Mbt, .ref Ms, .ref My, .ref Mt, .ref Mp, .ref Mx, .int (iZ Mtd), .int (iZ Msz), .int (iZ Mtk), .int (iZ Mfr), .int (iZ Men), .int (iZ Mva), .int (iZ Mfk), .int (iZ Mfp), .int (iZ Mfs), .int (iZ Mse), .int (iZ Mlt), .ref Mo, .int (iZ Mdp), .int (iZ Mct), .ref Mk, .ref Ml, .ref Mb, .ref Mh, .ref Mc, .int (iZ Mdr), .int (iZ Mrs), .ref Mz, .ref Mr, .ref Mq, .int (iZ Mit), .int (iZ Mmk)]) hm Ma Af x1 x2 rfl hM ⟨by omega, by omega⟩ ⟨by omega, by omega⟩) ci_X12_isNews qm_X12_299 ⟨Nat.le_of_ble_eq_true rfl, Nat.le_of_ble_eq_true rfl⟩ ⟨Nat.le_of_ble_eq_true rfl, Nat.le_of_ble_eq_true rfl⟩ 0 rfl rfl rfl hl.1 rfl (Nat.le_of_ble_eq_true rfl) dX12_early_3 (fun z_1 hz_1 => ?_)
  rcases hz_1 with ⟨qz_1, hz_1⟩ | ⟨qz_1, hz_1⟩
  ·
    subst qz_1
    refine lv_if_eq (tgt := 16) hx hb dX12_early_6 (by decide) (fun c => absurd c (by decide)) (fun _ => ?_)
    refine lv_iload_n hx hb dX12_early_9 rfl (lv_at hl 3 rfl) ?_
    refine CPS (As := [.int (iZ x3)]) (rest := []) hx hb hml hown hts hKK (hP.sub (ws' := []) [] rfl) (m_isTray l D k x3 ⟨by omega, by omega⟩) ci_X12_isTray qm_X12_93 ⟨Nat.le_of_ble_eq_true rfl, Nat.le_of_ble_eq_true rfl⟩ ⟨Nat.le_of_ble_eq_true rfl, Nat.le_of_ble_eq_true rfl⟩ rfl hl.1 rfl (Nat.le_of_ble_eq_true rfl) dX12_early_10 (fun z_3 hz_3 => ?_)
    rcases hz_3 with ⟨qz_3, hz_3⟩ | ⟨qz_3, hz_3⟩
    ·
      subst qz_3
      refine lv_if_ne (tgt := 22) hx hb dX12_early_13 (by decide) (fun _ => ?_) (fun c => absurd c (by decide))
      refine lv_aload_n hx hb dX12_early_22 rfl (lv_at hl 0 rfl) ?_
      refine va_get (D := D) (ci := 12) (v := .ref My) (C := RX12) (T := TX12) (N := 36) hx hb hts iX12 hown hK hP 0 rfl rfl 6 (by decide) (hts _ qf_X12_24) (fun _ h => h) rfl dX12_early_23 ?_
      refine lv_iload_n hx hb dX12_early_26 rfl (lv_at hl 3 rfl) ?_
      refine va_iald hx hb hK hP 6 1 rfl rfl (zin (e := x3) (n := 4) ⟨by omega, by omega⟩ (by decide)) dX12_early_27 ?_
      refine lv_topi (fun x_5 ex_5 => ?_)
      obtain rfl : x_5 = iZ (gz Yf x3) := ex_5.trans (gz_eq ⟨by omega, by omega⟩)
      have h_6 := rgY x3 (by omega) (by omega)
      refine lv_iconst (v := iZ (-1)) hx hb dX12_early_28 (by decide) ?_
      refine lv_icmp_ne (tgt := 38) hx hb dX12_early_29 (by decide) (fun c_7 => ?_) (fun c_7 => ?_)
      ·
        have c_7 := mt (zeq (x := iZ (gz Yf x3)) (y := iZ (-1)) rfl rfl ⟨by omega, by omega⟩ ⟨by omega, by omega⟩).mpr c_7
        refine lv_aload_n hx hb dX12_early_38 rfl (lv_at hl 0 rfl) ?_
        refine va_get (D := D) (ci := 12) (v := .ref My) (C := RX12) (T := TX12) (N := 36) hx hb hts iX12 hown hK hP 0 rfl rfl 6 (by decide) (hts _ qf_X12_24) (fun _ h => h) rfl dX12_early_39 ?_
        refine lv_iload_n hx hb dX12_early_42 rfl (lv_at hl 3 rfl) ?_
        refine va_iald hx hb hK hP 6 1 rfl rfl (zin (e := x3) (n := 4) ⟨by omega, by omega⟩ (by decide)) dX12_early_43 ?_
        refine lv_topi (fun x_8 ex_8 => ?_)
        obtain rfl : x_8 = iZ (gz Yf x3) := ex_8.trans (gz_eq ⟨by omega, by omega⟩)
        have h_9 := rgY x3 (by omega) (by omega)
        refine lv_aload_n hx hb dX12_early_44 rfl (lv_at hl 0 rfl) ?_
        refine va_get (D := D) (ci := 12) (v := .ref Ma) (C := RX12) (T := TX12) (N := 36) hx hb hts iX12 hown hK hP 0 rfl rfl 0 (by decide) (hts _ qf_X12_7) (fun _ h => h) rfl dX12_early_45 ?_
        refine lv_iconst (v := iZ 0) hx hb dX12_early_48 (by decide) ?_
        refine va_iald hx hb hK hP 1 1 rfl rfl (zin (e := 0) (n := 5340) ⟨by omega, by omega⟩ (by decide)) dX12_early_49 ?_
        refine lv_topi (fun x_10 ex_10 => ?_)
        obtain rfl : x_10 = iZ (gz Af 0) := ex_10.trans (gz_eq ⟨by omega, by omega⟩)
        have h_11 := gz_rg Af 0
        refine lv_icmp_ge (tgt := 59) hx hb dX12_early_50 (by decide) (fun c_12 => ?_) (fun c_12 => ?_)
        ·
          have c_12 := (zle (x := iZ (gz Af 0)) (y := iZ (gz Yf x3)) rfl rfl ⟨by omega, by omega⟩ ⟨by omega, by omega⟩).mp c_12
          refine lv_iconst (v := iZ 0) hx hb dX12_early_59 (by decide) ?_
          refine lv_istore (lv' := [(4, .int (iZ 0)), (0, .ref hm), (1, .int (iZ x1)), (2, .int (iZ x2)), (3, .int (iZ x3))]) hx hb dX12_early_60 hl (by decide) rfl (fun ls hl => ?_)
          have HL62 : ∀ (fu : Nat) (v4_62 : Int) (H : Heap) (locs : List Loc) (ls : Array Slot), ((gz Af 0) + 2 - v4_62) < (fu : Int) → ((0 ≤ v4_62 ∧ v4_62 ≤ (gz Af 0) + 1)) → va_P D vwCl [(hm, .inr (12, [.ref Ma, .ref Mn, .int (iZ Mst), .long Mtp, .long Mbt, .ref Ms, .ref My, .ref Mt, .ref Mp, .ref Mx, .int (iZ Mtd), .int (iZ Msz), .int (iZ Mtk), .int (iZ Mfr), .int (iZ Men), .int (iZ Mva), .int (iZ Mfk), .int (iZ Mfp), .int (iZ Mfs), .int (iZ Mse), .int (iZ Mlt), .ref Mo, .int (iZ Mdp), .int (iZ Mct), .ref Mk, .ref Ml, .ref Mb, .ref Mh, .ref Mc, .int (iZ Mdr), .int (iZ Mrs), .ref Mz, .ref Mr, .ref Mq, .int (iZ Mit), .int (iZ Mmk)])), (Ma, .inl (k 1, 5340, .inl Af)), (Mk, .inl (k 1, 6, .inl Kf)), (Ml, .inl (k 1, 6, .inl Lf)), (Mb, .inl (k 1, 6, .inl Bf)), (Ms, .inl (k 1, 4, .inl Sf)), (My, .inl (k 1, 4, .inl Yf)), (Mt, .inl (k 2, 240, .inr (.inl Tf)))] H → va_D A [(hm, .inr (12, [.ref Ma, .ref Mn, .int (iZ Mst), .long Mtp, .long Mbt, .ref Ms, .ref My, .ref Mt, .ref Mp, .ref Mx, .int (iZ Mtd), .int (iZ Msz), .int (iZ Mtk), .int (iZ Mfr), .int (iZ Men), .int (iZ Mva), .int (iZ Mfk), .int (iZ Mfp), .int (iZ Mfs), .int (iZ Mse), .int (iZ Mlt), .ref Mo, .int (iZ Mdp), .int (iZ Mct), .ref Mk, .ref Ml, .ref Mb, .ref Mh, .ref Mc, .int (iZ Mdr), .int (iZ Mrs), .ref Mz, .ref Mr, .ref Mq, .int (iZ Mit), .int (iZ Mmk)])), (Ma, .inl (k 1, 5340, .inl Af)), (Mk, .inl (k 1, 6, .inl Kf)), (Ml, .inl (k 1, 6, .inl Lf)), (Mb, .inl (k 1, 6, .inl Bf)), (Ms, .inl (k 1, 4, .inl Sf)), (My, .inl (k 1, 4, .inl Yf)), (Mt, .inl (k 2, 240, .inr (.inl Tf)))] → va_S A s.heap H locs → lv_has ls 6 [(4, .int (iZ v4_62)), (0, .ref hm), (1, .int (iZ x1)), (2, .int (iZ x2)), (3, .int (iZ x3))] → W p l e (rj 6 0 0) s m [.ref hm, .int (iZ x1), .int (iZ x2), .int (iZ x3)].toArray below meth c H locs 0 0 (MQ below (QW (σ := ((Nat → Int) × (Nat → Int64) × (Nat → Nat → Int32) × (Nat → Nat → Int64))) (fun u => some (.int (iZ (u.1 0)))) (fun _ => True) (fun u => [(hm, .inr (12, [.ref Ma, .ref Mn, .int (iZ (u.1 1)), .long Mtp, .long Mbt, .ref Ms, .ref My, .ref Mt, .ref Mp, .ref Mx, .int (iZ Mtd), .int (iZ Msz), .int (iZ Mtk), .int (iZ Mfr), .int (iZ Men), .int (iZ Mva), .int (iZ Mfk), .int (iZ Mfp), .int (iZ Mfs), .int (iZ Mse), .int (iZ Mlt), .ref Mo, .int (iZ Mdp), .int (iZ Mct), .ref Mk, .ref Ml, .ref Mb, .ref Mh, .ref Mc, .int (iZ Mdr), .int (iZ Mrs), .ref Mz, .ref Mr, .ref Mq, .int (iZ Mit), .int (iZ Mmk)])), (Ma, .inl (k 1, 5340, .inl Af)), (Mk, .inl (k 1, 6, .inl (u.2.2.1 0))), (Ml, .inl (k 1, 6, .inl (u.2.2.1 1))), (Mb, .inl (k 1, 6, .inl (u.2.2.1 2))), (Ms, .inl (k 1, 4, .inl Sf)), (My, .inl (k 1, 4, .inl Yf)), (Mt, .inl (k 2, 240, .inr (.inl Tf)))]) D A) [.ref hm, .int (iZ x1), .int (iZ x2), .int (iZ x3)].toArray s 0 0 A) (F0 m 62 ls []) := by
            intro fu
            induction fu with
            | zero => intro v4_62 H locs ls hμ62 hi62 hP hD hS hl; exact absurd hμ62 (by omega)
            | succ fu ih62 =>
              intro v4_62 H locs ls hμ62 hi62 hP hD hS hl
              refine lv_iload hx hb dX12_early_62 (lv_at hl 0 rfl) ?_
              refine lv_aload_n hx hb dX12_early_64 rfl (lv_at hl 1 rfl) ?_
              refine va_get (D := D) (ci := 12) (v := .ref Ma) (C := RX12) (T := TX12) (N := 36) hx hb hts iX12 hown hK hP 0 rfl rfl 0 (by decide) (hts _ qf_X12_7) (fun _ h => h) rfl dX12_early_65 ?_
              refine lv_iconst (v := iZ 0) hx hb dX12_early_68 (by decide) ?_
              refine va_iald hx hb hK hP 1 1 rfl rfl (zin (e := 0) (n := 5340) ⟨by omega, by omega⟩ (by decide)) dX12_early_69 ?_
              refine lv_topi (fun x_13 ex_13 => ?_)
              obtain rfl : x_13 = iZ (gz Af 0) := ex_13.trans (gz_eq ⟨by omega, by omega⟩)
              have h_14 := gz_rg Af 0
              refine lv_icmp_ge (tgt := 107) hx hb dX12_early_70 (by decide) (fun c_15 => ?_) (fun c_15 => ?_)
              ·
                have c_15 := (zle (x := iZ (gz Af 0)) (y := iZ v4_62) rfl rfl ⟨by omega, by omega⟩ ⟨by omega, by omega⟩).mp c_15
                refine lv_aload_n hx hb dX12_early_107 rfl (lv_at hl 1 rfl) ?_
                refine lv_iload_n hx hb dX12_early_108 rfl (lv_at hl 2 rfl) ?_
                refine lv_iload_n hx hb dX12_early_109 rfl (lv_at hl 3 rfl) ?_
                refine CWV (As := [.int (iZ x1), .int (iZ x2)]) (rest := []) (wc := [(hm, .inr (12, [.ref Ma, .ref Mn, .int (iZ Mst), .long Mtp, .long Mbt, .ref Ms, .ref My, .ref Mt, .ref Mp, .ref Mx, .int (iZ Mtd), .int (iZ Msz), .int (iZ Mtk), .int (iZ Mfr), .int (iZ Men), .int (iZ Mva), .int (iZ Mfk), .int (iZ Mfp), .int (iZ Mfs), .int (iZ Mse), .int (iZ Mlt), .ref Mo, .int (iZ Mdp), .int (iZ Mct), .ref Mk, .ref Ml, .ref Mb, .ref Mh, .ref Mc, .int (iZ Mdr), .int (iZ Mrs), .ref Mz, .ref Mr, .ref Mq, .int (iZ Mit), .int (iZ Mmk)])), (Ma, .inl (k 1, 5340, .inl Af)), (Mk, .inl (k 1, 6, .inl Kf)), (Ml, .inl (k 1, 6, .inl Lf)), (Mb, .inl (k 1, 6, .inl Bf))]) (wr := [(Ms, .inl (k 1, 4, .inl Sf)), (My, .inl (k 1, 4, .inl Yf)), (Mt, .inl (k 2, 240, .inr (.inl Tf)))]) hx hb hml hown hts hKK hP hD hS hA (m_lays l D k hm Ma Mn Ms My Mt Mp Mx Mo Mk Ml Mb Mh Mc Mz Mr Mq Mst Mtd Msz Mtk Mfr Men Mva Mfk Mfp Mfs Mse Mlt Mdp Mct Mdr Mrs Mit Mmk Mtp Mbt Af Kf Lf Bf x1 x2 hM ⟨by omega, by omega⟩ ⟨by omega, by omega⟩) ci_X12_lays qm_X12_302 ⟨Nat.le_of_ble_eq_true rfl, Nat.le_of_ble_eq_true rfl⟩ ⟨Nat.le_of_ble_eq_true rfl, Nat.le_of_ble_eq_true rfl⟩ [0, 1, 2, 3, 4] [5, 6, 7] rfl rfl rfl rfl rfl (by decide) 0 rfl rfl rfl hl.1 rfl (Nat.le_of_ble_eq_true rfl) dX12_early_110 (fun u_16 H locs hφ hP hD hS => ?_)
                obtain ⟨I_17, L_18, F_19, G_20⟩ := u_16
                obtain ⟨p_22, p_23⟩ : (KR (F_19 0) 6) ∧ (rgI (F_19 1) (-1) 5 6) := hφ
                refine W.eq (g2 := F0 m 113 ls []) rfl ?_
                refine lv_iconst (v := iZ 0) hx hb dX12_early_113 (by decide) ?_
                refine lv_istore (lv' := [(4, .int (iZ 0)), (0, .ref hm), (1, .int (iZ x1)), (2, .int (iZ x2)), (3, .int (iZ x3))]) hx hb dX12_early_114 hl (by decide) rfl (fun ls hl => ?_)
                refine lv_iconst (v := iZ 0) hx hb dX12_early_116 (by decide) ?_
                refine lv_istore (lv' := [(5, .int (iZ 0)), (4, .int (iZ 0)), (0, .ref hm), (1, .int (iZ x1)), (2, .int (iZ x2)), (3, .int (iZ x3))]) hx hb dX12_early_117 hl (by decide) rfl (fun ls hl => ?_)
                have HL119 : ∀ (fu : Nat) (v4_119 : Int) (v5_119 : Int) (H : Heap) (locs : List Loc) (ls : Array Slot), ((gz Af 0) + 2 - v5_119) < (fu : Int) → ((0 ≤ v5_119 ∧ v5_119 ≤ (gz Af 0) + 1)) → (-2147483648 ≤ v4_119 ∧ v4_119 < 2147483648) → va_P D vwCl [(Ms, .inl (k 1, 4, .inl Sf)), (My, .inl (k 1, 4, .inl Yf)), (Mt, .inl (k 2, 240, .inr (.inl Tf))), (hm, .inr (12, [.ref Ma, .ref Mn, .int (iZ Mst), .long Mtp, .long Mbt, .ref Ms, .ref My, .ref Mt, .ref Mp, .ref Mx, .int (iZ Mtd), .int (iZ Msz), .int (iZ Mtk), .int (iZ Mfr), .int (iZ Men), .int (iZ Mva), .int (iZ Mfk), .int (iZ Mfp), .int (iZ Mfs), .int (iZ Mse), .int (iZ Mlt), .ref Mo, .int (iZ Mdp), .int (iZ Mct), .ref Mk, .ref Ml, .ref Mb, .ref Mh, .ref Mc, .int (iZ Mdr), .int (iZ Mrs), .ref Mz, .ref Mr, .ref Mq, .int (iZ Mit), .int (iZ Mmk)])), (Ma, .inl (k 1, 5340, .inl Af)), (Mk, .inl (k 1, 6, .inl (F_19 0))), (Ml, .inl (k 1, 6, .inl (F_19 1))), (Mb, .inl (k 1, 6, .inl (F_19 2)))] H → va_D A [(Ms, .inl (k 1, 4, .inl Sf)), (My, .inl (k 1, 4, .inl Yf)), (Mt, .inl (k 2, 240, .inr (.inl Tf))), (hm, .inr (12, [.ref Ma, .ref Mn, .int (iZ Mst), .long Mtp, .long Mbt, .ref Ms, .ref My, .ref Mt, .ref Mp, .ref Mx, .int (iZ Mtd), .int (iZ Msz), .int (iZ Mtk), .int (iZ Mfr), .int (iZ Men), .int (iZ Mva), .int (iZ Mfk), .int (iZ Mfp), .int (iZ Mfs), .int (iZ Mse), .int (iZ Mlt), .ref Mo, .int (iZ Mdp), .int (iZ Mct), .ref Mk, .ref Ml, .ref Mb, .ref Mh, .ref Mc, .int (iZ Mdr), .int (iZ Mrs), .ref Mz, .ref Mr, .ref Mq, .int (iZ Mit), .int (iZ Mmk)])), (Ma, .inl (k 1, 5340, .inl Af)), (Mk, .inl (k 1, 6, .inl (F_19 0))), (Ml, .inl (k 1, 6, .inl (F_19 1))), (Mb, .inl (k 1, 6, .inl (F_19 2)))] → va_S A s.heap H locs → lv_has ls 6 [(5, .int (iZ v5_119)), (4, .int (iZ v4_119)), (0, .ref hm), (1, .int (iZ x1)), (2, .int (iZ x2)), (3, .int (iZ x3))] → W p l e (rj 6 0 0) s m [.ref hm, .int (iZ x1), .int (iZ x2), .int (iZ x3)].toArray below meth c H locs 0 0 (MQ below (QW (σ := ((Nat → Int) × (Nat → Int64) × (Nat → Nat → Int32) × (Nat → Nat → Int64))) (fun u => some (.int (iZ (u.1 0)))) (fun _ => True) (fun u => [(hm, .inr (12, [.ref Ma, .ref Mn, .int (iZ (u.1 1)), .long Mtp, .long Mbt, .ref Ms, .ref My, .ref Mt, .ref Mp, .ref Mx, .int (iZ Mtd), .int (iZ Msz), .int (iZ Mtk), .int (iZ Mfr), .int (iZ Men), .int (iZ Mva), .int (iZ Mfk), .int (iZ Mfp), .int (iZ Mfs), .int (iZ Mse), .int (iZ Mlt), .ref Mo, .int (iZ Mdp), .int (iZ Mct), .ref Mk, .ref Ml, .ref Mb, .ref Mh, .ref Mc, .int (iZ Mdr), .int (iZ Mrs), .ref Mz, .ref Mr, .ref Mq, .int (iZ Mit), .int (iZ Mmk)])), (Ma, .inl (k 1, 5340, .inl Af)), (Mk, .inl (k 1, 6, .inl (u.2.2.1 0))), (Ml, .inl (k 1, 6, .inl (u.2.2.1 1))), (Mb, .inl (k 1, 6, .inl (u.2.2.1 2))), (Ms, .inl (k 1, 4, .inl Sf)), (My, .inl (k 1, 4, .inl Yf)), (Mt, .inl (k 2, 240, .inr (.inl Tf)))]) D A) [.ref hm, .int (iZ x1), .int (iZ x2), .int (iZ x3)].toArray s 0 0 A) (F0 m 119 ls []) := by
                  intro fu
                  induction fu with
                  | zero => intro v4_119 v5_119 H locs ls hμ119 hi119 hf0_119 hP hD hS hl; exact absurd hμ119 (by omega)
                  | succ fu ih119 =>
                    intro v4_119 v5_119 H locs ls hμ119 hi119 hf0_119 hP hD hS hl
                    refine lv_iload hx hb dX12_early_119 (lv_at hl 0 rfl) ?_
                    refine lv_aload_n hx hb dX12_early_121 rfl (lv_at hl 2 rfl) ?_
                    refine va_get (D := D) (ci := 12) (v := .ref Ma) (C := RX12) (T := TX12) (N := 36) hx hb hts iX12 hown hK hP 3 rfl rfl 0 (by decide) (hts _ qf_X12_7) (fun _ h => h) rfl dX12_early_122 ?_
                    refine lv_iconst (v := iZ 0) hx hb dX12_early_125 (by decide) ?_
                    refine va_iald hx hb hK hP 4 1 rfl rfl (zin (e := 0) (n := 5340) ⟨by omega, by omega⟩ (by decide)) dX12_early_126 ?_
                    refine lv_topi (fun x_24 ex_24 => ?_)
                    obtain rfl : x_24 = iZ (gz Af 0) := ex_24.trans (gz_eq ⟨by omega, by omega⟩)
                    have h_25 := gz_rg Af 0
                    refine lv_icmp_ge (tgt := 173) hx hb dX12_early_127 (by decide) (fun c_26 => ?_) (fun c_26 => ?_)
                    ·
                      have c_26 := (zle (x := iZ (gz Af 0)) (y := iZ v5_119) rfl rfl ⟨by omega, by omega⟩ ⟨by omega, by omega⟩).mp c_26
                      refine lv_aload_n hx hb dX12_early_173 rfl (lv_at hl 2 rfl) ?_
                      refine lv_iload hx hb dX12_early_174 (lv_at hl 1 rfl) ?_
                      refine CWV (As := [.int (iZ v4_119)]) (rest := []) (wc := [(hm, .inr (12, [.ref Ma, .ref Mn, .int (iZ Mst), .long Mtp, .long Mbt, .ref Ms, .ref My, .ref Mt, .ref Mp, .ref Mx, .int (iZ Mtd), .int (iZ Msz), .int (iZ Mtk), .int (iZ Mfr), .int (iZ Men), .int (iZ Mva), .int (iZ Mfk), .int (iZ Mfp), .int (iZ Mfs), .int (iZ Mse), .int (iZ Mlt), .ref Mo, .int (iZ Mdp), .int (iZ Mct), .ref Mk, .ref Ml, .ref Mb, .ref Mh, .ref Mc, .int (iZ Mdr), .int (iZ Mrs), .ref Mz, .ref Mr, .ref Mq, .int (iZ Mit), .int (iZ Mmk)]))]) (wr := [(Ms, .inl (k 1, 4, .inl Sf)), (My, .inl (k 1, 4, .inl Yf)), (Mt, .inl (k 2, 240, .inr (.inl Tf))), (Ma, .inl (k 1, 5340, .inl Af)), (Mk, .inl (k 1, 6, .inl (F_19 0))), (Ml, .inl (k 1, 6, .inl (F_19 1))), (Mb, .inl (k 1, 6, .inl (F_19 2)))]) hx hb hml hown hts hKK hP hD hS hA (m_gives l D k hm Ma Mn Ms My Mt Mp Mx Mo Mk Ml Mb Mh Mc Mz Mr Mq Mst Mtd Msz Mtk Mfr Men Mva Mfk Mfp Mfs Mse Mlt Mdp Mct Mdr Mrs Mit Mmk Mtp Mbt v4_119) ci_X12_gives qm_X12_85 ⟨Nat.le_of_ble_eq_true rfl, Nat.le_of_ble_eq_true rfl⟩ ⟨Nat.le_of_ble_eq_true rfl, Nat.le_of_ble_eq_true rfl⟩ [3] [0, 1, 2, 4, 5, 6, 7] rfl rfl rfl rfl rfl (by decide) 0 rfl rfl rfl hl.1 rfl (Nat.le_of_ble_eq_true rfl) dX12_early_176 (fun u_27 H locs hφ hP hD hS => ?_)
                      obtain ⟨I_28, L_29, F_30, G_31⟩ := u_27
                      refine W.eq (g2 := F0 m 179 ls [.int (iZ v4_119)]) rfl ?_
                      exact EWi hx hb hr hlocks hS (fun i => [v4_119, 0].getD i 0, fun i => [0].getD i 0, fun i => [(F_19 0), (F_19 1), (F_19 2)].getD i (fun _ => 0), fun i => [].getD i (fun _ => 0)) rfl trivial (hP.sub [7, 3, 4, 5, 6, 0, 1, 2] rfl) (hD.sub [7, 3, 4, 5, 6, 0, 1, 2] rfl rfl) dX12_early_179
                    ·
                      have c_26 := mt (zle (x := iZ (gz Af 0)) (y := iZ v5_119) rfl rfl ⟨by omega, by omega⟩ ⟨by omega, by omega⟩).mpr c_26
                      refine lv_iload hx hb dX12_early_130 (lv_at hl 1 rfl) ?_
                      refine lv_aload_n hx hb dX12_early_132 rfl (lv_at hl 2 rfl) ?_
                      refine va_get (D := D) (ci := 12) (v := .ref Mt) (C := RX12) (T := TX12) (N := 36) hx hb hts iX12 hown hK hP 3 rfl rfl 7 (by decide) (hts _ qf_X12_27) (fun _ h => h) rfl dX12_early_133 ?_
                      refine lv_bipush (v := iZ 60) hx hb dX12_early_136 (by decide) ?_
                      refine lv_iload_n hx hb dX12_early_138 rfl (lv_at hl 5 rfl) ?_
                      refine lv_imul hx hb dX12_early_139 ?_
                      refine lv_topi (fun x_33 ex_33 => ?_)
                      obtain rfl : x_33 = iZ (60 * x3) := ex_33.trans (iZ_mul 60 x3)
                      refine lv_iload hx hb dX12_early_140 (lv_at hl 0 rfl) ?_
                      refine lv_iadd hx hb dX12_early_142 ?_
                      refine lv_topi (fun x_34 ex_34 => ?_)
                      obtain rfl : x_34 = iZ ((60 * x3) + v5_119) := ex_34.trans (iZ_add (60 * x3) v5_119)
                      refine va_lald hx hb hK hP 2 2 rfl rfl (zin (e := ((60 * x3) + v5_119)) (n := 240) ⟨by omega, by omega⟩ (by decide)) dX12_early_143 ?_
                      refine lv_topl (fun y_35 ey_35 => ?_)
                      refine lv_aload_n hx hb dX12_early_144 rfl (lv_at hl 2 rfl) ?_
                      refine va_get (D := D) (ci := 12) (v := .ref Mk) (C := RX12) (T := TX12) (N := 36) hx hb hts iX12 hown hK hP 3 rfl rfl 24 (by decide) (hts _ qf_X12_47) (fun _ h => h) rfl dX12_early_145 ?_
                      refine lv_iload hx hb dX12_early_148 (lv_at hl 0 rfl) ?_
                      refine va_iald hx hb hK hP 5 1 rfl rfl (zin (e := v5_119) (n := 6) ⟨by omega, by omega⟩ (by decide)) dX12_early_150 ?_
                      refine lv_topi (fun x_36 ex_36 => ?_)
                      obtain rfl : x_36 = iZ (gz (F_19 0) v5_119) := ex_36.trans (gz_eq ⟨by omega, by omega⟩)
                      have h_37 := p_22 v5_119 (by omega) (by omega)
                      refine lv_i2l (v := (iZ (gz (F_19 0) v5_119)).toInt64) hx hb dX12_early_151 rfl ?_
                      refine W.lcmp hx hb dX12_early_152 ?_
                      refine lv_if_ge (tgt := 163) hx hb dX12_early_153 (by decide) (fun c_38 => ?_) (fun c_38 => ?_)
                      ·
                        refine lv_iconst (v := iZ 0) hx hb dX12_early_163 (by decide) ?_
                        refine lv_ior hx hb dX12_early_164 ?_
                        refine lv_topi (fun x_40 ex_40 => ?_)
                        obtain ⟨z_39, hz_39, hz_39a, hz_39b⟩ := i32_z x_40
                        subst hz_39
                        refine lv_istore (lv' := [(4, .int (iZ z_39)), (5, .int (iZ v5_119)), (0, .ref hm), (1, .int (iZ x1)), (2, .int (iZ x2)), (3, .int (iZ x3))]) hx hb dX12_early_165 hl (by decide) rfl (fun ls hl => ?_)
                        refine lv_iinc (v := iZ (v5_119 + 1)) (lv' := [(5, .int (iZ (v5_119 + 1))), (4, .int (iZ z_39)), (0, .ref hm), (1, .int (iZ x1)), (2, .int (iZ x2)), (3, .int (iZ x3))]) hx hb dX12_early_167 hl (k := 1) rfl (iZ_add v5_119 1) (by decide) rfl (fun ls hl => ?_)
                        refine lv_goto (tgt := 119) hx hb dX12_early_170 (by decide) ?_
                        exact ih119  z_39 (v5_119 + 1) _ _ _ (by omega) (show (0 ≤ (v5_119 + 1) ∧ (v5_119 + 1) ≤ (gz Af 0) + 1) from ⟨by omega, by omega⟩) (show -2147483648 ≤ z_39 ∧ z_39 < 2147483648 from (by omega)) (hP.sub [0, 1, 2, 3, 4, 5, 6, 7] rfl) (hD.sub [0, 1, 2, 3, 4, 5, 6, 7] rfl rfl) hS (lv_sub hl [0, 1, 2, 3, 4, 5] rfl)
                      ·
                        refine lv_iconst (v := iZ 1) hx hb dX12_early_156 (by decide) ?_
                        refine lv_iload hx hb dX12_early_157 (lv_at hl 0 rfl) ?_
                        refine lv_ishl hx hb dX12_early_159 ?_
                        refine lv_topi (fun x_42 ex_42 => ?_)
                        obtain ⟨z_41, hz_41, hz_41a, hz_41b⟩ := i32_z x_42
                        subst hz_41
                        refine lv_goto (tgt := 164) hx hb dX12_early_160 (by decide) ?_
                        refine lv_ior hx hb dX12_early_164 ?_
                        refine lv_topi (fun x_44 ex_44 => ?_)
                        obtain ⟨z_43, hz_43, hz_43a, hz_43b⟩ := i32_z x_44
                        subst hz_43
                        refine lv_istore (lv' := [(4, .int (iZ z_43)), (5, .int (iZ v5_119)), (0, .ref hm), (1, .int (iZ x1)), (2, .int (iZ x2)), (3, .int (iZ x3))]) hx hb dX12_early_165 hl (by decide) rfl (fun ls hl => ?_)
                        refine lv_iinc (v := iZ (v5_119 + 1)) (lv' := [(5, .int (iZ (v5_119 + 1))), (4, .int (iZ z_43)), (0, .ref hm), (1, .int (iZ x1)), (2, .int (iZ x2)), (3, .int (iZ x3))]) hx hb dX12_early_167 hl (k := 1) rfl (iZ_add v5_119 1) (by decide) rfl (fun ls hl => ?_)
                        refine lv_goto (tgt := 119) hx hb dX12_early_170 (by decide) ?_
                        exact ih119  z_43 (v5_119 + 1) _ _ _ (by omega) (show (0 ≤ (v5_119 + 1) ∧ (v5_119 + 1) ≤ (gz Af 0) + 1) from ⟨by omega, by omega⟩) (show -2147483648 ≤ z_43 ∧ z_43 < 2147483648 from (by omega)) (hP.sub [0, 1, 2, 3, 4, 5, 6, 7] rfl) (hD.sub [0, 1, 2, 3, 4, 5, 6, 7] rfl rfl) hS (lv_sub hl [0, 1, 2, 3, 4, 5] rfl)
                exact HL119 10 0 0 _ _ _ (by omega) (show (0 ≤ 0 ∧ 0 ≤ (gz Af 0) + 1) from ⟨by omega, by omega⟩) (show -2147483648 ≤ 0 ∧ 0 < 2147483648 from (by omega)) (hP.sub [0, 1, 2, 3, 4, 5, 6, 7] rfl) (hD.sub [0, 1, 2, 3, 4, 5, 6, 7] rfl rfl) hS (lv_sub hl [0, 1, 2, 3, 4, 5] rfl)
              ·
                have c_15 := mt (zle (x := iZ (gz Af 0)) (y := iZ v4_62) rfl rfl ⟨by omega, by omega⟩ ⟨by omega, by omega⟩).mpr c_15
                refine lv_aload_n hx hb dX12_early_73 rfl (lv_at hl 1 rfl) ?_
                refine va_get (D := D) (ci := 12) (v := .ref Mt) (C := RX12) (T := TX12) (N := 36) hx hb hts iX12 hown hK hP 0 rfl rfl 7 (by decide) (hts _ qf_X12_27) (fun _ h => h) rfl dX12_early_74 ?_
                refine lv_bipush (v := iZ 60) hx hb dX12_early_77 (by decide) ?_
                refine lv_iload_n hx hb dX12_early_79 rfl (lv_at hl 4 rfl) ?_
                refine lv_imul hx hb dX12_early_80 ?_
                refine lv_topi (fun x_45 ex_45 => ?_)
                obtain rfl : x_45 = iZ (60 * x3) := ex_45.trans (iZ_mul 60 x3)
                refine lv_iload hx hb dX12_early_81 (lv_at hl 0 rfl) ?_
                refine lv_iadd hx hb dX12_early_83 ?_
                refine lv_topi (fun x_46 ex_46 => ?_)
                obtain rfl : x_46 = iZ ((60 * x3) + v4_62) := ex_46.trans (iZ_add (60 * x3) v4_62)
                refine va_lald hx hb hK hP 7 2 rfl rfl (zin (e := ((60 * x3) + v4_62)) (n := 240) ⟨by omega, by omega⟩ (by decide)) dX12_early_84 ?_
                refine lv_topl (fun y_47 ey_47 => ?_)
                refine lv_lconst (v := 0) hx hb dX12_early_85 rfl ?_
                refine lv_ldc2 (own := RX12) (v := 500) hx hb hown (hts _ qk_X12_309) dX12_early_86 ?_
                refine CPS (As := [.long y_47, .long 0, .long 500]) (rest := []) hx hb hml hown hts hKK (hP.sub (ws' := []) [] rfl) (m_isFrom l D k y_47 0 500) ci_X12_isFrom qm_X12_295 ⟨Nat.le_of_ble_eq_true rfl, Nat.le_of_ble_eq_true rfl⟩ ⟨Nat.le_of_ble_eq_true rfl, Nat.le_of_ble_eq_true rfl⟩ rfl hl.1 rfl (Nat.le_of_ble_eq_true rfl) dX12_early_89 (fun z_48 hz_48 => ?_)
                have tt_49_z_48 := show (0 : Int64).toInt = 0 from (by decide)
                have tt_50_z_48 := show (500 : Int64).toInt = 500 from (by decide)
                rcases hz_48 with ⟨qz_48, hz_48⟩ | ⟨qz_48, hz_48⟩
                ·
                  subst qz_48
                  refine lv_if_ne (tgt := 101) hx hb dX12_early_92 (by decide) (fun _ => ?_) (fun c => absurd c (by decide))
                  refine lv_iinc (v := iZ (v4_62 + 1)) (lv' := [(4, .int (iZ (v4_62 + 1))), (0, .ref hm), (1, .int (iZ x1)), (2, .int (iZ x2)), (3, .int (iZ x3))]) hx hb dX12_early_101 hl (k := 0) rfl (iZ_add v4_62 1) (by decide) rfl (fun ls hl => ?_)
                  refine lv_goto (tgt := 62) hx hb dX12_early_104 (by decide) ?_
                  exact ih62  (v4_62 + 1) _ _ _ (by omega) (show (0 ≤ (v4_62 + 1) ∧ (v4_62 + 1) ≤ (gz Af 0) + 1) from ⟨by omega, by omega⟩) (hP.sub [0, 1, 2, 3, 4, 5, 6, 7] rfl) (hD.sub [0, 1, 2, 3, 4, 5, 6, 7] rfl rfl) hS (lv_sub hl [0, 1, 2, 3, 4] rfl)
                ·
                  subst qz_48
                  refine lv_if_ne (tgt := 101) hx hb dX12_early_92 (by decide) (fun c => absurd (by decide) c) (fun _ => ?_)
                  refine lv_aload_n hx hb dX12_early_95 rfl (lv_at hl 1 rfl) ?_
                  refine lv_iconst (v := iZ 5) hx hb dX12_early_96 (by decide) ?_
                  refine CWV (As := [.int (iZ 5)]) (rest := []) (wc := [(hm, .inr (12, [.ref Ma, .ref Mn, .int (iZ Mst), .long Mtp, .long Mbt, .ref Ms, .ref My, .ref Mt, .ref Mp, .ref Mx, .int (iZ Mtd), .int (iZ Msz), .int (iZ Mtk), .int (iZ Mfr), .int (iZ Men), .int (iZ Mva), .int (iZ Mfk), .int (iZ Mfp), .int (iZ Mfs), .int (iZ Mse), .int (iZ Mlt), .ref Mo, .int (iZ Mdp), .int (iZ Mct), .ref Mk, .ref Ml, .ref Mb, .ref Mh, .ref Mc, .int (iZ Mdr), .int (iZ Mrs), .ref Mz, .ref Mr, .ref Mq, .int (iZ Mit), .int (iZ Mmk)]))]) (wr := [(Ma, .inl (k 1, 5340, .inl Af)), (Mk, .inl (k 1, 6, .inl Kf)), (Ml, .inl (k 1, 6, .inl Lf)), (Mb, .inl (k 1, 6, .inl Bf)), (Ms, .inl (k 1, 4, .inl Sf)), (My, .inl (k 1, 4, .inl Yf)), (Mt, .inl (k 2, 240, .inr (.inl Tf)))]) hx hb hml hown hts hKK hP hD hS hA (m_refuse l D k hm Ma Mn Ms My Mt Mp Mx Mo Mk Ml Mb Mh Mc Mz Mr Mq Mst Mtd Msz Mtk Mfr Men Mva Mfk Mfp Mfs Mse Mlt Mdp Mct Mdr Mrs Mit Mmk Mtp Mbt 5) ci_X12_refuse qm_X12_81 ⟨Nat.le_of_ble_eq_true rfl, Nat.le_of_ble_eq_true rfl⟩ ⟨Nat.le_of_ble_eq_true rfl, Nat.le_of_ble_eq_true rfl⟩ [0] [1, 2, 3, 4, 5, 6, 7] rfl rfl rfl rfl rfl (by decide) 0 rfl rfl rfl hl.1 rfl (Nat.le_of_ble_eq_true rfl) dX12_early_97 (fun u_53 H locs hφ hP hD hS => ?_)
                  obtain ⟨I_54, L_55, F_56, G_57⟩ := u_53
                  refine W.eq (g2 := F0 m 100 ls [.int (iZ (-1))]) rfl ?_
                  exact EWi hx hb hr hlocks hS (fun i => [(-1), 5].getD i 0, fun i => [0].getD i 0, fun i => [Kf, Lf, Bf].getD i (fun _ => 0), fun i => [].getD i (fun _ => 0)) rfl trivial (hP.sub [7, 0, 1, 2, 3, 4, 5, 6] rfl) (hD.sub [7, 0, 1, 2, 3, 4, 5, 6] rfl rfl) dX12_early_100
          exact HL62 10 0 _ _ _ (by omega) (show (0 ≤ 0 ∧ 0 ≤ (gz Af 0) + 1) from ⟨by omega, by omega⟩) (hP.sub [0, 1, 2, 3, 4, 5, 6, 7] rfl) (hD.sub [0, 1, 2, 3, 4, 5, 6, 7] rfl rfl) hS (lv_sub hl [0, 1, 2, 3, 4] rfl)
        ·
          have c_12 := mt (zle (x := iZ (gz Af 0)) (y := iZ (gz Yf x3)) rfl rfl ⟨by omega, by omega⟩ ⟨by omega, by omega⟩).mpr c_12
          refine lv_aload_n hx hb dX12_early_53 rfl (lv_at hl 0 rfl) ?_
          refine lv_iconst (v := iZ 3) hx hb dX12_early_54 (by decide) ?_
          refine CWV (As := [.int (iZ 3)]) (rest := []) (wc := [(hm, .inr (12, [.ref Ma, .ref Mn, .int (iZ Mst), .long Mtp, .long Mbt, .ref Ms, .ref My, .ref Mt, .ref Mp, .ref Mx, .int (iZ Mtd), .int (iZ Msz), .int (iZ Mtk), .int (iZ Mfr), .int (iZ Men), .int (iZ Mva), .int (iZ Mfk), .int (iZ Mfp), .int (iZ Mfs), .int (iZ Mse), .int (iZ Mlt), .ref Mo, .int (iZ Mdp), .int (iZ Mct), .ref Mk, .ref Ml, .ref Mb, .ref Mh, .ref Mc, .int (iZ Mdr), .int (iZ Mrs), .ref Mz, .ref Mr, .ref Mq, .int (iZ Mit), .int (iZ Mmk)]))]) (wr := [(Ma, .inl (k 1, 5340, .inl Af)), (Mk, .inl (k 1, 6, .inl Kf)), (Ml, .inl (k 1, 6, .inl Lf)), (Mb, .inl (k 1, 6, .inl Bf)), (Ms, .inl (k 1, 4, .inl Sf)), (My, .inl (k 1, 4, .inl Yf)), (Mt, .inl (k 2, 240, .inr (.inl Tf)))]) hx hb hml hown hts hKK hP hD hS hA (m_refuse l D k hm Ma Mn Ms My Mt Mp Mx Mo Mk Ml Mb Mh Mc Mz Mr Mq Mst Mtd Msz Mtk Mfr Men Mva Mfk Mfp Mfs Mse Mlt Mdp Mct Mdr Mrs Mit Mmk Mtp Mbt 3) ci_X12_refuse qm_X12_81 ⟨Nat.le_of_ble_eq_true rfl, Nat.le_of_ble_eq_true rfl⟩ ⟨Nat.le_of_ble_eq_true rfl, Nat.le_of_ble_eq_true rfl⟩ [0] [1, 2, 3, 4, 5, 6, 7] rfl rfl rfl rfl rfl (by decide) 0 rfl rfl rfl hl.1 rfl (Nat.le_of_ble_eq_true rfl) dX12_early_55 (fun u_59 H locs hφ hP hD hS => ?_)
          obtain ⟨I_60, L_61, F_62, G_63⟩ := u_59
          refine W.eq (g2 := F0 m 58 ls [.int (iZ (-1))]) rfl ?_
          exact EWi hx hb hr hlocks hS (fun i => [(-1), 3].getD i 0, fun i => [0].getD i 0, fun i => [Kf, Lf, Bf].getD i (fun _ => 0), fun i => [].getD i (fun _ => 0)) rfl trivial (hP.sub [7, 0, 1, 2, 3, 4, 5, 6] rfl) (hD.sub [7, 0, 1, 2, 3, 4, 5, 6] rfl rfl) dX12_early_58
      ·
        have c_7 := (zeq (x := iZ (gz Yf x3)) (y := iZ (-1)) rfl rfl ⟨by omega, by omega⟩ ⟨by omega, by omega⟩).mp c_7
        refine lv_aload_n hx hb dX12_early_32 rfl (lv_at hl 0 rfl) ?_
        refine lv_iconst (v := iZ 2) hx hb dX12_early_33 (by decide) ?_
        refine CWV (As := [.int (iZ 2)]) (rest := []) (wc := [(hm, .inr (12, [.ref Ma, .ref Mn, .int (iZ Mst), .long Mtp, .long Mbt, .ref Ms, .ref My, .ref Mt, .ref Mp, .ref Mx, .int (iZ Mtd), .int (iZ Msz), .int (iZ Mtk), .int (iZ Mfr), .int (iZ Men), .int (iZ Mva), .int (iZ Mfk), .int (iZ Mfp), .int (iZ Mfs), .int (iZ Mse), .int (iZ Mlt), .ref Mo, .int (iZ Mdp), .int (iZ Mct), .ref Mk, .ref Ml, .ref Mb, .ref Mh, .ref Mc, .int (iZ Mdr), .int (iZ Mrs), .ref Mz, .ref Mr, .ref Mq, .int (iZ Mit), .int (iZ Mmk)]))]) (wr := [(Ma, .inl (k 1, 5340, .inl Af)), (Mk, .inl (k 1, 6, .inl Kf)), (Ml, .inl (k 1, 6, .inl Lf)), (Mb, .inl (k 1, 6, .inl Bf)), (Ms, .inl (k 1, 4, .inl Sf)), (My, .inl (k 1, 4, .inl Yf)), (Mt, .inl (k 2, 240, .inr (.inl Tf)))]) hx hb hml hown hts hKK hP hD hS hA (m_refuse l D k hm Ma Mn Ms My Mt Mp Mx Mo Mk Ml Mb Mh Mc Mz Mr Mq Mst Mtd Msz Mtk Mfr Men Mva Mfk Mfp Mfs Mse Mlt Mdp Mct Mdr Mrs Mit Mmk Mtp Mbt 2) ci_X12_refuse qm_X12_81 ⟨Nat.le_of_ble_eq_true rfl, Nat.le_of_ble_eq_true rfl⟩ ⟨Nat.le_of_ble_eq_true rfl, Nat.le_of_ble_eq_true rfl⟩ [0] [1, 2, 3, 4, 5, 6, 7] rfl rfl rfl rfl rfl (by decide) 0 rfl rfl rfl hl.1 rfl (Nat.le_of_ble_eq_true rfl) dX12_early_34 (fun u_65 H locs hφ hP hD hS => ?_)
        obtain ⟨I_66, L_67, F_68, G_69⟩ := u_65
        refine W.eq (g2 := F0 m 37 ls [.int (iZ (-1))]) rfl ?_
        exact EWi hx hb hr hlocks hS (fun i => [(-1), 2].getD i 0, fun i => [0].getD i 0, fun i => [Kf, Lf, Bf].getD i (fun _ => 0), fun i => [].getD i (fun _ => 0)) rfl trivial (hP.sub [7, 0, 1, 2, 3, 4, 5, 6] rfl) (hD.sub [7, 0, 1, 2, 3, 4, 5, 6] rfl rfl) dX12_early_37
    ·
      subst qz_3
      refine lv_if_ne (tgt := 22) hx hb dX12_early_13 (by decide) (fun c => absurd (by decide) c) (fun _ => ?_)
      refine lv_aload_n hx hb dX12_early_16 rfl (lv_at hl 0 rfl) ?_
      refine lv_iconst (v := iZ 1) hx hb dX12_early_17 (by decide) ?_
      refine CWV (As := [.int (iZ 1)]) (rest := []) (wc := [(hm, .inr (12, [.ref Ma, .ref Mn, .int (iZ Mst), .long Mtp, .long Mbt, .ref Ms, .ref My, .ref Mt, .ref Mp, .ref Mx, .int (iZ Mtd), .int (iZ Msz), .int (iZ Mtk), .int (iZ Mfr), .int (iZ Men), .int (iZ Mva), .int (iZ Mfk), .int (iZ Mfp), .int (iZ Mfs), .int (iZ Mse), .int (iZ Mlt), .ref Mo, .int (iZ Mdp), .int (iZ Mct), .ref Mk, .ref Ml, .ref Mb, .ref Mh, .ref Mc, .int (iZ Mdr), .int (iZ Mrs), .ref Mz, .ref Mr, .ref Mq, .int (iZ Mit), .int (iZ Mmk)]))]) (wr := [(Ma, .inl (k 1, 5340, .inl Af)), (Mk, .inl (k 1, 6, .inl Kf)), (Ml, .inl (k 1, 6, .inl Lf)), (Mb, .inl (k 1, 6, .inl Bf)), (Ms, .inl (k 1, 4, .inl Sf)), (My, .inl (k 1, 4, .inl Yf)), (Mt, .inl (k 2, 240, .inr (.inl Tf)))]) hx hb hml hown hts hKK hP hD hS hA (m_refuse l D k hm Ma Mn Ms My Mt Mp Mx Mo Mk Ml Mb Mh Mc Mz Mr Mq Mst Mtd Msz Mtk Mfr Men Mva Mfk Mfp Mfs Mse Mlt Mdp Mct Mdr Mrs Mit Mmk Mtp Mbt 1) ci_X12_refuse qm_X12_81 ⟨Nat.le_of_ble_eq_true rfl, Nat.le_of_ble_eq_true rfl⟩ ⟨Nat.le_of_ble_eq_true rfl, Nat.le_of_ble_eq_true rfl⟩ [0] [1, 2, 3, 4, 5, 6, 7] rfl rfl rfl rfl rfl (by decide) 0 rfl rfl rfl hl.1 rfl (Nat.le_of_ble_eq_true rfl) dX12_early_18 (fun u_72 H locs hφ hP hD hS => ?_)
      obtain ⟨I_73, L_74, F_75, G_76⟩ := u_72
      refine W.eq (g2 := F0 m 21 ls [.int (iZ (-1))]) rfl ?_
      exact EWi hx hb hr hlocks hS (fun i => [(-1), 1].getD i 0, fun i => [0].getD i 0, fun i => [Kf, Lf, Bf].getD i (fun _ => 0), fun i => [].getD i (fun _ => 0)) rfl trivial (hP.sub [7, 0, 1, 2, 3, 4, 5, 6] rfl) (hD.sub [7, 0, 1, 2, 3, 4, 5, 6] rfl rfl) dX12_early_21
  ·
    subst qz_1
    refine lv_if_eq (tgt := 16) hx hb dX12_early_6 (by decide) (fun _ => ?_) (fun c => absurd (by decide) c)
    refine lv_aload_n hx hb dX12_early_16 rfl (lv_at hl 0 rfl) ?_
    refine lv_iconst (v := iZ 1) hx hb dX12_early_17 (by decide) ?_
    refine CWV (As := [.int (iZ 1)]) (rest := []) (wc := [(hm, .inr (12, [.ref Ma, .ref Mn, .int (iZ Mst), .long Mtp, .long Mbt, .ref Ms, .ref My, .ref Mt, .ref Mp, .ref Mx, .int (iZ Mtd), .int (iZ Msz), .int (iZ Mtk), .int (iZ Mfr), .int (iZ Men), .int (iZ Mva), .int (iZ Mfk), .int (iZ Mfp), .int (iZ Mfs), .int (iZ Mse), .int (iZ Mlt), .ref Mo, .int (iZ Mdp), .int (iZ Mct), .ref Mk, .ref Ml, .ref Mb, .ref Mh, .ref Mc, .int (iZ Mdr), .int (iZ Mrs), .ref Mz, .ref Mr, .ref Mq, .int (iZ Mit), .int (iZ Mmk)]))]) (wr := [(Ma, .inl (k 1, 5340, .inl Af)), (Mk, .inl (k 1, 6, .inl Kf)), (Ml, .inl (k 1, 6, .inl Lf)), (Mb, .inl (k 1, 6, .inl Bf)), (Ms, .inl (k 1, 4, .inl Sf)), (My, .inl (k 1, 4, .inl Yf)), (Mt, .inl (k 2, 240, .inr (.inl Tf)))]) hx hb hml hown hts hKK hP hD hS hA (m_refuse l D k hm Ma Mn Ms My Mt Mp Mx Mo Mk Ml Mb Mh Mc Mz Mr Mq Mst Mtd Msz Mtk Mfr Men Mva Mfk Mfp Mfs Mse Mlt Mdp Mct Mdr Mrs Mit Mmk Mtp Mbt 1) ci_X12_refuse qm_X12_81 ⟨Nat.le_of_ble_eq_true rfl, Nat.le_of_ble_eq_true rfl⟩ ⟨Nat.le_of_ble_eq_true rfl, Nat.le_of_ble_eq_true rfl⟩ [0] [1, 2, 3, 4, 5, 6, 7] rfl rfl rfl rfl rfl (by decide) 0 rfl rfl rfl hl.1 rfl (Nat.le_of_ble_eq_true rfl) dX12_early_18 (fun u_79 H locs hφ hP hD hS => ?_)
    obtain ⟨I_80, L_81, F_82, G_83⟩ := u_79
    refine W.eq (g2 := F0 m 21 ls [.int (iZ (-1))]) rfl ?_
    exact EWi hx hb hr hlocks hS (fun i => [(-1), 1].getD i 0, fun i => [0].getD i 0, fun i => [Kf, Lf, Bf].getD i (fun _ => 0), fun i => [].getD i (fun _ => 0)) rfl trivial (hP.sub [7, 0, 1, 2, 3, 4, 5, 6] rfl) (hD.sub [7, 0, 1, 2, 3, 4, 5, 6] rfl rfl) dX12_early_21
