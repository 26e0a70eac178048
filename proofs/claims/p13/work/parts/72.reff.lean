set_option maxHeartbeats 4000000 in
set_option maxRecDepth 100000 in
theorem m_setBy (l : Launch) (D : va_G) (k : Nat → ClassId) (fs : List Value) (hm : Nat) (Ma : Nat) (Mk : Nat) (Af : Nat → Int32) (Kf : Nat → Int32) (x : Int) (f0 : fs[0]? = some (.ref Ma)) (f24 : fs[24]? = some (.ref Mk)) (hM : M0 Af) (h9x : -2147483648 ≤ x ∧ x < 2147483648) : RP l yX12_setBy cX12_setBy 4 (some .int) 0 D k [.ref hm, .int (iZ x)] [(hm, .inr (12, fs)), (Ma, .inl (k 1, 5340, .inl Af)), (Mk, .inl (k 1, 6, .inl Kf))] (fun z => iZ z = bS (fun r => gz Kf r ≤ x) (gz Af 0).toNat ∧ (-2147483648 ≤ z ∧ z < 2147483648)) := by
  refine MRP (by decide) (Nat.le_of_ble_eq_true rfl) (fun p e s m below meth c ls hx hb hml hr hlocks hts hown hKK hP hl => ?_)
  have hK := hKK.1
  have hl : lv_has ls 4 [(0, .ref hm), (1, .int (iZ x))] := hl
  obtain ⟨m0, m1, m3, m4, m5, mF, mO, mS⟩ := id hM
  refine lv_iconst (v := iZ 0) hx hb dX12_setBy_0 rfl ?_
  refine lv_istore_n (lv' := [(2, .int (iZ 0)), (0, .ref hm), (1, .int (iZ x))]) hx hb dX12_setBy_1 rfl hl (bl rfl) rfl (fun ls hl => ?_)
  refine lv_iconst (v := iZ 0) hx hb dX12_setBy_2 rfl ?_
  refine lv_istore_n (lv' := [(3, .int (iZ 0)), (2, .int (iZ 0)), (0, .ref hm), (1, .int (iZ x))]) hx hb dX12_setBy_3 rfl hl (bl rfl) rfl (fun ls hl => ?_)
  have HL4 : ∀ (fu : Nat) (v2_4 : Int) (v3_4 : Int) (ls : Array Slot), ((gz Af 0) + 2 - v3_4) < (fu : Int) → ((0 ≤ v3_4 ∧ v3_4 ≤ (gz Af 0) + 1)) → (-2147483648 ≤ v2_4 ∧ v2_4 < 2147483648) → (iZ v2_4 = bS (fun r => gz Kf r ≤ x) (Int.toNat (v3_4))) → (v3_4 ≤ gz Af 0) → lv_has ls 4 [(3, .int (iZ v3_4)), (2, .int (iZ v2_4)), (0, .ref hm), (1, .int (iZ x))] → W p l e (rj 0 0 0) s m [.ref hm, .int (iZ x)].toArray below meth c s.heap [] 0 0 (MQ below (QcP (fun z => iZ z = bS (fun r => gz Kf r ≤ x) (gz Af 0).toNat ∧ (-2147483648 ≤ z ∧ z < 2147483648))) [.ref hm, .int (iZ x)].toArray s 0 0 (fun _ => False)) (F0 m 4 ls []) := by
    intro fu
    induction fu with
    | zero => intro v2_4 v3_4 ls hμ4 hi4 hf0_4 hst hbn hl; exact absurd hμ4 (by omega)
    | succ fu ih4 =>
      intro v2_4 v3_4 ls hμ4 hi4 hf0_4 hst hbn hl
      refine lv_iload_n hx hb dX12_setBy_4 rfl (lv_at hl 0 rfl) ?_
      refine lv_aload_n hx hb dX12_setBy_5 rfl (lv_at hl 2 rfl) ?_
      refine va_get (D := D) (ci := 12) (v := .ref Ma) (C := RX12) (T := TX12) (N := 36) hx hb hts iX12 hown hK hP 0 rfl rfl 0 (bl rfl) (hts _ qf_X12_7) (fun _ h => h) f0 dX12_setBy_6 ?_
      refine lv_iconst (v := iZ 0) hx hb dX12_setBy_9 rfl ?_
      refine va_iald hx hb hK hP 1 1 rfl rfl (zin (e := 0) (n := 5340) ⟨by omega, by omega⟩ (bl rfl)) dX12_setBy_10 ?_
      refine lv_topi (fun x_1 ex_1 => ?_)
      obtain rfl : x_1 = iZ (gz Af 0) := ex_1.trans (gz_eq ⟨by omega, by omega⟩)
      have h_2 := gz_rg Af 0
      refine lv_icmp_ge (tgt := 40) hx hb dX12_setBy_11 rfl (fun c_3 => ?_) (fun c_3 => ?_)
      ·
        have c_3 := (zle (x := iZ (gz Af 0)) (y := iZ v3_4) rfl rfl (gz_rg Af 0) ⟨by omega, by omega⟩).mp c_3
        refine lv_iload_n hx hb dX12_setBy_40 rfl (lv_at hl 1 rfl) ?_
        exact EPi hx hb hr hlocks ⟨sB_e hst (by omega), by omega, by omega⟩ dX12_setBy_41
      ·
        have c_3 := mt (zle (x := iZ (gz Af 0)) (y := iZ v3_4) rfl rfl (gz_rg Af 0) ⟨by omega, by omega⟩).mpr c_3
        refine lv_iload_n hx hb dX12_setBy_14 rfl (lv_at hl 1 rfl) ?_
        refine lv_aload_n hx hb dX12_setBy_15 rfl (lv_at hl 2 rfl) ?_
        refine va_get (D := D) (ci := 12) (v := .ref Mk) (C := RX12) (T := TX12) (N := 36) hx hb hts iX12 hown hK hP 0 rfl rfl 24 (bl rfl) (hts _ qf_X12_47) (fun _ h => h) f24 dX12_setBy_16 ?_
        refine lv_iload_n hx hb dX12_setBy_19 rfl (lv_at hl 0 rfl) ?_
        refine va_iald hx hb hK hP 2 1 rfl rfl (zin (e := v3_4) (n := 6) ⟨by omega, by omega⟩ (bl rfl)) dX12_setBy_20 ?_
        refine lv_topi (fun x_4 ex_4 => ?_)
        obtain rfl : x_4 = iZ (gz Kf v3_4) := ex_4.trans (gz_eq ⟨by omega, by omega⟩)
        have h_5 := gz_rg Kf v3_4
        refine lv_iload_n hx hb dX12_setBy_21 rfl (lv_at hl 3 rfl) ?_
        refine lv_icmp_gt (tgt := 31) hx hb dX12_setBy_22 rfl (fun c_6 => ?_) (fun c_6 => ?_)
        ·
          have c_6 := (zlt (x := iZ x) (y := iZ (gz Kf v3_4)) rfl rfl ⟨by omega, by omega⟩ (gz_rg Kf v3_4)).mp c_6
          refine lv_iconst (v := iZ 0) hx hb dX12_setBy_31 rfl ?_
          refine lv_ior hx hb dX12_setBy_32 ?_
          refine lv_topi (fun x_8 ex_8 => ?_)
          obtain ⟨z_7, hz_7, hz_7a, hz_7b⟩ := i32_z x_8
          subst hz_7
          refine lv_istore_n (lv' := [(2, .int (iZ z_7)), (3, .int (iZ v3_4)), (0, .ref hm), (1, .int (iZ x))]) hx hb dX12_setBy_33 rfl hl (bl rfl) rfl (fun ls hl => ?_)
          refine lv_iinc (v := iZ (v3_4 + 1)) (lv' := [(3, .int (iZ (v3_4 + 1))), (2, .int (iZ z_7)), (0, .ref hm), (1, .int (iZ x))]) hx hb dX12_setBy_34 hl (k := 1) rfl (iZ_add v3_4 1) (by decide) rfl (fun ls hl => ?_)
          refine lv_goto (tgt := 4) hx hb dX12_setBy_37 rfl ?_
          exact ih4  z_7 (v3_4 + 1) _ (by omega) (show (0 ≤ (v3_4 + 1) ∧ (v3_4 + 1) ≤ (gz Af 0) + 1) from ⟨by omega, by omega⟩) (show -2147483648 ≤ z_7 ∧ z_7 < 2147483648 from (by omega)) (show iZ z_7 = bS (fun r => gz Kf r ≤ x) (Int.toNat ((v3_4 + 1))) from (by first | exact sB_y hst (by omega) (show gz Kf v3_4 ≤ x from by omega) ex_8 ex_8 | exact sB_r hst (by omega) (show ¬ gz Kf v3_4 ≤ x from by omega) ex_8)) (show (v3_4 + 1) ≤ gz Af 0 from (by omega)) (lv_sub hl [0, 1, 2, 3] rfl)
        ·
          have c_6 := mt (zlt (x := iZ x) (y := iZ (gz Kf v3_4)) rfl rfl ⟨by omega, by omega⟩ (gz_rg Kf v3_4)).mpr c_6
          refine lv_iconst (v := iZ 1) hx hb dX12_setBy_25 rfl ?_
          refine lv_iload_n hx hb dX12_setBy_26 rfl (lv_at hl 0 rfl) ?_
          refine lv_ishl hx hb dX12_setBy_27 ?_
          refine lv_topi (fun x_10 ex_10 => ?_)
          obtain ⟨z_9, hz_9, hz_9a, hz_9b⟩ := i32_z x_10
          subst hz_9
          refine lv_goto (tgt := 32) hx hb dX12_setBy_28 rfl ?_
          refine lv_ior hx hb dX12_setBy_32 ?_
          refine lv_topi (fun x_12 ex_12 => ?_)
          obtain ⟨z_11, hz_11, hz_11a, hz_11b⟩ := i32_z x_12
          subst hz_11
          refine lv_istore_n (lv' := [(2, .int (iZ z_11)), (3, .int (iZ v3_4)), (0, .ref hm), (1, .int (iZ x))]) hx hb dX12_setBy_33 rfl hl (bl rfl) rfl (fun ls hl => ?_)
          refine lv_iinc (v := iZ (v3_4 + 1)) (lv' := [(3, .int (iZ (v3_4 + 1))), (2, .int (iZ z_11)), (0, .ref hm), (1, .int (iZ x))]) hx hb dX12_setBy_34 hl (k := 1) rfl (iZ_add v3_4 1) (by decide) rfl (fun ls hl => ?_)
          refine lv_goto (tgt := 4) hx hb dX12_setBy_37 rfl ?_
          exact ih4  z_11 (v3_4 + 1) _ (by omega) (show (0 ≤ (v3_4 + 1) ∧ (v3_4 + 1) ≤ (gz Af 0) + 1) from ⟨by omega, by omega⟩) (show -2147483648 ≤ z_11 ∧ z_11 < 2147483648 from (by omega)) (show iZ z_11 = bS (fun r => gz Kf r ≤ x) (Int.toNat ((v3_4 + 1))) from (by first | exact sB_y hst (by omega) (show gz Kf v3_4 ≤ x from by omega) ex_10 ex_12 | exact sB_r hst (by omega) (show ¬ gz Kf v3_4 ≤ x from by omega) ex_12)) (show (v3_4 + 1) ≤ gz Af 0 from (by omega)) (lv_sub hl [0, 1, 2, 3] rfl)
  exact HL4 10 0 0 _ (by omega) (show (0 ≤ 0 ∧ 0 ≤ (gz Af 0) + 1) from ⟨by omega, by omega⟩) (show -2147483648 ≤ 0 ∧ 0 < 2147483648 from (by omega)) (show iZ 0 = bS (fun r => gz Kf r ≤ x) (Int.toNat (0)) from sB_0) (show 0 ≤ gz Af 0 from (by omega)) (lv_sub hl [0, 1, 2, 3] rfl)
set_option maxHeartbeats 4000000 in
set_option maxRecDepth 100000 in
theorem m_lastOne (l : Launch) (D : va_G) (k : Nat → ClassId) (fs : List Value) (hm : Nat) (Ma : Nat) (Mk : Nat) (Af : Nat → Int32) (Kf : Nat → Int32) (f0 : fs[0]? = some (.ref Ma)) (f24 : fs[24]? = some (.ref Mk)) (hM : M0 Af) : RP l yX12_lastOne cX12_lastOne 3 (some .int) 0 D k [.ref hm] [(hm, .inr (12, fs)), (Ma, .inl (k 1, 5340, .inl Af)), (Mk, .inl (k 1, 6, .inl Kf))] (fun z => (0 ≤ z ∧ (z < gz Af 0 ∨ z = 0)) ∧ (0 < gz Af 0 → isFM (gz Kf) (gz Af 0) z)) := by
  refine MRP (by decide) (Nat.le_of_ble_eq_true rfl) (fun p e s m below meth c ls hx hb hml hr hlocks hts hown hKK hP hl => ?_)
  have hK := hKK.1
  have hl : lv_has ls 3 [(0, .ref hm)] := hl
  obtain ⟨m0, m1, m3, m4, m5, mF, mO, mS⟩ := id hM
  refine lv_iconst (v := iZ 0) hx hb dX12_lastOne_0 rfl ?_
  refine lv_istore_n (lv' := [(1, .int (iZ 0)), (0, .ref hm)]) hx hb dX12_lastOne_1 rfl hl (bl rfl) rfl (fun ls hl => ?_)
  refine lv_iconst (v := iZ 1) hx hb dX12_lastOne_2 rfl ?_
  refine lv_istore_n (lv' := [(2, .int (iZ 1)), (1, .int (iZ 0)), (0, .ref hm)]) hx hb dX12_lastOne_3 rfl hl (bl rfl) rfl (fun ls hl => ?_)
  have HL4 : ∀ (fu : Nat) (v1_4 : Int) (v2_4 : Int) (ls : Array Slot), ((7) + 2 - v2_4) < (fu : Int) → ((1 ≤ v2_4 ∧ v2_4 ≤ (7) + 1)) → (0 ≤ v1_4 ∧ (v1_4 < gz Af 0 ∨ v1_4 = 0)) → (isFM (gz Kf) v2_4 v1_4) → (v2_4 ≤ max 1 (gz Af 0)) → lv_has ls 3 [(2, .int (iZ v2_4)), (1, .int (iZ v1_4)), (0, .ref hm)] → W p l e (rj 0 0 0) s m [.ref hm].toArray below meth c s.heap [] 0 0 (MQ below (QcP (fun z => (0 ≤ z ∧ (z < gz Af 0 ∨ z = 0)) ∧ (0 < gz Af 0 → isFM (gz Kf) (gz Af 0) z))) [.ref hm].toArray s 0 0 (fun _ => False)) (F0 m 4 ls []) := by
    intro fu
    induction fu with
    | zero => intro v1_4 v2_4 ls hμ4 hi4 hf0_4 hfm hbn hl; exact absurd hμ4 (by omega)
    | succ fu ih4 =>
      intro v1_4 v2_4 ls hμ4 hi4 hf0_4 hfm hbn hl
      refine lv_iload_n hx hb dX12_lastOne_4 rfl (lv_at hl 0 rfl) ?_
      refine lv_aload_n hx hb dX12_lastOne_5 rfl (lv_at hl 2 rfl) ?_
      refine va_get (D := D) (ci := 12) (v := .ref Ma) (C := RX12) (T := TX12) (N := 36) hx hb hts iX12 hown hK hP 0 rfl rfl 0 (bl rfl) (hts _ qf_X12_7) (fun _ h => h) f0 dX12_lastOne_6 ?_
      refine lv_iconst (v := iZ 0) hx hb dX12_lastOne_9 rfl ?_
      refine va_iald hx hb hK hP 1 1 rfl rfl (zin (e := 0) (n := 5340) ⟨by omega, by omega⟩ (bl rfl)) dX12_lastOne_10 ?_
      refine lv_topi (fun x_1 ex_1 => ?_)
      obtain rfl : x_1 = iZ (gz Af 0) := ex_1.trans (gz_eq ⟨by omega, by omega⟩)
      have h_2 := gz_rg Af 0
      refine lv_icmp_ge (tgt := 37) hx hb dX12_lastOne_11 rfl (fun c_3 => ?_) (fun c_3 => ?_)
      ·
        have c_3 := (zle (x := iZ (gz Af 0)) (y := iZ v2_4) rfl rfl (gz_rg Af 0) ⟨by omega, by omega⟩).mp c_3
        refine lv_iload_n hx hb dX12_lastOne_37 rfl (lv_at hl 1 rfl) ?_
        exact EPi hx hb hr hlocks ⟨by omega, fun h9 => by have e9 : v2_4 = gz Af 0 := (by omega); rw [← e9]; exact hfm⟩ dX12_lastOne_38
      ·
        have c_3 := mt (zle (x := iZ (gz Af 0)) (y := iZ v2_4) rfl rfl (gz_rg Af 0) ⟨by omega, by omega⟩).mpr c_3
        refine lv_aload_n hx hb dX12_lastOne_14 rfl (lv_at hl 2 rfl) ?_
        refine va_get (D := D) (ci := 12) (v := .ref Mk) (C := RX12) (T := TX12) (N := 36) hx hb hts iX12 hown hK hP 0 rfl rfl 24 (bl rfl) (hts _ qf_X12_47) (fun _ h => h) f24 dX12_lastOne_15 ?_
        refine lv_iload_n hx hb dX12_lastOne_18 rfl (lv_at hl 0 rfl) ?_
        refine va_iald hx hb hK hP 2 1 rfl rfl (zin (e := v2_4) (n := 6) ⟨by omega, by omega⟩ (bl rfl)) dX12_lastOne_19 ?_
        refine lv_topi (fun x_4 ex_4 => ?_)
        obtain rfl : x_4 = iZ (gz Kf v2_4) := ex_4.trans (gz_eq ⟨by omega, by omega⟩)
        have h_5 := gz_rg Kf v2_4
        refine lv_aload_n hx hb dX12_lastOne_20 rfl (lv_at hl 2 rfl) ?_
        refine va_get (D := D) (ci := 12) (v := .ref Mk) (C := RX12) (T := TX12) (N := 36) hx hb hts iX12 hown hK hP 0 rfl rfl 24 (bl rfl) (hts _ qf_X12_47) (fun _ h => h) f24 dX12_lastOne_21 ?_
        refine lv_iload_n hx hb dX12_lastOne_24 rfl (lv_at hl 1 rfl) ?_
        refine va_iald hx hb hK hP 2 1 rfl rfl (zin (e := v1_4) (n := 6) ⟨by omega, by omega⟩ (bl rfl)) dX12_lastOne_25 ?_
        refine lv_topi (fun x_6 ex_6 => ?_)
        obtain rfl : x_6 = iZ (gz Kf v1_4) := ex_6.trans (gz_eq ⟨by omega, by omega⟩)
        have h_7 := gz_rg Kf v1_4
        refine lv_icmp_le (tgt := 31) hx hb dX12_lastOne_26 rfl (fun c_8 => ?_) (fun c_8 => ?_)
        ·
          have c_8 := (zle (x := iZ (gz Kf v2_4)) (y := iZ (gz Kf v1_4)) rfl rfl (gz_rg Kf v2_4) (gz_rg Kf v1_4)).mp c_8
          refine lv_iinc (v := iZ (v2_4 + 1)) (lv' := [(2, .int (iZ (v2_4 + 1))), (1, .int (iZ v1_4)), (0, .ref hm)]) hx hb dX12_lastOne_31 hl (k := 0) rfl (iZ_add v2_4 1) (by decide) rfl (fun ls hl => ?_)
          refine lv_goto (tgt := 4) hx hb dX12_lastOne_34 rfl ?_
          exact ih4  v1_4 (v2_4 + 1) _ (by omega) (show (1 ≤ (v2_4 + 1) ∧ (v2_4 + 1) ≤ (7) + 1) from ⟨by omega, by omega⟩) (show 0 ≤ v1_4 ∧ (v1_4 < gz Af 0 ∨ v1_4 = 0) from (by omega)) (show isFM (gz Kf) (v2_4 + 1) v1_4 from (isFM_n hfm (by omega))) (show (v2_4 + 1) ≤ max 1 (gz Af 0) from (by omega)) (lv_sub hl [0, 1, 2] rfl)
        ·
          have c_8 := mt (zle (x := iZ (gz Kf v2_4)) (y := iZ (gz Kf v1_4)) rfl rfl (gz_rg Kf v2_4) (gz_rg Kf v1_4)).mpr c_8
          refine lv_iload_n hx hb dX12_lastOne_29 rfl (lv_at hl 0 rfl) ?_
          refine lv_istore_n (lv' := [(1, .int (iZ v2_4)), (2, .int (iZ v2_4)), (0, .ref hm)]) hx hb dX12_lastOne_30 rfl hl (bl rfl) rfl (fun ls hl => ?_)
          refine lv_iinc (v := iZ (v2_4 + 1)) (lv' := [(2, .int (iZ (v2_4 + 1))), (1, .int (iZ v2_4)), (0, .ref hm)]) hx hb dX12_lastOne_31 hl (k := 1) rfl (iZ_add v2_4 1) (by decide) rfl (fun ls hl => ?_)
          refine lv_goto (tgt := 4) hx hb dX12_lastOne_34 rfl ?_
          exact ih4  v2_4 (v2_4 + 1) _ (by omega) (show (1 ≤ (v2_4 + 1) ∧ (v2_4 + 1) ≤ (7) + 1) from ⟨by omega, by omega⟩) (show 0 ≤ v2_4 ∧ (v2_4 < gz Af 0 ∨ v2_4 = 0) from (by omega)) (show isFM (gz Kf) (v2_4 + 1) v2_4 from (isFM_u hfm (by omega) (by omega))) (show (v2_4 + 1) ≤ max 1 (gz Af 0) from (by omega)) (lv_sub hl [0, 1, 2] rfl)
  exact HL4 12 0 1 _ (by omega) (show (1 ≤ 1 ∧ 1 ≤ (7) + 1) from ⟨by omega, by omega⟩) (show 0 ≤ 0 ∧ (0 < gz Af 0 ∨ 0 = 0) from (by omega)) (show isFM (gz Kf) 1 0 from isFM_1) (show 1 ≤ max 1 (gz Af 0) from (by omega)) (lv_sub hl [0, 1, 2] rfl)
set_option maxHeartbeats 4000000 in
set_option maxRecDepth 100000 in
theorem q_knowing (l : Launch) (D : va_G) (k : Nat → ClassId) (hm : Nat) (Ma : Nat) (Mn : Nat) (Ms : Nat) (My : Nat) (Mt : Nat) (Mp : Nat) (Mx : Nat) (Mo : Nat) (Mk : Nat) (Ml : Nat) (Mb : Nat) (Mh : Nat) (Mc : Nat) (Mz : Nat) (Mr : Nat) (Mq : Nat) (Mst : Int) (Mtd : Int) (Msz : Int) (Mtk : Int) (Mfr : Int) (Men : Int) (Mva : Int) (Mfk : Int) (Mfp : Int) (Mfs : Int) (Mse : Int) (Mlt : Int) (Mdp : Int) (Mct : Int) (Mdr : Int) (Mrs : Int) (Mit : Int) (Mmk : Int) (Mtp : Int64) (Mbt : Int64) (Af : Nat → Int32) (Kf : Nat → Int32) (Lf : Nat → Int32) (Bf : Nat → Int32) (x1 : Int) (x2 : Int) (x3 : Int) (hM : M0 Af) (h9x1 : -2147483648 ≤ x1 ∧ x1 < 2147483648) (h9x2 : -2147483648 ≤ x2 ∧ x2 < 2147483648) (h9x3 : -2147483648 ≤ x3 ∧ x3 < 2147483648) : WD (σ := ((Int × Int) × (Int64) × ((Nat → Int32) × (Nat → Int32) × (Nat → Int32)) × (Unit))) l yX12_knowing cX12_knowing 4 (some .int) 6 0 0 D k [.ref hm, .int (iZ x1), .int (iZ x2), .int (iZ x3)] [(hm, .inr (12, [.ref Ma, .ref Mn, .int (iZ Mst), .long Mtp, .long Mbt, .ref Ms, .ref My, .ref Mt, .ref Mp, .ref Mx, .int (iZ Mtd), .int (iZ Msz), .int (iZ Mtk), .int (iZ Mfr), .int (iZ Men), .int (iZ Mva), .int (iZ Mfk), .int (iZ Mfp), .int (iZ Mfs), .int (iZ Mse), .int (iZ Mlt), .ref Mo, .int (iZ Mdp), .int (iZ Mct), .ref Mk, .ref Ml, .ref Mb, .ref Mh, .ref Mc, .int (iZ Mdr), .int (iZ Mrs), .ref Mz, .ref Mr, .ref Mq, .int (iZ Mit), .int (iZ Mmk)])), (Ma, .inl (k 1, 5340, .inl Af)), (Mk, .inl (k 1, 6, .inl Kf)), (Ml, .inl (k 1, 6, .inl Lf)), (Mb, .inl (k 1, 6, .inl Bf))] (fun u => some (.int (iZ u.1.1))) (fun u => (((0 ≤ x1 ∧ x1 < (gz Af 0)) ∧ (0 ≤ x2 ∧ x2 ≤ 400) ∧ (0 ≤ x3 ∧ x3 ≤ 500)) ∧ (iZ u.1.1 = bS (fun r => nwK (arF (sh Af 10) (sh Af 46) (gz Af 1)) (gz Af 0) x1 x2 r ≤ x3) (gz Af 0).toNat ∧ (-2147483648 ≤ u.1.1 ∧ u.1.1 < 2147483648))) ∨ (¬ ((0 ≤ x1 ∧ x1 < (gz Af 0)) ∧ (0 ≤ x2 ∧ x2 ≤ 400) ∧ (0 ≤ x3 ∧ x3 ≤ 500)) ∧ (u.1.1 : Int) = -1)) (fun u => [(hm, .inr (12, [.ref Ma, .ref Mn, .int (iZ u.1.2), .long Mtp, .long Mbt, .ref Ms, .ref My, .ref Mt, .ref Mp, .ref Mx, .int (iZ Mtd), .int (iZ Msz), .int (iZ Mtk), .int (iZ Mfr), .int (iZ Men), .int (iZ Mva), .int (iZ Mfk), .int (iZ Mfp), .int (iZ Mfs), .int (iZ Mse), .int (iZ Mlt), .ref Mo, .int (iZ Mdp), .int (iZ Mct), .ref Mk, .ref Ml, .ref Mb, .ref Mh, .ref Mc, .int (iZ Mdr), .int (iZ Mrs), .ref Mz, .ref Mr, .ref Mq, .int (iZ Mit), .int (iZ Mmk)])), (Ma, .inl (k 1, 5340, .inl Af)), (Mk, .inl (k 1, 6, .inl u.2.2.1.1)), (Ml, .inl (k 1, 6, .inl u.2.2.1.2.1)), (Mb, .inl (k 1, 6, .inl u.2.2.1.2.2))]) := by
  refine MW (by decide) (Nat.le_of_ble_eq_true rfl) (fun p e s m below meth c ls A hx hb hml hr hlocks hin hts hown hKK hP hD hS hA hl => ?_)
  have hK := hKK.1
  have hl : lv_has ls 4 [(0, .ref hm), (1, .int (iZ x1)), (2, .int (iZ x2)), (3, .int (iZ x3))] := hl
  obtain ⟨m0, m1, m3, m4, m5, mF, mO, mS⟩ := id hM
  refine lv_aload_n hx hb dX12_knowing_0 rfl (lv_at hl 0 rfl) ?_
  refine lv_iload_n hx hb dX12_knowing_1 rfl (lv_at hl 1 rfl) ?_
  refine lv_iload_n hx hb dX12_knowing_2 rfl (lv_at hl 2 rfl) ?_
  refine CPV (As := [.int (iZ x1), .int (iZ x2)]) (rest := []) hx hb hml hown hts hKK (hP.sub (ws' := [(hm, .inr (12, [.ref Ma, .ref Mn, .int (iZ Mst), .long Mtp, .long Mbt, .ref Ms, .ref My, .ref Mt, .ref Mp, .ref Mx, .int (iZ Mtd), .int (iZ Msz), .int (iZ Mtk), .int (iZ Mfr), .int (iZ Men), .int (iZ Mva), .int (iZ Mfk), .int (iZ Mfp), .int (iZ Mfs), .int (iZ Mse), .int (iZ Mlt), .ref Mo, .int (iZ Mdp), .int (iZ Mct), .ref Mk, .ref Ml, .ref Mb, .ref Mh, .ref Mc, .int (iZ Mdr), .int (iZ Mrs), .ref Mz, .ref Mr, .ref Mq, .int (iZ Mit), .int (iZ Mmk)])), (Ma, .inl (k 1, 5340, .inl Af))]) [0, 1] rfl) (m_isNews l D k ([.ref Ma, .ref Mn, .int (iZ Mst), .long Mtp, .long Mbt, .ref Ms, .ref My, .ref Mt, .ref Mp, .ref Mx, .int (iZ Mtd), .int (iZ Msz), .int (iZ Mtk), .int (iZ Mfr), .int (iZ Men), .int (iZ Mva), .int (iZ Mfk), .int (iZ Mfp), .int (iZ Mfs), .int (iZ Mse), .int (iZ Mlt), .ref Mo, .int (iZ Mdp), .int (iZ Mct), .ref Mk, .ref Ml, .ref Mb, .ref Mh, .ref Mc, .int (iZ Mdr), .int (iZ Mrs), .ref Mz, .ref Mr, .ref Mq, .int (iZ Mit), .int (iZ Mmk)]) hm Ma Af x1 x2 rfl hM ⟨by omega, by omega⟩ ⟨by omega, by omega⟩) ci_X12_isNews qm_X12_299 ⟨Nat.le_of_ble_eq_true rfl, Nat.le_of_ble_eq_true rfl⟩ ⟨Nat.le_of_ble_eq_true rfl, Nat.le_of_ble_eq_true rfl⟩ 0 rfl rfl rfl hl.1 rfl (Nat.le_of_ble_eq_true rfl) dX12_knowing_3 (fun z_1 hz_1 => ?_)
  rcases hz_1 with ⟨qz_1, hz_1⟩ | ⟨qz_1, hz_1⟩
  ·
    subst qz_1
    refine lv_if_eq (tgt := 16) hx hb dX12_knowing_6 rfl (fun c => absurd c (by decide)) (fun _ => ?_)
    refine lv_iload_n hx hb dX12_knowing_9 rfl (lv_at hl 3 rfl) ?_
    refine CPS (As := [.int (iZ x3)]) (rest := []) hx hb hml hown hts hKK (hP.sub (ws' := []) [] rfl) (m_isAsked l D k x3 ⟨by omega, by omega⟩) ci_X12_isAsked qm_X12_258 ⟨Nat.le_of_ble_eq_true rfl, Nat.le_of_ble_eq_true rfl⟩ ⟨Nat.le_of_ble_eq_true rfl, Nat.le_of_ble_eq_true rfl⟩ rfl hl.1 rfl (Nat.le_of_ble_eq_true rfl) dX12_knowing_10 (fun z_3 hz_3 => ?_)
    rcases hz_3 with ⟨qz_3, hz_3⟩ | ⟨qz_3, hz_3⟩
    ·
      subst qz_3
      refine lv_if_ne (tgt := 22) hx hb dX12_knowing_13 rfl (fun _ => ?_) (fun c => absurd c (by decide))
      refine lv_aload_n hx hb dX12_knowing_22 rfl (lv_at hl 0 rfl) ?_
      refine lv_iload_n hx hb dX12_knowing_23 rfl (lv_at hl 1 rfl) ?_
      refine lv_iload_n hx hb dX12_knowing_24 rfl (lv_at hl 2 rfl) ?_
      refine CWV (As := [.int (iZ x1), .int (iZ x2)]) (rest := []) (wc := _) (wr := []) hx hb hml hown hts hKK hP hD hS hA (m_lays l D k hm Ma Mn Ms My Mt Mp Mx Mo Mk Ml Mb Mh Mc Mz Mr Mq Mst Mtd Msz Mtk Mfr Men Mva Mfk Mfp Mfs Mse Mlt Mdp Mct Mdr Mrs Mit Mmk Mtp Mbt Af Kf Lf Bf x1 x2 hM ⟨by omega, by omega⟩ ⟨by omega, by omega⟩) ci_X12_lays qm_X12_302 ⟨Nat.le_of_ble_eq_true rfl, Nat.le_of_ble_eq_true rfl⟩ ⟨Nat.le_of_ble_eq_true rfl, Nat.le_of_ble_eq_true rfl⟩ [0, 1, 2, 3, 4] [] rfl rfl rfl rfl rfl (dj rfl) 0 rfl rfl rfl hl.1 rfl (Nat.le_of_ble_eq_true rfl) dX12_knowing_25 (fun u_5 H locs hφ hP hD hS => ?_)
      obtain ⟨p_6, p_7, p_8⟩ : (KR u_5.2.2.1.1 6) ∧ (rgI u_5.2.2.1.2.1 (-1) 5 6) ∧ (isNW (arF (sh Af 10) (sh Af 46) (gz Af 1)) (gz Af 0) x1 x2 (gz u_5.2.2.1.1) (gz u_5.2.2.1.2.1) (gz u_5.2.2.1.2.2)) := hφ
      refine W.eq (g2 := F0 m 28 ls []) rfl ?_
      refine lv_aload_n hx hb dX12_knowing_28 rfl (lv_at hl 0 rfl) ?_
      refine lv_aload_n hx hb dX12_knowing_29 rfl (lv_at hl 0 rfl) ?_
      refine lv_iload_n hx hb dX12_knowing_30 rfl (lv_at hl 3 rfl) ?_
      refine CPV (As := [.int (iZ x3)]) (rest := [.ref hm]) hx hb hml hown hts hKK (hP.sub (ws' := [(hm, .inr (12, [.ref Ma, .ref Mn, .int (iZ Mst), .long Mtp, .long Mbt, .ref Ms, .ref My, .ref Mt, .ref Mp, .ref Mx, .int (iZ Mtd), .int (iZ Msz), .int (iZ Mtk), .int (iZ Mfr), .int (iZ Men), .int (iZ Mva), .int (iZ Mfk), .int (iZ Mfp), .int (iZ Mfs), .int (iZ Mse), .int (iZ Mlt), .ref Mo, .int (iZ Mdp), .int (iZ Mct), .ref Mk, .ref Ml, .ref Mb, .ref Mh, .ref Mc, .int (iZ Mdr), .int (iZ Mrs), .ref Mz, .ref Mr, .ref Mq, .int (iZ Mit), .int (iZ Mmk)])), (Ma, .inl (k 1, 5340, .inl Af)), (Mk, .inl (k 1, 6, .inl u_5.2.2.1.1))]) [0, 1, 2] rfl) (m_setBy l D k ([.ref Ma, .ref Mn, .int (iZ Mst), .long Mtp, .long Mbt, .ref Ms, .ref My, .ref Mt, .ref Mp, .ref Mx, .int (iZ Mtd), .int (iZ Msz), .int (iZ Mtk), .int (iZ Mfr), .int (iZ Men), .int (iZ Mva), .int (iZ Mfk), .int (iZ Mfp), .int (iZ Mfs), .int (iZ Mse), .int (iZ Mlt), .ref Mo, .int (iZ Mdp), .int (iZ Mct), .ref Mk, .ref Ml, .ref Mb, .ref Mh, .ref Mc, .int (iZ Mdr), .int (iZ Mrs), .ref Mz, .ref Mr, .ref Mq, .int (iZ Mit), .int (iZ Mmk)]) hm Ma Mk Af u_5.2.2.1.1 x3 rfl rfl hM ⟨by omega, by omega⟩) ci_X12_setBy qm_X12_306 ⟨Nat.le_of_ble_eq_true rfl, Nat.le_of_ble_eq_true rfl⟩ ⟨Nat.le_of_ble_eq_true rfl, Nat.le_of_ble_eq_true rfl⟩ 0 rfl rfl rfl hl.1 rfl (Nat.le_of_ble_eq_true rfl) dX12_knowing_31 (fun z_9 hz_9 => ?_)
      obtain ⟨ez_9, az_9⟩ := hz_9
      refine CWV (As := [.int (iZ z_9)]) (rest := []) (wc := _) (wr := [(Ma, .inl (k 1, 5340, .inl Af)), (Mk, .inl (k 1, 6, .inl u_5.2.2.1.1)), (Ml, .inl (k 1, 6, .inl u_5.2.2.1.2.1)), (Mb, .inl (k 1, 6, .inl u_5.2.2.1.2.2))]) hx hb hml hown hts hKK hP hD hS hA (m_gives l D k hm Ma Mn Ms My Mt Mp Mx Mo Mk Ml Mb Mh Mc Mz Mr Mq Mst Mtd Msz Mtk Mfr Men Mva Mfk Mfp Mfs Mse Mlt Mdp Mct Mdr Mrs Mit Mmk Mtp Mbt z_9) ci_X12_gives qm_X12_85 ⟨Nat.le_of_ble_eq_true rfl, Nat.le_of_ble_eq_true rfl⟩ ⟨Nat.le_of_ble_eq_true rfl, Nat.le_of_ble_eq_true rfl⟩ [0] [1, 2, 3, 4] rfl rfl rfl rfl rfl (dj rfl) 0 rfl rfl rfl hl.1 rfl (Nat.le_of_ble_eq_true rfl) dX12_knowing_34 (fun u_10 H locs hφ hP hD hS => ?_)
      refine W.eq (g2 := F0 m 37 ls [.int (iZ z_9)]) rfl ?_
      exact EWi hx hb hr hlocks hS ((z_9, 0), 0, (u_5.2.2.1.1, u_5.2.2.1.2.1, u_5.2.2.1.2.2), ()) rfl (show (((0 ≤ x1 ∧ x1 < (gz Af 0)) ∧ (0 ≤ x2 ∧ x2 ≤ 400) ∧ (0 ≤ x3 ∧ x3 ≤ 500)) ∧ (iZ z_9 = bS (fun r => nwK (arF (sh Af 10) (sh Af 46) (gz Af 1)) (gz Af 0) x1 x2 r ≤ x3) (gz Af 0).toNat ∧ (-2147483648 ≤ z_9 ∧ z_9 < 2147483648))) ∨ (¬ ((0 ≤ x1 ∧ x1 < (gz Af 0)) ∧ (0 ≤ x2 ∧ x2 ≤ 400) ∧ (0 ≤ x3 ∧ x3 ≤ 500)) ∧ (z_9 : Int) = -1) from (Or.inl ⟨by omega, (ez_9.trans (bS_like (fun r9 h1 h2 => Iff.of_eq (congrArg (fun q9 => q9 ≤ x3) (nwK_eq (later_ar mF) p_8 h1 (by omega)))))), by omega, by omega⟩)) (hP.sub [4, 0, 1, 2, 3] rfl) (hD.sub [4, 0, 1, 2, 3] rfl rfl) dX12_knowing_37
    ·
      subst qz_3
      refine lv_if_ne (tgt := 22) hx hb dX12_knowing_13 rfl (fun c => absurd (by decide) c) (fun _ => ?_)
      refine lv_aload_n hx hb dX12_knowing_16 rfl (lv_at hl 0 rfl) ?_
      refine lv_iconst (v := iZ 1) hx hb dX12_knowing_17 rfl ?_
      refine CWV (As := [.int (iZ 1)]) (rest := []) (wc := _) (wr := [(Ma, .inl (k 1, 5340, .inl Af)), (Mk, .inl (k 1, 6, .inl Kf)), (Ml, .inl (k 1, 6, .inl Lf)), (Mb, .inl (k 1, 6, .inl Bf))]) hx hb hml hown hts hKK hP hD hS hA (m_refuse l D k hm Ma Mn Ms My Mt Mp Mx Mo Mk Ml Mb Mh Mc Mz Mr Mq Mst Mtd Msz Mtk Mfr Men Mva Mfk Mfp Mfs Mse Mlt Mdp Mct Mdr Mrs Mit Mmk Mtp Mbt 1) ci_X12_refuse qm_X12_81 ⟨Nat.le_of_ble_eq_true rfl, Nat.le_of_ble_eq_true rfl⟩ ⟨Nat.le_of_ble_eq_true rfl, Nat.le_of_ble_eq_true rfl⟩ [0] [1, 2, 3, 4] rfl rfl rfl rfl rfl (dj rfl) 0 rfl rfl rfl hl.1 rfl (Nat.le_of_ble_eq_true rfl) dX12_knowing_18 (fun u_12 H locs hφ hP hD hS => ?_)
      refine W.eq (g2 := F0 m 21 ls [.int (iZ (-1))]) rfl ?_
      exact EWi hx hb hr hlocks hS (((-1), 1), 0, (Kf, Lf, Bf), ()) rfl (show (((0 ≤ x1 ∧ x1 < (gz Af 0)) ∧ (0 ≤ x2 ∧ x2 ≤ 400) ∧ (0 ≤ x3 ∧ x3 ≤ 500)) ∧ (iZ (-1) = bS (fun r => nwK (arF (sh Af 10) (sh Af 46) (gz Af 1)) (gz Af 0) x1 x2 r ≤ x3) (gz Af 0).toNat ∧ (-2147483648 ≤ (-1) ∧ (-1) < 2147483648))) ∨ (¬ ((0 ≤ x1 ∧ x1 < (gz Af 0)) ∧ (0 ≤ x2 ∧ x2 ≤ 400) ∧ (0 ≤ x3 ∧ x3 ≤ 500)) ∧ ((-1) : Int) = -1) from (Or.inr ⟨by omega, rfl⟩)) (hP.sub [4, 0, 1, 2, 3] rfl) (hD.sub [4, 0, 1, 2, 3] rfl rfl) dX12_knowing_21
  ·
    subst qz_1
    refine lv_if_eq (tgt := 16) hx hb dX12_knowing_6 rfl (fun _ => ?_) (fun c => absurd (by decide) c)
    refine lv_aload_n hx hb dX12_knowing_16 rfl (lv_at hl 0 rfl) ?_
    refine lv_iconst (v := iZ 1) hx hb dX12_knowing_17 rfl ?_
    refine CWV (As := [.int (iZ 1)]) (rest := []) (wc := _) (wr := [(Ma, .inl (k 1, 5340, .inl Af)), (Mk, .inl (k 1, 6, .inl Kf)), (Ml, .inl (k 1, 6, .inl Lf)), (Mb, .inl (k 1, 6, .inl Bf))]) hx hb hml hown hts hKK hP hD hS hA (m_refuse l D k hm Ma Mn Ms My Mt Mp Mx Mo Mk Ml Mb Mh Mc Mz Mr Mq Mst Mtd Msz Mtk Mfr Men Mva Mfk Mfp Mfs Mse Mlt Mdp Mct Mdr Mrs Mit Mmk Mtp Mbt 1) ci_X12_refuse qm_X12_81 ⟨Nat.le_of_ble_eq_true rfl, Nat.le_of_ble_eq_true rfl⟩ ⟨Nat.le_of_ble_eq_true rfl, Nat.le_of_ble_eq_true rfl⟩ [0] [1, 2, 3, 4] rfl rfl rfl rfl rfl (dj rfl) 0 rfl rfl rfl hl.1 rfl (Nat.le_of_ble_eq_true rfl) dX12_knowing_18 (fun u_14 H locs hφ hP hD hS => ?_)
    refine W.eq (g2 := F0 m 21 ls [.int (iZ (-1))]) rfl ?_
    exact EWi hx hb hr hlocks hS (((-1), 1), 0, (Kf, Lf, Bf), ()) rfl (show (((0 ≤ x1 ∧ x1 < (gz Af 0)) ∧ (0 ≤ x2 ∧ x2 ≤ 400) ∧ (0 ≤ x3 ∧ x3 ≤ 500)) ∧ (iZ (-1) = bS (fun r => nwK (arF (sh Af 10) (sh Af 46) (gz Af 1)) (gz Af 0) x1 x2 r ≤ x3) (gz Af 0).toNat ∧ (-2147483648 ≤ (-1) ∧ (-1) < 2147483648))) ∨ (¬ ((0 ≤ x1 ∧ x1 < (gz Af 0)) ∧ (0 ≤ x2 ∧ x2 ≤ 400) ∧ (0 ≤ x3 ∧ x3 ≤ 500)) ∧ ((-1) : Int) = -1) from (Or.inr ⟨by omega, rfl⟩)) (hP.sub [4, 0, 1, 2, 3] rfl) (hD.sub [4, 0, 1, 2, 3] rfl rfl) dX12_knowing_21
set_option maxHeartbeats 4000000 in
set_option maxRecDepth 100000 in
theorem q_overtaken (l : Launch) (D : va_G) (k : Nat → ClassId) (hm : Nat) (Ma : Nat) (Mn : Nat) (Ms : Nat) (My : Nat) (Mt : Nat) (Mp : Nat) (Mx : Nat) (Mo : Nat) (Mk : Nat) (Ml : Nat) (Mb : Nat) (Mh : Nat) (Mc : Nat) (Mz : Nat) (Mr : Nat) (Mq : Nat) (Mst : Int) (Mtd : Int) (Msz : Int) (Mtk : Int) (Mfr : Int) (Men : Int) (Mva : Int) (Mfk : Int) (Mfp : Int) (Mfs : Int) (Mse : Int) (Mlt : Int) (Mdp : Int) (Mct : Int) (Mdr : Int) (Mrs : Int) (Mit : Int) (Mmk : Int) (Mtp : Int64) (Mbt : Int64) (Af : Nat → Int32) (Kf : Nat → Int32) (Lf : Nat → Int32) (Bf : Nat → Int32) (x1 : Int) (x2 : Int) (hM : M0 Af) (h9x1 : -2147483648 ≤ x1 ∧ x1 < 2147483648) (h9x2 : -2147483648 ≤ x2 ∧ x2 < 2147483648) : WD (σ := ((Int × Int) × (Int64) × ((Nat → Int32) × (Nat → Int32) × (Nat → Int32)) × (Unit))) l yX12_overtaken cX12_overtaken 5 (some .int) 6 0 0 D k [.ref hm, .int (iZ x1), .int (iZ x2)] [(hm, .inr (12, [.ref Ma, .ref Mn, .int (iZ Mst), .long Mtp, .long Mbt, .ref Ms, .ref My, .ref Mt, .ref Mp, .ref Mx, .int (iZ Mtd), .int (iZ Msz), .int (iZ Mtk), .int (iZ Mfr), .int (iZ Men), .int (iZ Mva), .int (iZ Mfk), .int (iZ Mfp), .int (iZ Mfs), .int (iZ Mse), .int (iZ Mlt), .ref Mo, .int (iZ Mdp), .int (iZ Mct), .ref Mk, .ref Ml, .ref Mb, .ref Mh, .ref Mc, .int (iZ Mdr), .int (iZ Mrs), .ref Mz, .ref Mr, .ref Mq, .int (iZ Mit), .int (iZ Mmk)])), (Ma, .inl (k 1, 5340, .inl Af)), (Mk, .inl (k 1, 6, .inl Kf)), (Ml, .inl (k 1, 6, .inl Lf)), (Mb, .inl (k 1, 6, .inl Bf))] (fun u => some (.int (iZ u.1.1))) (fun u => (((0 ≤ x1 ∧ x1 < (gz Af 0)) ∧ (0 ≤ x2 ∧ x2 ≤ 400)) ∧ (iZ u.1.1 = bS (fun r => nwK (arF (sh Af 10) (sh Af 46) (gz Af 1)) (gz Af 0) x1 x2 r < arF (sh Af 10) (sh Af 46) (gz Af 1) x1 x2 r) (gz Af 0).toNat ∧ (-2147483648 ≤ u.1.1 ∧ u.1.1 < 2147483648))) ∨ (¬ ((0 ≤ x1 ∧ x1 < (gz Af 0)) ∧ (0 ≤ x2 ∧ x2 ≤ 400)) ∧ (u.1.1 : Int) = -1)) (fun u => [(hm, .inr (12, [.ref Ma, .ref Mn, .int (iZ u.1.2), .long Mtp, .long Mbt, .ref Ms, .ref My, .ref Mt, .ref Mp, .ref Mx, .int (iZ Mtd), .int (iZ Msz), .int (iZ Mtk), .int (iZ Mfr), .int (iZ Men), .int (iZ Mva), .int (iZ Mfk), .int (iZ Mfp), .int (iZ Mfs), .int (iZ Mse), .int (iZ Mlt), .ref Mo, .int (iZ Mdp), .int (iZ Mct), .ref Mk, .ref Ml, .ref Mb, .ref Mh, .ref Mc, .int (iZ Mdr), .int (iZ Mrs), .ref Mz, .ref Mr, .ref Mq, .int (iZ Mit), .int (iZ Mmk)])), (Ma, .inl (k 1, 5340, .inl Af)), (Mk, .inl (k 1, 6, .inl u.2.2.1.1)), (Ml, .inl (k 1, 6, .inl u.2.2.1.2.1)), (Mb, .inl (k 1, 6, .inl u.2.2.1.2.2))]) := by
  refine MW (by decide) (Nat.le_of_ble_eq_true rfl) (fun p e s m below meth c ls A hx hb hml hr hlocks hin hts hown hKK hP hD hS hA hl => ?_)
  have hK := hKK.1
  have hl : lv_has ls 5 [(0, .ref hm), (1, .int (iZ x1)), (2, .int (iZ x2))] := hl
  obtain ⟨m0, m1, m3, m4, m5, mF, mO, mS⟩ := id hM
  refine lv_aload_n hx hb dX12_overtaken_0 rfl (lv_at hl 0 rfl) ?_
  refine lv_iload_n hx hb dX12_overtaken_1 rfl (lv_at hl 1 rfl) ?_
  refine lv_iload_n hx hb dX12_overtaken_2 rfl (lv_at hl 2 rfl) ?_
  refine CPV (As := [.int (iZ x1), .int (iZ x2)]) (rest := []) hx hb hml hown hts hKK (hP.sub (ws' := [(hm, .inr (12, [.ref Ma, .ref Mn, .int (iZ Mst), .long Mtp, .long Mbt, .ref Ms, .ref My, .ref Mt, .ref Mp, .ref Mx, .int (iZ Mtd), .int (iZ Msz), .int (iZ Mtk), .int (iZ Mfr), .int (iZ Men), .int (iZ Mva), .int (iZ Mfk), .int (iZ Mfp), .int (iZ Mfs), .int (iZ Mse), .int (iZ Mlt), .ref Mo, .int (iZ Mdp), .int (iZ Mct), .ref Mk, .ref Ml, .ref Mb, .ref Mh, .ref Mc, .int (iZ Mdr), .int (iZ Mrs), .ref Mz, .ref Mr, .ref Mq, .int (iZ Mit), .int (iZ Mmk)])), (Ma, .inl (k 1, 5340, .inl Af))]) [0, 1] rfl) (m_isNews l D k ([.ref Ma, .ref Mn, .int (iZ Mst), .long Mtp, .long Mbt, .ref Ms, .ref My, .ref Mt, .ref Mp, .ref Mx, .int (iZ Mtd), .int (iZ Msz), .int (iZ Mtk), .int (iZ Mfr), .int (iZ Men), .int (iZ Mva), .int (iZ Mfk), .int (iZ Mfp), .int (iZ Mfs), .int (iZ Mse), .int (iZ Mlt), .ref Mo, .int (iZ Mdp), .int (iZ Mct), .ref Mk, .ref Ml, .ref Mb, .ref Mh, .ref Mc, .int (iZ Mdr), .int (iZ Mrs), .ref Mz, .ref Mr, .ref Mq, .int (iZ Mit), .int (iZ Mmk)]) hm Ma Af x1 x2 rfl hM ⟨by omega, by omega⟩ ⟨by omega, by omega⟩) ci_X12_isNews qm_X12_299 ⟨Nat.le_of_ble_eq_true rfl, Nat.le_of_ble_eq_true rfl⟩ ⟨Nat.le_of_ble_eq_true rfl, Nat.le_of_ble_eq_true rfl⟩ 0 rfl rfl rfl hl.1 rfl (Nat.le_of_ble_eq_true rfl) dX12_overtaken_3 (fun z_1 hz_1 => ?_)
  rcases hz_1 with ⟨qz_1, hz_1⟩ | ⟨qz_1, hz_1⟩
  ·
    subst qz_1
    refine lv_if_ne (tgt := 15) hx hb dX12_overtaken_6 rfl (fun _ => ?_) (fun c => absurd c (by decide))
    refine lv_aload_n hx hb dX12_overtaken_15 rfl (lv_at hl 0 rfl) ?_
    refine lv_iload_n hx hb dX12_overtaken_16 rfl (lv_at hl 1 rfl) ?_
    refine lv_iload_n hx hb dX12_overtaken_17 rfl (lv_at hl 2 rfl) ?_
    refine CWV (As := [.int (iZ x1), .int (iZ x2)]) (rest := []) (wc := _) (wr := []) hx hb hml hown hts hKK hP hD hS hA (m_lays l D k hm Ma Mn Ms My Mt Mp Mx Mo Mk Ml Mb Mh Mc Mz Mr Mq Mst Mtd Msz Mtk Mfr Men Mva Mfk Mfp Mfs Mse Mlt Mdp Mct Mdr Mrs Mit Mmk Mtp Mbt Af Kf Lf Bf x1 x2 hM ⟨by omega, by omega⟩ ⟨by omega, by omega⟩) ci_X12_lays qm_X12_302 ⟨Nat.le_of_ble_eq_true rfl, Nat.le_of_ble_eq_true rfl⟩ ⟨Nat.le_of_ble_eq_true rfl, Nat.le_of_ble_eq_true rfl⟩ [0, 1, 2, 3, 4] [] rfl rfl rfl rfl rfl (dj rfl) 0 rfl rfl rfl hl.1 rfl (Nat.le_of_ble_eq_true rfl) dX12_overtaken_18 (fun u_3 H locs hφ hP hD hS => ?_)
    obtain ⟨p_4, p_5, p_6⟩ : (KR u_3.2.2.1.1 6) ∧ (rgI u_3.2.2.1.2.1 (-1) 5 6) ∧ (isNW (arF (sh Af 10) (sh Af 46) (gz Af 1)) (gz Af 0) x1 x2 (gz u_3.2.2.1.1) (gz u_3.2.2.1.2.1) (gz u_3.2.2.1.2.2)) := hφ
    refine W.eq (g2 := F0 m 21 ls []) rfl ?_
    refine lv_iconst (v := iZ 0) hx hb dX12_overtaken_21 rfl ?_
    refine lv_istore_n (lv' := [(3, .int (iZ 0)), (0, .ref hm), (1, .int (iZ x1)), (2, .int (iZ x2))]) hx hb dX12_overtaken_22 rfl hl (bl rfl) rfl (fun ls hl => ?_)
    refine lv_iconst (v := iZ 0) hx hb dX12_overtaken_23 rfl ?_
    refine lv_istore (lv' := [(4, .int (iZ 0)), (3, .int (iZ 0)), (0, .ref hm), (1, .int (iZ x1)), (2, .int (iZ x2))]) hx hb dX12_overtaken_24 hl (bl rfl) rfl (fun ls hl => ?_)
    have HL26 : ∀ (fu : Nat) (v3_26 : Int) (v4_26 : Int) (H : Heap) (locs : List Loc) (ls : Array Slot), ((gz Af 0) + 2 - v4_26) < (fu : Int) → ((0 ≤ v4_26 ∧ v4_26 ≤ (gz Af 0) + 1)) → (-2147483648 ≤ v3_26 ∧ v3_26 < 2147483648) → (iZ v3_26 = bS (fun r => nwK (arF (sh Af 10) (sh Af 46) (gz Af 1)) (gz Af 0) x1 x2 r < arF (sh Af 10) (sh Af 46) (gz Af 1) x1 x2 r) (Int.toNat (v4_26))) → (v4_26 ≤ gz Af 0) → va_P D vwCl [(hm, .inr (12, [.ref Ma, .ref Mn, .int (iZ Mst), .long Mtp, .long Mbt, .ref Ms, .ref My, .ref Mt, .ref Mp, .ref Mx, .int (iZ Mtd), .int (iZ Msz), .int (iZ Mtk), .int (iZ Mfr), .int (iZ Men), .int (iZ Mva), .int (iZ Mfk), .int (iZ Mfp), .int (iZ Mfs), .int (iZ Mse), .int (iZ Mlt), .ref Mo, .int (iZ Mdp), .int (iZ Mct), .ref Mk, .ref Ml, .ref Mb, .ref Mh, .ref Mc, .int (iZ Mdr), .int (iZ Mrs), .ref Mz, .ref Mr, .ref Mq, .int (iZ Mit), .int (iZ Mmk)])), (Ma, .inl (k 1, 5340, .inl Af)), (Mk, .inl (k 1, 6, .inl u_3.2.2.1.1)), (Ml, .inl (k 1, 6, .inl u_3.2.2.1.2.1)), (Mb, .inl (k 1, 6, .inl u_3.2.2.1.2.2))] H → va_D A [(hm, .inr (12, [.ref Ma, .ref Mn, .int (iZ Mst), .long Mtp, .long Mbt, .ref Ms, .ref My, .ref Mt, .ref Mp, .ref Mx, .int (iZ Mtd), .int (iZ Msz), .int (iZ Mtk), .int (iZ Mfr), .int (iZ Men), .int (iZ Mva), .int (iZ Mfk), .int (iZ Mfp), .int (iZ Mfs), .int (iZ Mse), .int (iZ Mlt), .ref Mo, .int (iZ Mdp), .int (iZ Mct), .ref Mk, .ref Ml, .ref Mb, .ref Mh, .ref Mc, .int (iZ Mdr), .int (iZ Mrs), .ref Mz, .ref Mr, .ref Mq, .int (iZ Mit), .int (iZ Mmk)])), (Ma, .inl (k 1, 5340, .inl Af)), (Mk, .inl (k 1, 6, .inl u_3.2.2.1.1)), (Ml, .inl (k 1, 6, .inl u_3.2.2.1.2.1)), (Mb, .inl (k 1, 6, .inl u_3.2.2.1.2.2))] → va_S A s.heap H locs → lv_has ls 5 [(4, .int (iZ v4_26)), (3, .int (iZ v3_26)), (0, .ref hm), (1, .int (iZ x1)), (2, .int (iZ x2))] → W p l e (rj 6 0 0) s m [.ref hm, .int (iZ x1), .int (iZ x2)].toArray below meth c H locs 0 0 (MQ below (QW (σ := ((Int × Int) × (Int64) × ((Nat → Int32) × (Nat → Int32) × (Nat → Int32)) × (Unit))) (fun u => some (.int (iZ u.1.1))) (fun u => (((0 ≤ x1 ∧ x1 < (gz Af 0)) ∧ (0 ≤ x2 ∧ x2 ≤ 400)) ∧ (iZ u.1.1 = bS (fun r => nwK (arF (sh Af 10) (sh Af 46) (gz Af 1)) (gz Af 0) x1 x2 r < arF (sh Af 10) (sh Af 46) (gz Af 1) x1 x2 r) (gz Af 0).toNat ∧ (-2147483648 ≤ u.1.1 ∧ u.1.1 < 2147483648))) ∨ (¬ ((0 ≤ x1 ∧ x1 < (gz Af 0)) ∧ (0 ≤ x2 ∧ x2 ≤ 400)) ∧ (u.1.1 : Int) = -1)) (fun u => [(hm, .inr (12, [.ref Ma, .ref Mn, .int (iZ u.1.2), .long Mtp, .long Mbt, .ref Ms, .ref My, .ref Mt, .ref Mp, .ref Mx, .int (iZ Mtd), .int (iZ Msz), .int (iZ Mtk), .int (iZ Mfr), .int (iZ Men), .int (iZ Mva), .int (iZ Mfk), .int (iZ Mfp), .int (iZ Mfs), .int (iZ Mse), .int (iZ Mlt), .ref Mo, .int (iZ Mdp), .int (iZ Mct), .ref Mk, .ref Ml, .ref Mb, .ref Mh, .ref Mc, .int (iZ Mdr), .int (iZ Mrs), .ref Mz, .ref Mr, .ref Mq, .int (iZ Mit), .int (iZ Mmk)])), (Ma, .inl (k 1, 5340, .inl Af)), (Mk, .inl (k 1, 6, .inl u.2.2.1.1)), (Ml, .inl (k 1, 6, .inl u.2.2.1.2.1)), (Mb, .inl (k 1, 6, .inl u.2.2.1.2.2))]) D A) [.ref hm, .int (iZ x1), .int (iZ x2)].toArray s 0 0 A) (F0 m 26 ls []) := by
      intro fu
      induction fu with
      | zero => intro v3_26 v4_26 H locs ls hμ26 hi26 hf0_26 hst hbn hP hD hS hl; exact absurd hμ26 (by omega)
      | succ fu ih26 =>
        intro v3_26 v4_26 H locs ls hμ26 hi26 hf0_26 hst hbn hP hD hS hl
        refine lv_iload hx hb dX12_overtaken_26 (lv_at hl 0 rfl) ?_
        refine lv_aload_n hx hb dX12_overtaken_28 rfl (lv_at hl 2 rfl) ?_
        refine va_get (D := D) (ci := 12) (v := .ref Ma) (C := RX12) (T := TX12) (N := 36) hx hb hts iX12 hown hK hP 0 rfl rfl 0 (bl rfl) (hts _ qf_X12_7) (fun _ h => h) rfl dX12_overtaken_29 ?_
        refine lv_iconst (v := iZ 0) hx hb dX12_overtaken_32 rfl ?_
        refine va_iald hx hb hK hP 1 1 rfl rfl (zin (e := 0) (n := 5340) ⟨by omega, by omega⟩ (bl rfl)) dX12_overtaken_33 ?_
        refine lv_topi (fun x_7 ex_7 => ?_)
        obtain rfl : x_7 = iZ (gz Af 0) := ex_7.trans (gz_eq ⟨by omega, by omega⟩)
        have h_8 := gz_rg Af 0
        refine lv_icmp_ge (tgt := 72) hx hb dX12_overtaken_34 rfl (fun c_9 => ?_) (fun c_9 => ?_)
        ·
          have c_9 := (zle (x := iZ (gz Af 0)) (y := iZ v4_26) rfl rfl (gz_rg Af 0) ⟨by omega, by omega⟩).mp c_9
          refine lv_aload_n hx hb dX12_overtaken_72 rfl (lv_at hl 2 rfl) ?_
          refine lv_iload_n hx hb dX12_overtaken_73 rfl (lv_at hl 1 rfl) ?_
          refine CWV (As := [.int (iZ v3_26)]) (rest := []) (wc := _) (wr := [(Ma, .inl (k 1, 5340, .inl Af)), (Mk, .inl (k 1, 6, .inl u_3.2.2.1.1)), (Ml, .inl (k 1, 6, .inl u_3.2.2.1.2.1)), (Mb, .inl (k 1, 6, .inl u_3.2.2.1.2.2))]) hx hb hml hown hts hKK hP hD hS hA (m_gives l D k hm Ma Mn Ms My Mt Mp Mx Mo Mk Ml Mb Mh Mc Mz Mr Mq Mst Mtd Msz Mtk Mfr Men Mva Mfk Mfp Mfs Mse Mlt Mdp Mct Mdr Mrs Mit Mmk Mtp Mbt v3_26) ci_X12_gives qm_X12_85 ⟨Nat.le_of_ble_eq_true rfl, Nat.le_of_ble_eq_true rfl⟩ ⟨Nat.le_of_ble_eq_true rfl, Nat.le_of_ble_eq_true rfl⟩ [0] [1, 2, 3, 4] rfl rfl rfl rfl rfl (dj rfl) 0 rfl rfl rfl hl.1 rfl (Nat.le_of_ble_eq_true rfl) dX12_overtaken_74 (fun u_10 H locs hφ hP hD hS => ?_)
          refine W.eq (g2 := F0 m 77 ls [.int (iZ v3_26)]) rfl ?_
          exact EWi hx hb hr hlocks hS ((v3_26, 0), 0, (u_3.2.2.1.1, u_3.2.2.1.2.1, u_3.2.2.1.2.2), ()) rfl (show (((0 ≤ x1 ∧ x1 < (gz Af 0)) ∧ (0 ≤ x2 ∧ x2 ≤ 400)) ∧ (iZ v3_26 = bS (fun r => nwK (arF (sh Af 10) (sh Af 46) (gz Af 1)) (gz Af 0) x1 x2 r < arF (sh Af 10) (sh Af 46) (gz Af 1) x1 x2 r) (gz Af 0).toNat ∧ (-2147483648 ≤ v3_26 ∧ v3_26 < 2147483648))) ∨ (¬ ((0 ≤ x1 ∧ x1 < (gz Af 0)) ∧ (0 ≤ x2 ∧ x2 ≤ 400)) ∧ (v3_26 : Int) = -1) from (Or.inl ⟨by omega, sB_e hst (by omega), by omega, by omega⟩)) (hP.sub [4, 0, 1, 2, 3] rfl) (hD.sub [4, 0, 1, 2, 3] rfl rfl) dX12_overtaken_77
        ·
          have c_9 := mt (zle (x := iZ (gz Af 0)) (y := iZ v4_26) rfl rfl (gz_rg Af 0) ⟨by omega, by omega⟩).mpr c_9
          refine lv_iload_n hx hb dX12_overtaken_37 rfl (lv_at hl 1 rfl) ?_
          refine lv_aload_n hx hb dX12_overtaken_38 rfl (lv_at hl 2 rfl) ?_
          refine va_get (D := D) (ci := 12) (v := .ref Mk) (C := RX12) (T := TX12) (N := 36) hx hb hts iX12 hown hK hP 0 rfl rfl 24 (bl rfl) (hts _ qf_X12_47) (fun _ h => h) rfl dX12_overtaken_39 ?_
          refine lv_iload hx hb dX12_overtaken_42 (lv_at hl 0 rfl) ?_
          refine va_iald hx hb hK hP 2 1 rfl rfl (zin (e := v4_26) (n := 6) ⟨by omega, by omega⟩ (bl rfl)) dX12_overtaken_44 ?_
          refine lv_topi (fun x_11 ex_11 => ?_)
          obtain rfl : x_11 = iZ (gz u_3.2.2.1.1 v4_26) := ex_11.trans (gz_eq ⟨by omega, by omega⟩)
          have h_12 := p_4 v4_26 (by omega) (by omega)
          refine lv_aload_n hx hb dX12_overtaken_45 rfl (lv_at hl 2 rfl) ?_
          refine lv_iload_n hx hb dX12_overtaken_46 rfl (lv_at hl 3 rfl) ?_
          refine lv_iload_n hx hb dX12_overtaken_47 rfl (lv_at hl 4 rfl) ?_
          refine lv_iload hx hb dX12_overtaken_48 (lv_at hl 0 rfl) ?_
          refine CPV (As := [.int (iZ x1), .int (iZ x2), .int (iZ v4_26)]) (rest := [.int (iZ (gz u_3.2.2.1.1 v4_26)), .int (iZ v3_26)]) hx hb hml hown hts hKK (hP.sub (ws' := [(hm, .inr (12, [.ref Ma, .ref Mn, .int (iZ Mst), .long Mtp, .long Mbt, .ref Ms, .ref My, .ref Mt, .ref Mp, .ref Mx, .int (iZ Mtd), .int (iZ Msz), .int (iZ Mtk), .int (iZ Mfr), .int (iZ Men), .int (iZ Mva), .int (iZ Mfk), .int (iZ Mfp), .int (iZ Mfs), .int (iZ Mse), .int (iZ Mlt), .ref Mo, .int (iZ Mdp), .int (iZ Mct), .ref Mk, .ref Ml, .ref Mb, .ref Mh, .ref Mc, .int (iZ Mdr), .int (iZ Mrs), .ref Mz, .ref Mr, .ref Mq, .int (iZ Mit), .int (iZ Mmk)])), (Ma, .inl (k 1, 5340, .inl Af))]) [0, 1] rfl) (m_arrival l D k ([.ref Ma, .ref Mn, .int (iZ Mst), .long Mtp, .long Mbt, .ref Ms, .ref My, .ref Mt, .ref Mp, .ref Mx, .int (iZ Mtd), .int (iZ Msz), .int (iZ Mtk), .int (iZ Mfr), .int (iZ Men), .int (iZ Mva), .int (iZ Mfk), .int (iZ Mfp), .int (iZ Mfs), .int (iZ Mse), .int (iZ Mlt), .ref Mo, .int (iZ Mdp), .int (iZ Mct), .ref Mk, .ref Ml, .ref Mb, .ref Mh, .ref Mc, .int (iZ Mdr), .int (iZ Mrs), .ref Mz, .ref Mr, .ref Mq, .int (iZ Mit), .int (iZ Mmk)]) hm Ma Af x1 x2 v4_26 rfl hM ⟨by omega, by omega⟩ ⟨by omega, by omega⟩ ⟨by omega, by omega⟩) ci_X12_arrival qm_X12_280 ⟨Nat.le_of_ble_eq_true rfl, Nat.le_of_ble_eq_true rfl⟩ ⟨Nat.le_of_ble_eq_true rfl, Nat.le_of_ble_eq_true rfl⟩ 0 rfl rfl rfl hl.1 rfl (Nat.le_of_ble_eq_true rfl) dX12_overtaken_50 (fun z_13 hz_13 => ?_)
          obtain ⟨ez_13, az_13⟩ := hz_13
          refine lv_icmp_ge (tgt := 63) hx hb dX12_overtaken_53 rfl (fun c_14 => ?_) (fun c_14 => ?_)
          ·
            have c_14 := (zle (x := iZ z_13) (y := iZ (gz u_3.2.2.1.1 v4_26)) rfl rfl ⟨by omega, by omega⟩ (gz_rg u_3.2.2.1.1 v4_26)).mp c_14
            refine lv_iconst (v := iZ 0) hx hb dX12_overtaken_63 rfl ?_
            refine lv_ior hx hb dX12_overtaken_64 ?_
            refine lv_topi (fun x_16 ex_16 => ?_)
            obtain ⟨z_15, hz_15, hz_15a, hz_15b⟩ := i32_z x_16
            subst hz_15
            refine lv_istore_n (lv' := [(3, .int (iZ z_15)), (4, .int (iZ v4_26)), (0, .ref hm), (1, .int (iZ x1)), (2, .int (iZ x2))]) hx hb dX12_overtaken_65 rfl hl (bl rfl) rfl (fun ls hl => ?_)
            refine lv_iinc (v := iZ (v4_26 + 1)) (lv' := [(4, .int (iZ (v4_26 + 1))), (3, .int (iZ z_15)), (0, .ref hm), (1, .int (iZ x1)), (2, .int (iZ x2))]) hx hb dX12_overtaken_66 hl (k := 1) rfl (iZ_add v4_26 1) (by decide) rfl (fun ls hl => ?_)
            refine lv_goto (tgt := 26) hx hb dX12_overtaken_69 rfl ?_
            exact ih26  z_15 (v4_26 + 1) _ _ _ (by omega) (show (0 ≤ (v4_26 + 1) ∧ (v4_26 + 1) ≤ (gz Af 0) + 1) from ⟨by omega, by omega⟩) (show -2147483648 ≤ z_15 ∧ z_15 < 2147483648 from (by omega)) (show iZ z_15 = bS (fun r => nwK (arF (sh Af 10) (sh Af 46) (gz Af 1)) (gz Af 0) x1 x2 r < arF (sh Af 10) (sh Af 46) (gz Af 1) x1 x2 r) (Int.toNat ((v4_26 + 1))) from (by first | exact sB_y hst (by omega) (show nwK (arF (sh Af 10) (sh Af 46) (gz Af 1)) (gz Af 0) x1 x2 v4_26 < arF (sh Af 10) (sh Af 46) (gz Af 1) x1 x2 v4_26 from by have k9 := nwK_eq (later_ar mF) p_6 (o := v4_26) (by omega) (by omega); have q9 := nwK_rg (later_ar mF) p_6 (o := v4_26) (by omega) (by omega); omega) ex_16 ex_16 | exact sB_r hst (by omega) (show ¬ nwK (arF (sh Af 10) (sh Af 46) (gz Af 1)) (gz Af 0) x1 x2 v4_26 < arF (sh Af 10) (sh Af 46) (gz Af 1) x1 x2 v4_26 from by have k9 := nwK_eq (later_ar mF) p_6 (o := v4_26) (by omega) (by omega); have q9 := nwK_rg (later_ar mF) p_6 (o := v4_26) (by omega) (by omega); omega) ex_16)) (show (v4_26 + 1) ≤ gz Af 0 from (by omega)) (hP.sub [0, 1, 2, 3, 4] rfl) (hD.sub [0, 1, 2, 3, 4] rfl rfl) hS (lv_sub hl [0, 1, 2, 3, 4] rfl)
          ·
            have c_14 := mt (zle (x := iZ z_13) (y := iZ (gz u_3.2.2.1.1 v4_26)) rfl rfl ⟨by omega, by omega⟩ (gz_rg u_3.2.2.1.1 v4_26)).mpr c_14
            refine lv_iconst (v := iZ 1) hx hb dX12_overtaken_56 rfl ?_
            refine lv_iload hx hb dX12_overtaken_57 (lv_at hl 0 rfl) ?_
            refine lv_ishl hx hb dX12_overtaken_59 ?_
            refine lv_topi (fun x_18 ex_18 => ?_)
            obtain ⟨z_17, hz_17, hz_17a, hz_17b⟩ := i32_z x_18
            subst hz_17
            refine lv_goto (tgt := 64) hx hb dX12_overtaken_60 rfl ?_
            refine lv_ior hx hb dX12_overtaken_64 ?_
            refine lv_topi (fun x_20 ex_20 => ?_)
            obtain ⟨z_19, hz_19, hz_19a, hz_19b⟩ := i32_z x_20
            subst hz_19
            refine lv_istore_n (lv' := [(3, .int (iZ z_19)), (4, .int (iZ v4_26)), (0, .ref hm), (1, .int (iZ x1)), (2, .int (iZ x2))]) hx hb dX12_overtaken_65 rfl hl (bl rfl) rfl (fun ls hl => ?_)
            refine lv_iinc (v := iZ (v4_26 + 1)) (lv' := [(4, .int (iZ (v4_26 + 1))), (3, .int (iZ z_19)), (0, .ref hm), (1, .int (iZ x1)), (2, .int (iZ x2))]) hx hb dX12_overtaken_66 hl (k := 1) rfl (iZ_add v4_26 1) (by decide) rfl (fun ls hl => ?_)
            refine lv_goto (tgt := 26) hx hb dX12_overtaken_69 rfl ?_
            exact ih26  z_19 (v4_26 + 1) _ _ _ (by omega) (show (0 ≤ (v4_26 + 1) ∧ (v4_26 + 1) ≤ (gz Af 0) + 1) from ⟨by omega, by omega⟩) (show -2147483648 ≤ z_19 ∧ z_19 < 2147483648 from (by omega)) (show iZ z_19 = bS (fun r => nwK (arF (sh Af 10) (sh Af 46) (gz Af 1)) (gz Af 0) x1 x2 r < arF (sh Af 10) (sh Af 46) (gz Af 1) x1 x2 r) (Int.toNat ((v4_26 + 1))) from (by first | exact sB_y hst (by omega) (show nwK (arF (sh Af 10) (sh Af 46) (gz Af 1)) (gz Af 0) x1 x2 v4_26 < arF (sh Af 10) (sh Af 46) (gz Af 1) x1 x2 v4_26 from by have k9 := nwK_eq (later_ar mF) p_6 (o := v4_26) (by omega) (by omega); have q9 := nwK_rg (later_ar mF) p_6 (o := v4_26) (by omega) (by omega); omega) ex_18 ex_20 | exact sB_r hst (by omega) (show ¬ nwK (arF (sh Af 10) (sh Af 46) (gz Af 1)) (gz Af 0) x1 x2 v4_26 < arF (sh Af 10) (sh Af 46) (gz Af 1) x1 x2 v4_26 from by have k9 := nwK_eq (later_ar mF) p_6 (o := v4_26) (by omega) (by omega); have q9 := nwK_rg (later_ar mF) p_6 (o := v4_26) (by omega) (by omega); omega) ex_20)) (show (v4_26 + 1) ≤ gz Af 0 from (by omega)) (hP.sub [0, 1, 2, 3, 4] rfl) (hD.sub [0, 1, 2, 3, 4] rfl rfl) hS (lv_sub hl [0, 1, 2, 3, 4] rfl)
    exact HL26 10 0 0 _ _ _ (by omega) (show (0 ≤ 0 ∧ 0 ≤ (gz Af 0) + 1) from ⟨by omega, by omega⟩) (show -2147483648 ≤ 0 ∧ 0 < 2147483648 from (by omega)) (show iZ 0 = bS (fun r => nwK (arF (sh Af 10) (sh Af 46) (gz Af 1)) (gz Af 0) x1 x2 r < arF (sh Af 10) (sh Af 46) (gz Af 1) x1 x2 r) (Int.toNat (0)) from sB_0) (show 0 ≤ gz Af 0 from (by omega)) (hP.sub [0, 1, 2, 3, 4] rfl) (hD.sub [0, 1, 2, 3, 4] rfl rfl) hS (lv_sub hl [0, 1, 2, 3, 4] rfl)
  ·
    subst qz_1
    refine lv_if_ne (tgt := 15) hx hb dX12_overtaken_6 rfl (fun c => absurd (by decide) c) (fun _ => ?_)
    refine lv_aload_n hx hb dX12_overtaken_9 rfl (lv_at hl 0 rfl) ?_
    refine lv_iconst (v := iZ 1) hx hb dX12_overtaken_10 rfl ?_
    refine CWV (As := [.int (iZ 1)]) (rest := []) (wc := _) (wr := [(Ma, .inl (k 1, 5340, .inl Af)), (Mk, .inl (k 1, 6, .inl Kf)), (Ml, .inl (k 1, 6, .inl Lf)), (Mb, .inl (k 1, 6, .inl Bf))]) hx hb hml hown hts hKK hP hD hS hA (m_refuse l D k hm Ma Mn Ms My Mt Mp Mx Mo Mk Ml Mb Mh Mc Mz Mr Mq Mst Mtd Msz Mtk Mfr Men Mva Mfk Mfp Mfs Mse Mlt Mdp Mct Mdr Mrs Mit Mmk Mtp Mbt 1) ci_X12_refuse qm_X12_81 ⟨Nat.le_of_ble_eq_true rfl, Nat.le_of_ble_eq_true rfl⟩ ⟨Nat.le_of_ble_eq_true rfl, Nat.le_of_ble_eq_true rfl⟩ [0] [1, 2, 3, 4] rfl rfl rfl rfl rfl (dj rfl) 0 rfl rfl rfl hl.1 rfl (Nat.le_of_ble_eq_true rfl) dX12_overtaken_11 (fun u_22 H locs hφ hP hD hS => ?_)
    refine W.eq (g2 := F0 m 14 ls [.int (iZ (-1))]) rfl ?_
    exact EWi hx hb hr hlocks hS (((-1), 1), 0, (Kf, Lf, Bf), ()) rfl (show (((0 ≤ x1 ∧ x1 < (gz Af 0)) ∧ (0 ≤ x2 ∧ x2 ≤ 400)) ∧ (iZ (-1) = bS (fun r => nwK (arF (sh Af 10) (sh Af 46) (gz Af 1)) (gz Af 0) x1 x2 r < arF (sh Af 10) (sh Af 46) (gz Af 1) x1 x2 r) (gz Af 0).toNat ∧ (-2147483648 ≤ (-1) ∧ (-1) < 2147483648))) ∨ (¬ ((0 ≤ x1 ∧ x1 < (gz Af 0)) ∧ (0 ≤ x2 ∧ x2 ≤ 400)) ∧ ((-1) : Int) = -1) from (Or.inr ⟨by omega, rfl⟩)) (hP.sub [4, 0, 1, 2, 3] rfl) (hD.sub [4, 0, 1, 2, 3] rfl rfl) dX12_overtaken_14
set_option maxHeartbeats 4000000 in
set_option maxRecDepth 100000 in
theorem q_latest (l : Launch) (D : va_G) (k : Nat → ClassId) (hm : Nat) (Ma : Nat) (Mn : Nat) (Ms : Nat) (My : Nat) (Mt : Nat) (Mp : Nat) (Mx : Nat) (Mo : Nat) (Mk : Nat) (Ml : Nat) (Mb : Nat) (Mh : Nat) (Mc : Nat) (Mz : Nat) (Mr : Nat) (Mq : Nat) (Mst : Int) (Mtd : Int) (Msz : Int) (Mtk : Int) (Mfr : Int) (Men : Int) (Mva : Int) (Mfk : Int) (Mfp : Int) (Mfs : Int) (Mse : Int) (Mlt : Int) (Mdp : Int) (Mct : Int) (Mdr : Int) (Mrs : Int) (Mit : Int) (Mmk : Int) (Mtp : Int64) (Mbt : Int64) (Af : Nat → Int32) (Kf : Nat → Int32) (Lf : Nat → Int32) (Bf : Nat → Int32) (x1 : Int) (x2 : Int) (hM : M0 Af) (h9x1 : -2147483648 ≤ x1 ∧ x1 < 2147483648) (h9x2 : -2147483648 ≤ x2 ∧ x2 < 2147483648) : WD (σ := ((Int × Int) × (Int64) × ((Nat → Int32) × (Nat → Int32) × (Nat → Int32)) × (Unit))) l yX12_latest cX12_latest 3 (some .int) 6 0 0 D k [.ref hm, .int (iZ x1), .int (iZ x2)] [(hm, .inr (12, [.ref Ma, .ref Mn, .int (iZ Mst), .long Mtp, .long Mbt, .ref Ms, .ref My, .ref Mt, .ref Mp, .ref Mx, .int (iZ Mtd), .int (iZ Msz), .int (iZ Mtk), .int (iZ Mfr), .int (iZ Men), .int (iZ Mva), .int (iZ Mfk), .int (iZ Mfp), .int (iZ Mfs), .int (iZ Mse), .int (iZ Mlt), .ref Mo, .int (iZ Mdp), .int (iZ Mct), .ref Mk, .ref Ml, .ref Mb, .ref Mh, .ref Mc, .int (iZ Mdr), .int (iZ Mrs), .ref Mz, .ref Mr, .ref Mq, .int (iZ Mit), .int (iZ Mmk)])), (Ma, .inl (k 1, 5340, .inl Af)), (Mk, .inl (k 1, 6, .inl Kf)), (Ml, .inl (k 1, 6, .inl Lf)), (Mb, .inl (k 1, 6, .inl Bf))] (fun u => some (.int (iZ u.1.1))) (fun u => (((0 ≤ x1 ∧ x1 < (gz Af 0)) ∧ (0 ≤ x2 ∧ x2 ≤ 400)) ∧ isLt (nwK (arF (sh Af 10) (sh Af 46) (gz Af 1)) (gz Af 0) x1 x2) (gz Af 0) u.1.1) ∨ (¬ ((0 ≤ x1 ∧ x1 < (gz Af 0)) ∧ (0 ≤ x2 ∧ x2 ≤ 400)) ∧ (u.1.1 : Int) = -1)) (fun u => [(hm, .inr (12, [.ref Ma, .ref Mn, .int (iZ u.1.2), .long Mtp, .long Mbt, .ref Ms, .ref My, .ref Mt, .ref Mp, .ref Mx, .int (iZ Mtd), .int (iZ Msz), .int (iZ Mtk), .int (iZ Mfr), .int (iZ Men), .int (iZ Mva), .int (iZ Mfk), .int (iZ Mfp), .int (iZ Mfs), .int (iZ Mse), .int (iZ Mlt), .ref Mo, .int (iZ Mdp), .int (iZ Mct), .ref Mk, .ref Ml, .ref Mb, .ref Mh, .ref Mc, .int (iZ Mdr), .int (iZ Mrs), .ref Mz, .ref Mr, .ref Mq, .int (iZ Mit), .int (iZ Mmk)])), (Ma, .inl (k 1, 5340, .inl Af)), (Mk, .inl (k 1, 6, .inl u.2.2.1.1)), (Ml, .inl (k 1, 6, .inl u.2.2.1.2.1)), (Mb, .inl (k 1, 6, .inl u.2.2.1.2.2))]) := by
  refine MW (by decide) (Nat.le_of_ble_eq_true rfl) (fun p e s m below meth c ls A hx hb hml hr hlocks hin hts hown hKK hP hD hS hA hl => ?_)
  have hK := hKK.1
  have hl : lv_has ls 3 [(0, .ref hm), (1, .int (iZ x1)), (2, .int (iZ x2))] := hl
  obtain ⟨m0, m1, m3, m4, m5, mF, mO, mS⟩ := id hM
  refine lv_aload_n hx hb dX12_latest_0 rfl (lv_at hl 0 rfl) ?_
  refine lv_iload_n hx hb dX12_latest_1 rfl (lv_at hl 1 rfl) ?_
  refine lv_iload_n hx hb dX12_latest_2 rfl (lv_at hl 2 rfl) ?_
  refine CPV (As := [.int (iZ x1), .int (iZ x2)]) (rest := []) hx hb hml hown hts hKK (hP.sub (ws' := [(hm, .inr (12, [.ref Ma, .ref Mn, .int (iZ Mst), .long Mtp, .long Mbt, .ref Ms, .ref My, .ref Mt, .ref Mp, .ref Mx, .int (iZ Mtd), .int (iZ Msz), .int (iZ Mtk), .int (iZ Mfr), .int (iZ Men), .int (iZ Mva), .int (iZ Mfk), .int (iZ Mfp), .int (iZ Mfs), .int (iZ Mse), .int (iZ Mlt), .ref Mo, .int (iZ Mdp), .int (iZ Mct), .ref Mk, .ref Ml, .ref Mb, .ref Mh, .ref Mc, .int (iZ Mdr), .int (iZ Mrs), .ref Mz, .ref Mr, .ref Mq, .int (iZ Mit), .int (iZ Mmk)])), (Ma, .inl (k 1, 5340, .inl Af))]) [0, 1] rfl) (m_isNews l D k ([.ref Ma, .ref Mn, .int (iZ Mst), .long Mtp, .long Mbt, .ref Ms, .ref My, .ref Mt, .ref Mp, .ref Mx, .int (iZ Mtd), .int (iZ Msz), .int (iZ Mtk), .int (iZ Mfr), .int (iZ Men), .int (iZ Mva), .int (iZ Mfk), .int (iZ Mfp), .int (iZ Mfs), .int (iZ Mse), .int (iZ Mlt), .ref Mo, .int (iZ Mdp), .int (iZ Mct), .ref Mk, .ref Ml, .ref Mb, .ref Mh, .ref Mc, .int (iZ Mdr), .int (iZ Mrs), .ref Mz, .ref Mr, .ref Mq, .int (iZ Mit), .int (iZ Mmk)]) hm Ma Af x1 x2 rfl hM ⟨by omega, by omega⟩ ⟨by omega, by omega⟩) ci_X12_isNews qm_X12_299 ⟨Nat.le_of_ble_eq_true rfl, Nat.le_of_ble_eq_true rfl⟩ ⟨Nat.le_of_ble_eq_true rfl, Nat.le_of_ble_eq_true rfl⟩ 0 rfl rfl rfl hl.1 rfl (Nat.le_of_ble_eq_true rfl) dX12_latest_3 (fun z_1 hz_1 => ?_)
  rcases hz_1 with ⟨qz_1, hz_1⟩ | ⟨qz_1, hz_1⟩
  ·
    subst qz_1
    refine lv_if_ne (tgt := 15) hx hb dX12_latest_6 rfl (fun _ => ?_) (fun c => absurd c (by decide))
    refine lv_aload_n hx hb dX12_latest_15 rfl (lv_at hl 0 rfl) ?_
    refine lv_iload_n hx hb dX12_latest_16 rfl (lv_at hl 1 rfl) ?_
    refine lv_iload_n hx hb dX12_latest_17 rfl (lv_at hl 2 rfl) ?_
    refine CWV (As := [.int (iZ x1), .int (iZ x2)]) (rest := []) (wc := _) (wr := []) hx hb hml hown hts hKK hP hD hS hA (m_lays l D k hm Ma Mn Ms My Mt Mp Mx Mo Mk Ml Mb Mh Mc Mz Mr Mq Mst Mtd Msz Mtk Mfr Men Mva Mfk Mfp Mfs Mse Mlt Mdp Mct Mdr Mrs Mit Mmk Mtp Mbt Af Kf Lf Bf x1 x2 hM ⟨by omega, by omega⟩ ⟨by omega, by omega⟩) ci_X12_lays qm_X12_302 ⟨Nat.le_of_ble_eq_true rfl, Nat.le_of_ble_eq_true rfl⟩ ⟨Nat.le_of_ble_eq_true rfl, Nat.le_of_ble_eq_true rfl⟩ [0, 1, 2, 3, 4] [] rfl rfl rfl rfl rfl (dj rfl) 0 rfl rfl rfl hl.1 rfl (Nat.le_of_ble_eq_true rfl) dX12_latest_18 (fun u_3 H locs hφ hP hD hS => ?_)
    obtain ⟨p_4, p_5, p_6⟩ : (KR u_3.2.2.1.1 6) ∧ (rgI u_3.2.2.1.2.1 (-1) 5 6) ∧ (isNW (arF (sh Af 10) (sh Af 46) (gz Af 1)) (gz Af 0) x1 x2 (gz u_3.2.2.1.1) (gz u_3.2.2.1.2.1) (gz u_3.2.2.1.2.2)) := hφ
    refine W.eq (g2 := F0 m 21 ls []) rfl ?_
    refine lv_aload_n hx hb dX12_latest_21 rfl (lv_at hl 0 rfl) ?_
    refine va_get (D := D) (ci := 12) (v := .ref Mk) (C := RX12) (T := TX12) (N := 36) hx hb hts iX12 hown hK hP 0 rfl rfl 24 (bl rfl) (hts _ qf_X12_47) (fun _ h => h) rfl dX12_latest_22 ?_
    refine lv_aload_n hx hb dX12_latest_25 rfl (lv_at hl 0 rfl) ?_
    refine CPV (As := []) (rest := [.ref Mk]) hx hb hml hown hts hKK (hP.sub (ws' := [(hm, .inr (12, [.ref Ma, .ref Mn, .int (iZ Mst), .long Mtp, .long Mbt, .ref Ms, .ref My, .ref Mt, .ref Mp, .ref Mx, .int (iZ Mtd), .int (iZ Msz), .int (iZ Mtk), .int (iZ Mfr), .int (iZ Men), .int (iZ Mva), .int (iZ Mfk), .int (iZ Mfp), .int (iZ Mfs), .int (iZ Mse), .int (iZ Mlt), .ref Mo, .int (iZ Mdp), .int (iZ Mct), .ref Mk, .ref Ml, .ref Mb, .ref Mh, .ref Mc, .int (iZ Mdr), .int (iZ Mrs), .ref Mz, .ref Mr, .ref Mq, .int (iZ Mit), .int (iZ Mmk)])), (Ma, .inl (k 1, 5340, .inl Af)), (Mk, .inl (k 1, 6, .inl u_3.2.2.1.1))]) [0, 1, 2] rfl) (m_lastOne l D k ([.ref Ma, .ref Mn, .int (iZ Mst), .long Mtp, .long Mbt, .ref Ms, .ref My, .ref Mt, .ref Mp, .ref Mx, .int (iZ Mtd), .int (iZ Msz), .int (iZ Mtk), .int (iZ Mfr), .int (iZ Men), .int (iZ Mva), .int (iZ Mfk), .int (iZ Mfp), .int (iZ Mfs), .int (iZ Mse), .int (iZ Mlt), .ref Mo, .int (iZ Mdp), .int (iZ Mct), .ref Mk, .ref Ml, .ref Mb, .ref Mh, .ref Mc, .int (iZ Mdr), .int (iZ Mrs), .ref Mz, .ref Mr, .ref Mq, .int (iZ Mit), .int (iZ Mmk)]) hm Ma Mk Af u_3.2.2.1.1 rfl rfl hM) ci_X12_lastOne qm_X12_311 ⟨Nat.le_of_ble_eq_true rfl, Nat.le_of_ble_eq_true rfl⟩ ⟨Nat.le_of_ble_eq_true rfl, Nat.le_of_ble_eq_true rfl⟩ 0 rfl rfl rfl hl.1 rfl (Nat.le_of_ble_eq_true rfl) dX12_latest_26 (fun z_7 hz_7 => ?_)
    obtain ⟨az_7, bz_7⟩ := hz_7
    have lz_7 := bz_7 (by omega)
    refine va_iald hx hb hK hP 2 1 rfl rfl (zin (e := z_7) (n := 6) ⟨by omega, by omega⟩ (bl rfl)) dX12_latest_29 ?_
    refine lv_topi (fun x_8 ex_8 => ?_)
    obtain rfl : x_8 = iZ (gz u_3.2.2.1.1 z_7) := ex_8.trans (gz_eq ⟨by omega, by omega⟩)
    have h_9 := p_4 z_7 (by omega) (by omega)
    refine lv_ldc (own := RX12) (v := 1000000) hx hb hown (hts _ qk_X12_88) dX12_latest_30 ?_
    refine W.eq (g2 := F0 m 32 ls [.int (iZ 1000000), .int (iZ (gz u_3.2.2.1.1 z_7))]) rfl ?_
    refine lv_icmp_ne (tgt := 44) hx hb dX12_latest_32 rfl (fun c_10 => ?_) (fun c_10 => ?_)
    ·
      have c_10 := mt (zeq (x := iZ (gz u_3.2.2.1.1 z_7)) (y := iZ 1000000) rfl rfl (gz_rg u_3.2.2.1.1 z_7) wn_1000000).mpr c_10
      refine lv_aload_n hx hb dX12_latest_44 rfl (lv_at hl 0 rfl) ?_
      refine lv_aload_n hx hb dX12_latest_45 rfl (lv_at hl 0 rfl) ?_
      refine CPV (As := []) (rest := [.ref hm]) hx hb hml hown hts hKK (hP.sub (ws' := [(hm, .inr (12, [.ref Ma, .ref Mn, .int (iZ Mst), .long Mtp, .long Mbt, .ref Ms, .ref My, .ref Mt, .ref Mp, .ref Mx, .int (iZ Mtd), .int (iZ Msz), .int (iZ Mtk), .int (iZ Mfr), .int (iZ Men), .int (iZ Mva), .int (iZ Mfk), .int (iZ Mfp), .int (iZ Mfs), .int (iZ Mse), .int (iZ Mlt), .ref Mo, .int (iZ Mdp), .int (iZ Mct), .ref Mk, .ref Ml, .ref Mb, .ref Mh, .ref Mc, .int (iZ Mdr), .int (iZ Mrs), .ref Mz, .ref Mr, .ref Mq, .int (iZ Mit), .int (iZ Mmk)])), (Ma, .inl (k 1, 5340, .inl Af)), (Mk, .inl (k 1, 6, .inl u_3.2.2.1.1))]) [0, 1, 2] rfl) (m_lastOne l D k ([.ref Ma, .ref Mn, .int (iZ Mst), .long Mtp, .long Mbt, .ref Ms, .ref My, .ref Mt, .ref Mp, .ref Mx, .int (iZ Mtd), .int (iZ Msz), .int (iZ Mtk), .int (iZ Mfr), .int (iZ Men), .int (iZ Mva), .int (iZ Mfk), .int (iZ Mfp), .int (iZ Mfs), .int (iZ Mse), .int (iZ Mlt), .ref Mo, .int (iZ Mdp), .int (iZ Mct), .ref Mk, .ref Ml, .ref Mb, .ref Mh, .ref Mc, .int (iZ Mdr), .int (iZ Mrs), .ref Mz, .ref Mr, .ref Mq, .int (iZ Mit), .int (iZ Mmk)]) hm Ma Mk Af u_3.2.2.1.1 rfl rfl hM) ci_X12_lastOne qm_X12_311 ⟨Nat.le_of_ble_eq_true rfl, Nat.le_of_ble_eq_true rfl⟩ ⟨Nat.le_of_ble_eq_true rfl, Nat.le_of_ble_eq_true rfl⟩ 0 rfl rfl rfl hl.1 rfl (Nat.le_of_ble_eq_true rfl) dX12_latest_46 (fun z_11 hz_11 => ?_)
      obtain ⟨az_11, bz_11⟩ := hz_11
      have lz_11 := bz_11 (by omega)
      refine CWV (As := [.int (iZ z_11)]) (rest := []) (wc := _) (wr := [(Ma, .inl (k 1, 5340, .inl Af)), (Mk, .inl (k 1, 6, .inl u_3.2.2.1.1)), (Ml, .inl (k 1, 6, .inl u_3.2.2.1.2.1)), (Mb, .inl (k 1, 6, .inl u_3.2.2.1.2.2))]) hx hb hml hown hts hKK hP hD hS hA (m_gives l D k hm Ma Mn Ms My Mt Mp Mx Mo Mk Ml Mb Mh Mc Mz Mr Mq Mst Mtd Msz Mtk Mfr Men Mva Mfk Mfp Mfs Mse Mlt Mdp Mct Mdr Mrs Mit Mmk Mtp Mbt z_11) ci_X12_gives qm_X12_85 ⟨Nat.le_of_ble_eq_true rfl, Nat.le_of_ble_eq_true rfl⟩ ⟨Nat.le_of_ble_eq_true rfl, Nat.le_of_ble_eq_true rfl⟩ [0] [1, 2, 3, 4] rfl rfl rfl rfl rfl (dj rfl) 0 rfl rfl rfl hl.1 rfl (Nat.le_of_ble_eq_true rfl) dX12_latest_49 (fun u_12 H locs hφ hP hD hS => ?_)
      refine W.eq (g2 := F0 m 52 ls [.int (iZ z_11)]) rfl ?_
      exact EWi hx hb hr hlocks hS ((z_11, 0), 0, (u_3.2.2.1.1, u_3.2.2.1.2.1, u_3.2.2.1.2.2), ()) rfl (show (((0 ≤ x1 ∧ x1 < (gz Af 0)) ∧ (0 ≤ x2 ∧ x2 ≤ 400)) ∧ isLt (nwK (arF (sh Af 10) (sh Af 46) (gz Af 1)) (gz Af 0) x1 x2) (gz Af 0) z_11) ∨ (¬ ((0 ≤ x1 ∧ x1 < (gz Af 0)) ∧ (0 ≤ x2 ∧ x2 ≤ 400)) ∧ (z_11 : Int) = -1) from (Or.inl ⟨by omega, isLt_like (isLt_r lz_7 (by omega) (fun r9 h1 h2 => (p_6.2.1 r9 h1 h2).2) (Or.inr ⟨by omega, lz_11⟩)) (fun j h1 h2 => nwK_eq (later_ar mF) p_6 h1 h2)⟩)) (hP.sub [4, 0, 1, 2, 3] rfl) (hD.sub [4, 0, 1, 2, 3] rfl rfl) dX12_latest_52
    ·
      have c_10 := (zeq (x := iZ (gz u_3.2.2.1.1 z_7)) (y := iZ 1000000) rfl rfl (gz_rg u_3.2.2.1.1 z_7) wn_1000000).mp c_10
      refine lv_aload_n hx hb dX12_latest_35 rfl (lv_at hl 0 rfl) ?_
      refine lv_bipush (v := iZ 6) hx hb dX12_latest_36 bip_6 ?_
      refine CWV (As := [.int (iZ 6)]) (rest := []) (wc := _) (wr := [(Ma, .inl (k 1, 5340, .inl Af)), (Mk, .inl (k 1, 6, .inl u_3.2.2.1.1)), (Ml, .inl (k 1, 6, .inl u_3.2.2.1.2.1)), (Mb, .inl (k 1, 6, .inl u_3.2.2.1.2.2))]) hx hb hml hown hts hKK hP hD hS hA (m_refuse l D k hm Ma Mn Ms My Mt Mp Mx Mo Mk Ml Mb Mh Mc Mz Mr Mq Mst Mtd Msz Mtk Mfr Men Mva Mfk Mfp Mfs Mse Mlt Mdp Mct Mdr Mrs Mit Mmk Mtp Mbt 6) ci_X12_refuse qm_X12_81 ⟨Nat.le_of_ble_eq_true rfl, Nat.le_of_ble_eq_true rfl⟩ ⟨Nat.le_of_ble_eq_true rfl, Nat.le_of_ble_eq_true rfl⟩ [0] [1, 2, 3, 4] rfl rfl rfl rfl rfl (dj rfl) 0 rfl rfl rfl hl.1 rfl (Nat.le_of_ble_eq_true rfl) dX12_latest_38 (fun u_13 H locs hφ hP hD hS => ?_)
      refine W.eq (g2 := F0 m 41 ls [.int (iZ (-1))]) rfl ?_
      refine lv_goto (tgt := 52) hx hb dX12_latest_41 rfl ?_
      exact EWi hx hb hr hlocks hS (((-1), 6), 0, (u_3.2.2.1.1, u_3.2.2.1.2.1, u_3.2.2.1.2.2), ()) rfl (show (((0 ≤ x1 ∧ x1 < (gz Af 0)) ∧ (0 ≤ x2 ∧ x2 ≤ 400)) ∧ isLt (nwK (arF (sh Af 10) (sh Af 46) (gz Af 1)) (gz Af 0) x1 x2) (gz Af 0) (-1)) ∨ (¬ ((0 ≤ x1 ∧ x1 < (gz Af 0)) ∧ (0 ≤ x2 ∧ x2 ≤ 400)) ∧ ((-1) : Int) = -1) from (Or.inl ⟨by omega, isLt_like (isLt_r lz_7 (by omega) (fun r9 h1 h2 => (p_6.2.1 r9 h1 h2).2) (Or.inl ⟨by omega, rfl⟩)) (fun j h1 h2 => nwK_eq (later_ar mF) p_6 h1 h2)⟩)) (hP.sub [4, 0, 1, 2, 3] rfl) (hD.sub [4, 0, 1, 2, 3] rfl rfl) dX12_latest_52
  ·
    subst qz_1
    refine lv_if_ne (tgt := 15) hx hb dX12_latest_6 rfl (fun c => absurd (by decide) c) (fun _ => ?_)
    refine lv_aload_n hx hb dX12_latest_9 rfl (lv_at hl 0 rfl) ?_
    refine lv_iconst (v := iZ 1) hx hb dX12_latest_10 rfl ?_
    refine CWV (As := [.int (iZ 1)]) (rest := []) (wc := _) (wr := [(Ma, .inl (k 1, 5340, .inl Af)), (Mk, .inl (k 1, 6, .inl Kf)), (Ml, .inl (k 1, 6, .inl Lf)), (Mb, .inl (k 1, 6, .inl Bf))]) hx hb hml hown hts hKK hP hD hS hA (m_refuse l D k hm Ma Mn Ms My Mt Mp Mx Mo Mk Ml Mb Mh Mc Mz Mr Mq Mst Mtd Msz Mtk Mfr Men Mva Mfk Mfp Mfs Mse Mlt Mdp Mct Mdr Mrs Mit Mmk Mtp Mbt 1) ci_X12_refuse qm_X12_81 ⟨Nat.le_of_ble_eq_true rfl, Nat.le_of_ble_eq_true rfl⟩ ⟨Nat.le_of_ble_eq_true rfl, Nat.le_of_ble_eq_true rfl⟩ [0] [1, 2, 3, 4] rfl rfl rfl rfl rfl (dj rfl) 0 rfl rfl rfl hl.1 rfl (Nat.le_of_ble_eq_true rfl) dX12_latest_11 (fun u_15 H locs hφ hP hD hS => ?_)
    refine W.eq (g2 := F0 m 14 ls [.int (iZ (-1))]) rfl ?_
    exact EWi hx hb hr hlocks hS (((-1), 1), 0, (Kf, Lf, Bf), ()) rfl (show (((0 ≤ x1 ∧ x1 < (gz Af 0)) ∧ (0 ≤ x2 ∧ x2 ≤ 400)) ∧ isLt (nwK (arF (sh Af 10) (sh Af 46) (gz Af 1)) (gz Af 0) x1 x2) (gz Af 0) (-1)) ∨ (¬ ((0 ≤ x1 ∧ x1 < (gz Af 0)) ∧ (0 ≤ x2 ∧ x2 ≤ 400)) ∧ ((-1) : Int) = -1) from (Or.inr ⟨by omega, rfl⟩)) (hP.sub [4, 0, 1, 2, 3] rfl) (hD.sub [4, 0, 1, 2, 3] rfl rfl) dX12_latest_14
set_option maxHeartbeats 4000000 in
set_option maxRecDepth 100000 in
theorem q_centre (l : Launch) (D : va_G) (k : Nat → ClassId) (hm : Nat) (Ma : Nat) (Mn : Nat) (Ms : Nat) (My : Nat) (Mt : Nat) (Mp : Nat) (Mx : Nat) (Mo : Nat) (Mk : Nat) (Ml : Nat) (Mb : Nat) (Mh : Nat) (Mc : Nat) (Mz : Nat) (Mr : Nat) (Mq : Nat) (Mst : Int) (Mtd : Int) (Msz : Int) (Mtk : Int) (Mfr : Int) (Men : Int) (Mva : Int) (Mfk : Int) (Mfp : Int) (Mfs : Int) (Mse : Int) (Mlt : Int) (Mdp : Int) (Mct : Int) (Mdr : Int) (Mrs : Int) (Mit : Int) (Mmk : Int) (Mtp : Int64) (Mbt : Int64) (Af : Nat → Int32) (Kf : Nat → Int32) (Lf : Nat → Int32) (Bf : Nat → Int32) (x1 : Int) (hM : M0 Af) (h9x1 : -2147483648 ≤ x1 ∧ x1 < 2147483648) : WD (σ := ((Int × Int) × (Int64) × ((Nat → Int32) × (Nat → Int32) × (Nat → Int32)) × (Unit))) l yX12_centre cX12_centre 5 (some .int) 6 0 0 D k [.ref hm, .int (iZ x1)] [(hm, .inr (12, [.ref Ma, .ref Mn, .int (iZ Mst), .long Mtp, .long Mbt, .ref Ms, .ref My, .ref Mt, .ref Mp, .ref Mx, .int (iZ Mtd), .int (iZ Msz), .int (iZ Mtk), .int (iZ Mfr), .int (iZ Men), .int (iZ Mva), .int (iZ Mfk), .int (iZ Mfp), .int (iZ Mfs), .int (iZ Mse), .int (iZ Mlt), .ref Mo, .int (iZ Mdp), .int (iZ Mct), .ref Mk, .ref Ml, .ref Mb, .ref Mh, .ref Mc, .int (iZ Mdr), .int (iZ Mrs), .ref Mz, .ref Mr, .ref Mq, .int (iZ Mit), .int (iZ Mmk)])), (Ma, .inl (k 1, 5340, .inl Af)), (Mk, .inl (k 1, 6, .inl Kf)), (Ml, .inl (k 1, 6, .inl Lf)), (Mb, .inl (k 1, 6, .inl Bf))] (fun u => some (.int (iZ u.1.1))) (fun u => (((0 ≤ x1 ∧ x1 ≤ 400)) ∧ isCn (fun r => mxF (nwK (arF (sh Af 10) (sh Af 46) (gz Af 1)) (gz Af 0) r x1) (gz Af 0).toNat) (gz Af 0) u.1.1) ∨ (¬ ((0 ≤ x1 ∧ x1 ≤ 400)) ∧ (u.1.1 : Int) = -1)) (fun u => [(hm, .inr (12, [.ref Ma, .ref Mn, .int (iZ u.1.2), .long Mtp, .long Mbt, .ref Ms, .ref My, .ref Mt, .ref Mp, .ref Mx, .int (iZ Mtd), .int (iZ Msz), .int (iZ Mtk), .int (iZ Mfr), .int (iZ Men), .int (iZ Mva), .int (iZ Mfk), .int (iZ Mfp), .int (iZ Mfs), .int (iZ Mse), .int (iZ Mlt), .ref Mo, .int (iZ Mdp), .int (iZ Mct), .ref Mk, .ref Ml, .ref Mb, .ref Mh, .ref Mc, .int (iZ Mdr), .int (iZ Mrs), .ref Mz, .ref Mr, .ref Mq, .int (iZ Mit), .int (iZ Mmk)])), (Ma, .inl (k 1, 5340, .inl Af)), (Mk, .inl (k 1, 6, .inl u.2.2.1.1)), (Ml, .inl (k 1, 6, .inl u.2.2.1.2.1)), (Mb, .inl (k 1, 6, .inl u.2.2.1.2.2))]) := by
  refine MW (by decide) (Nat.le_of_ble_eq_true rfl) (fun p e s m below meth c ls A hx hb hml hr hlocks hin hts hown hKK hP hD hS hA hl => ?_)
  have hK := hKK.1
  have hl : lv_has ls 5 [(0, .ref hm), (1, .int (iZ x1))] := hl
  obtain ⟨m0, m1, m3, m4, m5, mF, mO, mS⟩ := id hM
  refine lv_iload_n hx hb dX12_centre_0 rfl (lv_at hl 1 rfl) ?_
  refine CPS (As := [.int (iZ x1)]) (rest := []) hx hb hml hown hts hKK (hP.sub (ws' := []) [] rfl) (m_isWeek l D k x1 ⟨by omega, by omega⟩) ci_X12_isWeek qm_X12_268 ⟨Nat.le_of_ble_eq_true rfl, Nat.le_of_ble_eq_true rfl⟩ ⟨Nat.le_of_ble_eq_true rfl, Nat.le_of_ble_eq_true rfl⟩ rfl hl.1 rfl (Nat.le_of_ble_eq_true rfl) dX12_centre_1 (fun z_1 hz_1 => ?_)
  rcases hz_1 with ⟨qz_1, hz_1⟩ | ⟨qz_1, hz_1⟩
  ·
    subst qz_1
    refine lv_if_ne (tgt := 13) hx hb dX12_centre_4 rfl (fun _ => ?_) (fun c => absurd c (by decide))
    refine lv_iconst (v := iZ (-1)) hx hb dX12_centre_13 rfl ?_
    refine lv_istore_n (lv' := [(2, .int (iZ (-1))), (0, .ref hm), (1, .int (iZ x1))]) hx hb dX12_centre_14 rfl hl (bl rfl) rfl (fun ls hl => ?_)
    refine lv_ldc (own := RX12) (v := 1000000) hx hb hown (hts _ qk_X12_88) dX12_centre_15 ?_
    refine W.eq (g2 := F0 m 17 ls [.int (iZ 1000000)]) rfl ?_
    refine lv_istore_n (lv' := [(3, .int (iZ 1000000)), (2, .int (iZ (-1))), (0, .ref hm), (1, .int (iZ x1))]) hx hb dX12_centre_17 rfl hl (bl rfl) rfl (fun ls hl => ?_)
    refine lv_iconst (v := iZ 0) hx hb dX12_centre_18 rfl ?_
    refine lv_istore (lv' := [(4, .int (iZ 0)), (3, .int (iZ 1000000)), (2, .int (iZ (-1))), (0, .ref hm), (1, .int (iZ x1))]) hx hb dX12_centre_19 hl (bl rfl) rfl (fun ls hl => ?_)
    have HL21 : ∀ (fu : Nat) (v3_21 : Int) (v2_21 : Int) (v4_21 : Int) (Kfq21 : Nat → Int32) (Lfq21 : Nat → Int32) (Bfq21 : Nat → Int32) (H : Heap) (locs : List Loc) (ls : Array Slot), ((gz Af 0) + 2 - v4_21) < (fu : Int) → ((0 ≤ v4_21 ∧ v4_21 ≤ (gz Af 0) + 1)) → (-1 ≤ v2_21 ∧ v2_21 < gz Af 0) → (-2147483648 ≤ v3_21 ∧ v3_21 < 2147483648) → (isCn (fun r => mxF (nwK (arF (sh Af 10) (sh Af 46) (gz Af 1)) (gz Af 0) r x1) (gz Af 0).toNat) v4_21 v2_21 ∧ (((v2_21 : Int) = -1 ∧ (v3_21 : Int) = 1000000) ∨ (¬ (v2_21 : Int) = -1 ∧ (v3_21 : Int) = mxF (nwK (arF (sh Af 10) (sh Af 46) (gz Af 1)) (gz Af 0) v2_21 x1) (gz Af 0).toNat))) → (v4_21 ≤ gz Af 0) → va_P D vwCl [(hm, .inr (12, [.ref Ma, .ref Mn, .int (iZ Mst), .long Mtp, .long Mbt, .ref Ms, .ref My, .ref Mt, .ref Mp, .ref Mx, .int (iZ Mtd), .int (iZ Msz), .int (iZ Mtk), .int (iZ Mfr), .int (iZ Men), .int (iZ Mva), .int (iZ Mfk), .int (iZ Mfp), .int (iZ Mfs), .int (iZ Mse), .int (iZ Mlt), .ref Mo, .int (iZ Mdp), .int (iZ Mct), .ref Mk, .ref Ml, .ref Mb, .ref Mh, .ref Mc, .int (iZ Mdr), .int (iZ Mrs), .ref Mz, .ref Mr, .ref Mq, .int (iZ Mit), .int (iZ Mmk)])), (Ma, .inl (k 1, 5340, .inl Af)), (Mk, .inl (k 1, 6, .inl Kfq21)), (Ml, .inl (k 1, 6, .inl Lfq21)), (Mb, .inl (k 1, 6, .inl Bfq21))] H → va_D A [(hm, .inr (12, [.ref Ma, .ref Mn, .int (iZ Mst), .long Mtp, .long Mbt, .ref Ms, .ref My, .ref Mt, .ref Mp, .ref Mx, .int (iZ Mtd), .int (iZ Msz), .int (iZ Mtk), .int (iZ Mfr), .int (iZ Men), .int (iZ Mva), .int (iZ Mfk), .int (iZ Mfp), .int (iZ Mfs), .int (iZ Mse), .int (iZ Mlt), .ref Mo, .int (iZ Mdp), .int (iZ Mct), .ref Mk, .ref Ml, .ref Mb, .ref Mh, .ref Mc, .int (iZ Mdr), .int (iZ Mrs), .ref Mz, .ref Mr, .ref Mq, .int (iZ Mit), .int (iZ Mmk)])), (Ma, .inl (k 1, 5340, .inl Af)), (Mk, .inl (k 1, 6, .inl Kfq21)), (Ml, .inl (k 1, 6, .inl Lfq21)), (Mb, .inl (k 1, 6, .inl Bfq21))] → va_S A s.heap H locs → lv_has ls 5 [(4, .int (iZ v4_21)), (3, .int (iZ v3_21)), (2, .int (iZ v2_21)), (0, .ref hm), (1, .int (iZ x1))] → W p l e (rj 6 0 0) s m [.ref hm, .int (iZ x1)].toArray below meth c H locs 0 0 (MQ below (QW (σ := ((Int × Int) × (Int64) × ((Nat → Int32) × (Nat → Int32) × (Nat → Int32)) × (Unit))) (fun u => some (.int (iZ u.1.1))) (fun u => (((0 ≤ x1 ∧ x1 ≤ 400)) ∧ isCn (fun r => mxF (nwK (arF (sh Af 10) (sh Af 46) (gz Af 1)) (gz Af 0) r x1) (gz Af 0).toNat) (gz Af 0) u.1.1) ∨ (¬ ((0 ≤ x1 ∧ x1 ≤ 400)) ∧ (u.1.1 : Int) = -1)) (fun u => [(hm, .inr (12, [.ref Ma, .ref Mn, .int (iZ u.1.2), .long Mtp, .long Mbt, .ref Ms, .ref My, .ref Mt, .ref Mp, .ref Mx, .int (iZ Mtd), .int (iZ Msz), .int (iZ Mtk), .int (iZ Mfr), .int (iZ Men), .int (iZ Mva), .int (iZ Mfk), .int (iZ Mfp), .int (iZ Mfs), .int (iZ Mse), .int (iZ Mlt), .ref Mo, .int (iZ Mdp), .int (iZ Mct), .ref Mk, .ref Ml, .ref Mb, .ref Mh, .ref Mc, .int (iZ Mdr), .int (iZ Mrs), .ref Mz, .ref Mr, .ref Mq, .int (iZ Mit), .int (iZ Mmk)])), (Ma, .inl (k 1, 5340, .inl Af)), (Mk, .inl (k 1, 6, .inl u.2.2.1.1)), (Ml, .inl (k 1, 6, .inl u.2.2.1.2.1)), (Mb, .inl (k 1, 6, .inl u.2.2.1.2.2))]) D A) [.ref hm, .int (iZ x1)].toArray s 0 0 A) (F0 m 21 ls []) := by
      intro fu
      induction fu with
      | zero => intro v3_21 v2_21 v4_21 Kfq21 Lfq21 Bfq21 H locs ls hμ21 hi21 hf0_21 hf1_21 hcn hbn hP hD hS hl; exact absurd hμ21 (by omega)
      | succ fu ih21 =>
        intro v3_21 v2_21 v4_21 Kfq21 Lfq21 Bfq21 H locs ls hμ21 hi21 hf0_21 hf1_21 hcn hbn hP hD hS hl
        obtain ⟨hcn1, hcn2⟩ := id hcn
        refine lv_iload hx hb dX12_centre_21 (lv_at hl 0 rfl) ?_
        refine lv_aload_n hx hb dX12_centre_23 rfl (lv_at hl 3 rfl) ?_
        refine va_get (D := D) (ci := 12) (v := .ref Ma) (C := RX12) (T := TX12) (N := 36) hx hb hts iX12 hown hK hP 0 rfl rfl 0 (bl rfl) (hts _ qf_X12_7) (fun _ h => h) rfl dX12_centre_24 ?_
        refine lv_iconst (v := iZ 0) hx hb dX12_centre_27 rfl ?_
        refine va_iald hx hb hK hP 1 1 rfl rfl (zin (e := 0) (n := 5340) ⟨by omega, by omega⟩ (bl rfl)) dX12_centre_28 ?_
        refine lv_topi (fun x_3 ex_3 => ?_)
        obtain rfl : x_3 = iZ (gz Af 0) := ex_3.trans (gz_eq ⟨by omega, by omega⟩)
        have h_4 := gz_rg Af 0
        refine lv_icmp_ge (tgt := 74) hx hb dX12_centre_29 rfl (fun c_5 => ?_) (fun c_5 => ?_)
        ·
          have c_5 := (zle (x := iZ (gz Af 0)) (y := iZ v4_21) rfl rfl (gz_rg Af 0) ⟨by omega, by omega⟩).mp c_5
          refine lv_aload_n hx hb dX12_centre_74 rfl (lv_at hl 3 rfl) ?_
          refine lv_iload_n hx hb dX12_centre_75 rfl (lv_at hl 2 rfl) ?_
          refine CWV (As := [.int (iZ v2_21)]) (rest := []) (wc := _) (wr := [(Ma, .inl (k 1, 5340, .inl Af)), (Mk, .inl (k 1, 6, .inl Kfq21)), (Ml, .inl (k 1, 6, .inl Lfq21)), (Mb, .inl (k 1, 6, .inl Bfq21))]) hx hb hml hown hts hKK hP hD hS hA (m_orNone l D k hm Ma Mn Ms My Mt Mp Mx Mo Mk Ml Mb Mh Mc Mz Mr Mq Mst Mtd Msz Mtk Mfr Men Mva Mfk Mfp Mfs Mse Mlt Mdp Mct Mdr Mrs Mit Mmk Mtp Mbt v2_21 ⟨by omega, by omega⟩) ci_X12_orNone qm_X12_290 ⟨Nat.le_of_ble_eq_true rfl, Nat.le_of_ble_eq_true rfl⟩ ⟨Nat.le_of_ble_eq_true rfl, Nat.le_of_ble_eq_true rfl⟩ [0] [1, 2, 3, 4] rfl rfl rfl rfl rfl (dj rfl) 0 rfl rfl rfl hl.1 rfl (Nat.le_of_ble_eq_true rfl) dX12_centre_76 (fun u_6 H locs hφ hP hD hS => ?_)
          have p_7 : ((v2_21 : Int) = -1 ∧ u_6.1.2 = 6) ∨ (¬ (v2_21 : Int) = -1 ∧ u_6.1.2 = 0) := hφ
          refine W.eq (g2 := F0 m 79 ls [.int (iZ v2_21)]) rfl ?_
          exact EWi hx hb hr hlocks hS ((v2_21, u_6.1.2), 0, (Kfq21, Lfq21, Bfq21), ()) rfl (show (((0 ≤ x1 ∧ x1 ≤ 400)) ∧ isCn (fun r => mxF (nwK (arF (sh Af 10) (sh Af 46) (gz Af 1)) (gz Af 0) r x1) (gz Af 0).toNat) (gz Af 0) v2_21) ∨ (¬ ((0 ≤ x1 ∧ x1 ≤ 400)) ∧ (v2_21 : Int) = -1) from (Or.inl ⟨by omega, isCn_e hcn.1 (by omega)⟩)) (hP.sub [4, 0, 1, 2, 3] rfl) (hD.sub [4, 0, 1, 2, 3] rfl rfl) dX12_centre_79
        ·
          have c_5 := mt (zle (x := iZ (gz Af 0)) (y := iZ v4_21) rfl rfl (gz_rg Af 0) ⟨by omega, by omega⟩).mpr c_5
          refine lv_aload_n hx hb dX12_centre_32 rfl (lv_at hl 3 rfl) ?_
          refine lv_iload hx hb dX12_centre_33 (lv_at hl 0 rfl) ?_
          refine lv_iload_n hx hb dX12_centre_35 rfl (lv_at hl 4 rfl) ?_
          refine CWV (As := [.int (iZ v4_21), .int (iZ x1)]) (rest := []) (wc := _) (wr := []) hx hb hml hown hts hKK hP hD hS hA (m_lays l D k hm Ma Mn Ms My Mt Mp Mx Mo Mk Ml Mb Mh Mc Mz Mr Mq Mst Mtd Msz Mtk Mfr Men Mva Mfk Mfp Mfs Mse Mlt Mdp Mct Mdr Mrs Mit Mmk Mtp Mbt Af Kfq21 Lfq21 Bfq21 v4_21 x1 hM ⟨by omega, by omega⟩ ⟨by omega, by omega⟩) ci_X12_lays qm_X12_302 ⟨Nat.le_of_ble_eq_true rfl, Nat.le_of_ble_eq_true rfl⟩ ⟨Nat.le_of_ble_eq_true rfl, Nat.le_of_ble_eq_true rfl⟩ [0, 1, 2, 3, 4] [] rfl rfl rfl rfl rfl (dj rfl) 0 rfl rfl rfl hl.1 rfl (Nat.le_of_ble_eq_true rfl) dX12_centre_36 (fun u_8 H locs hφ hP hD hS => ?_)
          obtain ⟨p_9, p_10, p_11⟩ : (KR u_8.2.2.1.1 6) ∧ (rgI u_8.2.2.1.2.1 (-1) 5 6) ∧ (isNW (arF (sh Af 10) (sh Af 46) (gz Af 1)) (gz Af 0) v4_21 x1 (gz u_8.2.2.1.1) (gz u_8.2.2.1.2.1) (gz u_8.2.2.1.2.2)) := hφ
          refine W.eq (g2 := F0 m 39 ls []) rfl ?_
          refine lv_aload_n hx hb dX12_centre_39 rfl (lv_at hl 3 rfl) ?_
          refine va_get (D := D) (ci := 12) (v := .ref Mk) (C := RX12) (T := TX12) (N := 36) hx hb hts iX12 hown hK hP 0 rfl rfl 24 (bl rfl) (hts _ qf_X12_47) (fun _ h => h) rfl dX12_centre_40 ?_
          refine lv_aload_n hx hb dX12_centre_43 rfl (lv_at hl 3 rfl) ?_
          refine CPV (As := []) (rest := [.ref Mk]) hx hb hml hown hts hKK (hP.sub (ws' := [(hm, .inr (12, [.ref Ma, .ref Mn, .int (iZ Mst), .long Mtp, .long Mbt, .ref Ms, .ref My, .ref Mt, .ref Mp, .ref Mx, .int (iZ Mtd), .int (iZ Msz), .int (iZ Mtk), .int (iZ Mfr), .int (iZ Men), .int (iZ Mva), .int (iZ Mfk), .int (iZ Mfp), .int (iZ Mfs), .int (iZ Mse), .int (iZ Mlt), .ref Mo, .int (iZ Mdp), .int (iZ Mct), .ref Mk, .ref Ml, .ref Mb, .ref Mh, .ref Mc, .int (iZ Mdr), .int (iZ Mrs), .ref Mz, .ref Mr, .ref Mq, .int (iZ Mit), .int (iZ Mmk)])), (Ma, .inl (k 1, 5340, .inl Af)), (Mk, .inl (k 1, 6, .inl u_8.2.2.1.1))]) [0, 1, 2] rfl) (m_lastOne l D k ([.ref Ma, .ref Mn, .int (iZ Mst), .long Mtp, .long Mbt, .ref Ms, .ref My, .ref Mt, .ref Mp, .ref Mx, .int (iZ Mtd), .int (iZ Msz), .int (iZ Mtk), .int (iZ Mfr), .int (iZ Men), .int (iZ Mva), .int (iZ Mfk), .int (iZ Mfp), .int (iZ Mfs), .int (iZ Mse), .int (iZ Mlt), .ref Mo, .int (iZ Mdp), .int (iZ Mct), .ref Mk, .ref Ml, .ref Mb, .ref Mh, .ref Mc, .int (iZ Mdr), .int (iZ Mrs), .ref Mz, .ref Mr, .ref Mq, .int (iZ Mit), .int (iZ Mmk)]) hm Ma Mk Af u_8.2.2.1.1 rfl rfl hM) ci_X12_lastOne qm_X12_311 ⟨Nat.le_of_ble_eq_true rfl, Nat.le_of_ble_eq_true rfl⟩ ⟨Nat.le_of_ble_eq_true rfl, Nat.le_of_ble_eq_true rfl⟩ 0 rfl rfl rfl hl.1 rfl (Nat.le_of_ble_eq_true rfl) dX12_centre_44 (fun z_12 hz_12 => ?_)
          obtain ⟨az_12, bz_12⟩ := hz_12
          have lz_12 := bz_12 (by omega)
          refine va_iald hx hb hK hP 2 1 rfl rfl (zin (e := z_12) (n := 6) ⟨by omega, by omega⟩ (bl rfl)) dX12_centre_47 ?_
          refine lv_topi (fun x_13 ex_13 => ?_)
          obtain rfl : x_13 = iZ (gz u_8.2.2.1.1 z_12) := ex_13.trans (gz_eq ⟨by omega, by omega⟩)
          have h_14 := p_9 z_12 (by omega) (by omega)
          refine lv_iload_n hx hb dX12_centre_48 rfl (lv_at hl 1 rfl) ?_
          refine lv_icmp_lt (tgt := 55) hx hb dX12_centre_49 rfl (fun c_15 => ?_) (fun c_15 => ?_)
          ·
            have c_15 := (zlt (x := iZ (gz u_8.2.2.1.1 z_12)) (y := iZ v3_21) rfl rfl (gz_rg u_8.2.2.1.1 z_12) ⟨by omega, by omega⟩).mp c_15
            refine lv_aload_n hx hb dX12_centre_55 rfl (lv_at hl 3 rfl) ?_
            refine va_get (D := D) (ci := 12) (v := .ref Mk) (C := RX12) (T := TX12) (N := 36) hx hb hts iX12 hown hK hP 0 rfl rfl 24 (bl rfl) (hts _ qf_X12_47) (fun _ h => h) rfl dX12_centre_56 ?_
            refine lv_aload_n hx hb dX12_centre_59 rfl (lv_at hl 3 rfl) ?_
            refine CPV (As := []) (rest := [.ref Mk]) hx hb hml hown hts hKK (hP.sub (ws' := [(hm, .inr (12, [.ref Ma, .ref Mn, .int (iZ Mst), .long Mtp, .long Mbt, .ref Ms, .ref My, .ref Mt, .ref Mp, .ref Mx, .int (iZ Mtd), .int (iZ Msz), .int (iZ Mtk), .int (iZ Mfr), .int (iZ Men), .int (iZ Mva), .int (iZ Mfk), .int (iZ Mfp), .int (iZ Mfs), .int (iZ Mse), .int (iZ Mlt), .ref Mo, .int (iZ Mdp), .int (iZ Mct), .ref Mk, .ref Ml, .ref Mb, .ref Mh, .ref Mc, .int (iZ Mdr), .int (iZ Mrs), .ref Mz, .ref Mr, .ref Mq, .int (iZ Mit), .int (iZ Mmk)])), (Ma, .inl (k 1, 5340, .inl Af)), (Mk, .inl (k 1, 6, .inl u_8.2.2.1.1))]) [0, 1, 2] rfl) (m_lastOne l D k ([.ref Ma, .ref Mn, .int (iZ Mst), .long Mtp, .long Mbt, .ref Ms, .ref My, .ref Mt, .ref Mp, .ref Mx, .int (iZ Mtd), .int (iZ Msz), .int (iZ Mtk), .int (iZ Mfr), .int (iZ Men), .int (iZ Mva), .int (iZ Mfk), .int (iZ Mfp), .int (iZ Mfs), .int (iZ Mse), .int (iZ Mlt), .ref Mo, .int (iZ Mdp), .int (iZ Mct), .ref Mk, .ref Ml, .ref Mb, .ref Mh, .ref Mc, .int (iZ Mdr), .int (iZ Mrs), .ref Mz, .ref Mr, .ref Mq, .int (iZ Mit), .int (iZ Mmk)]) hm Ma Mk Af u_8.2.2.1.1 rfl rfl hM) ci_X12_lastOne qm_X12_311 ⟨Nat.le_of_ble_eq_true rfl, Nat.le_of_ble_eq_true rfl⟩ ⟨Nat.le_of_ble_eq_true rfl, Nat.le_of_ble_eq_true rfl⟩ 0 rfl rfl rfl hl.1 rfl (Nat.le_of_ble_eq_true rfl) dX12_centre_60 (fun z_16 hz_16 => ?_)
            obtain ⟨az_16, bz_16⟩ := hz_16
            have lz_16 := bz_16 (by omega)
            refine va_iald hx hb hK hP 2 1 rfl rfl (zin (e := z_16) (n := 6) ⟨by omega, by omega⟩ (bl rfl)) dX12_centre_63 ?_
            refine lv_topi (fun x_17 ex_17 => ?_)
            obtain rfl : x_17 = iZ (gz u_8.2.2.1.1 z_16) := ex_17.trans (gz_eq ⟨by omega, by omega⟩)
            have h_18 := p_9 z_16 (by omega) (by omega)
            refine lv_istore_n (lv' := [(3, .int (iZ (gz u_8.2.2.1.1 z_16))), (4, .int (iZ v4_21)), (2, .int (iZ v2_21)), (0, .ref hm), (1, .int (iZ x1))]) hx hb dX12_centre_64 rfl hl (bl rfl) rfl (fun ls hl => ?_)
            refine lv_iload hx hb dX12_centre_65 (lv_at hl 1 rfl) ?_
            refine lv_istore_n (lv' := [(2, .int (iZ v4_21)), (3, .int (iZ (gz u_8.2.2.1.1 z_16))), (4, .int (iZ v4_21)), (0, .ref hm), (1, .int (iZ x1))]) hx hb dX12_centre_67 rfl hl (bl rfl) rfl (fun ls hl => ?_)
            refine lv_iinc (v := iZ (v4_21 + 1)) (lv' := [(4, .int (iZ (v4_21 + 1))), (2, .int (iZ v4_21)), (3, .int (iZ (gz u_8.2.2.1.1 z_16))), (0, .ref hm), (1, .int (iZ x1))]) hx hb dX12_centre_68 hl (k := 2) rfl (iZ_add v4_21 1) (by decide) rfl (fun ls hl => ?_)
            refine lv_goto (tgt := 21) hx hb dX12_centre_71 rfl ?_
            have gm_190 := mxF_fm (isFM_like lz_12 (fun j h1 h2 => nwK_eq (later_ar mF) p_11 h1 h2)) (by omega) (fun j h1 h2 => (nwK_rg (later_ar mF) p_11 h1 h2).1)
            rw [← nwK_eq (later_ar mF) p_11 (o := z_12) gm_190.1.1 gm_190.1.2] at gm_190
            have gm_191 := mxF_fm (isFM_like lz_16 (fun j h1 h2 => nwK_eq (later_ar mF) p_11 h1 h2)) (by omega) (fun j h1 h2 => (nwK_rg (later_ar mF) p_11 h1 h2).1)
            rw [← nwK_eq (later_ar mF) p_11 (o := z_16) gm_191.1.1 gm_191.1.2] at gm_191
            exact ih21  (gz u_8.2.2.1.1 z_16) v4_21 (v4_21 + 1) u_8.2.2.1.1 u_8.2.2.1.2.1 u_8.2.2.1.2.2 _ _ _ (by omega) (show (0 ≤ (v4_21 + 1) ∧ (v4_21 + 1) ≤ (gz Af 0) + 1) from ⟨by omega, by omega⟩) (show -1 ≤ v4_21 ∧ v4_21 < gz Af 0 from (by omega)) (show -2147483648 ≤ (gz u_8.2.2.1.1 z_16) ∧ (gz u_8.2.2.1.1 z_16) < 2147483648 from (by omega)) (show isCn (fun r => mxF (nwK (arF (sh Af 10) (sh Af 46) (gz Af 1)) (gz Af 0) r x1) (gz Af 0).toNat) (v4_21 + 1) v4_21 ∧ (((v4_21 : Int) = -1 ∧ ((gz u_8.2.2.1.1 z_16) : Int) = 1000000) ∨ (¬ (v4_21 : Int) = -1 ∧ ((gz u_8.2.2.1.1 z_16) : Int) = mxF (nwK (arF (sh Af 10) (sh Af 46) (gz Af 1)) (gz Af 0) v4_21 x1) (gz Af 0).toNat)) from (by have g1 : mxF (nwK (arF (sh Af 10) (sh Af 46) (gz Af 1)) (gz Af 0) v4_21 x1) (gz Af 0).toNat < 1000000 ∧ (v2_21 = -1 ∨ mxF (nwK (arF (sh Af 10) (sh Af 46) (gz Af 1)) (gz Af 0) v4_21 x1) (gz Af 0).toNat < mxF (nwK (arF (sh Af 10) (sh Af 46) (gz Af 1)) (gz Af 0) v2_21 x1) (gz Af 0).toNat) ∧ (¬ v4_21 = -1 ∧ (gz u_8.2.2.1.1 z_16) = mxF (nwK (arF (sh Af 10) (sh Af 46) (gz Af 1)) (gz Af 0) v4_21 x1) (gz Af 0).toNat) := (by omega); exact ⟨isCn_u hcn.1 (by omega) g1.1 g1.2.1, Or.inr g1.2.2⟩)) (show (v4_21 + 1) ≤ gz Af 0 from (by omega)) (hP.sub [0, 1, 2, 3, 4] rfl) (hD.sub [0, 1, 2, 3, 4] rfl rfl) hS (lv_sub hl [0, 2, 1, 3, 4] rfl)
          ·
            have c_15 := mt (zlt (x := iZ (gz u_8.2.2.1.1 z_12)) (y := iZ v3_21) rfl rfl (gz_rg u_8.2.2.1.1 z_12) ⟨by omega, by omega⟩).mpr c_15
            refine lv_goto (tgt := 68) hx hb dX12_centre_52 rfl ?_
            refine lv_iinc (v := iZ (v4_21 + 1)) (lv' := [(4, .int (iZ (v4_21 + 1))), (3, .int (iZ v3_21)), (2, .int (iZ v2_21)), (0, .ref hm), (1, .int (iZ x1))]) hx hb dX12_centre_68 hl (k := 0) rfl (iZ_add v4_21 1) (by decide) rfl (fun ls hl => ?_)
            refine lv_goto (tgt := 21) hx hb dX12_centre_71 rfl ?_
            have gm_200 := mxF_fm (isFM_like lz_12 (fun j h1 h2 => nwK_eq (later_ar mF) p_11 h1 h2)) (by omega) (fun j h1 h2 => (nwK_rg (later_ar mF) p_11 h1 h2).1)
            rw [← nwK_eq (later_ar mF) p_11 (o := z_12) gm_200.1.1 gm_200.1.2] at gm_200
            exact ih21  v3_21 v2_21 (v4_21 + 1) u_8.2.2.1.1 u_8.2.2.1.2.1 u_8.2.2.1.2.2 _ _ _ (by omega) (show (0 ≤ (v4_21 + 1) ∧ (v4_21 + 1) ≤ (gz Af 0) + 1) from ⟨by omega, by omega⟩) (show -1 ≤ v2_21 ∧ v2_21 < gz Af 0 from (by omega)) (show -2147483648 ≤ v3_21 ∧ v3_21 < 2147483648 from (by omega)) (show isCn (fun r => mxF (nwK (arF (sh Af 10) (sh Af 46) (gz Af 1)) (gz Af 0) r x1) (gz Af 0).toNat) (v4_21 + 1) v2_21 ∧ (((v2_21 : Int) = -1 ∧ (v3_21 : Int) = 1000000) ∨ (¬ (v2_21 : Int) = -1 ∧ (v3_21 : Int) = mxF (nwK (arF (sh Af 10) (sh Af 46) (gz Af 1)) (gz Af 0) v2_21 x1) (gz Af 0).toNat)) from ⟨isCn_n hcn.1 (show ¬ mxF (nwK (arF (sh Af 10) (sh Af 46) (gz Af 1)) (gz Af 0) v4_21 x1) (gz Af 0).toNat < 1000000 ∨ (¬ v2_21 = -1 ∧ mxF (nwK (arF (sh Af 10) (sh Af 46) (gz Af 1)) (gz Af 0) v2_21 x1) (gz Af 0).toNat ≤ mxF (nwK (arF (sh Af 10) (sh Af 46) (gz Af 1)) (gz Af 0) v4_21 x1) (gz Af 0).toNat) from by omega), hcn.2⟩) (show (v4_21 + 1) ≤ gz Af 0 from (by omega)) (hP.sub [0, 1, 2, 3, 4] rfl) (hD.sub [0, 1, 2, 3, 4] rfl rfl) hS (lv_sub hl [0, 1, 2, 3, 4] rfl)
    exact HL21 10 1000000 (-1) 0 Kf Lf Bf _ _ _ (by omega) (show (0 ≤ 0 ∧ 0 ≤ (gz Af 0) + 1) from ⟨by omega, by omega⟩) (show -1 ≤ (-1) ∧ (-1) < gz Af 0 from (by omega)) (show -2147483648 ≤ 1000000 ∧ 1000000 < 2147483648 from (by omega)) (show isCn (fun r => mxF (nwK (arF (sh Af 10) (sh Af 46) (gz Af 1)) (gz Af 0) r x1) (gz Af 0).toNat) 0 (-1) ∧ ((((-1) : Int) = -1 ∧ (1000000 : Int) = 1000000) ∨ (¬ ((-1) : Int) = -1 ∧ (1000000 : Int) = mxF (nwK (arF (sh Af 10) (sh Af 46) (gz Af 1)) (gz Af 0) (-1) x1) (gz Af 0).toNat)) from ⟨isCn_0, Or.inl ⟨rfl, rfl⟩⟩) (show 0 ≤ gz Af 0 from (by omega)) (hP.sub [0, 1, 2, 3, 4] rfl) (hD.sub [0, 1, 2, 3, 4] rfl rfl) hS (lv_sub hl [0, 1, 2, 3, 4] rfl)
  ·
    subst qz_1
    refine lv_if_ne (tgt := 13) hx hb dX12_centre_4 rfl (fun c => absurd (by decide) c) (fun _ => ?_)
    refine lv_aload_n hx hb dX12_centre_7 rfl (lv_at hl 0 rfl) ?_
    refine lv_iconst (v := iZ 1) hx hb dX12_centre_8 rfl ?_
    refine CWV (As := [.int (iZ 1)]) (rest := []) (wc := _) (wr := [(Ma, .inl (k 1, 5340, .inl Af)), (Mk, .inl (k 1, 6, .inl Kf)), (Ml, .inl (k 1, 6, .inl Lf)), (Mb, .inl (k 1, 6, .inl Bf))]) hx hb hml hown hts hKK hP hD hS hA (m_refuse l D k hm Ma Mn Ms My Mt Mp Mx Mo Mk Ml Mb Mh Mc Mz Mr Mq Mst Mtd Msz Mtk Mfr Men Mva Mfk Mfp Mfs Mse Mlt Mdp Mct Mdr Mrs Mit Mmk Mtp Mbt 1) ci_X12_refuse qm_X12_81 ⟨Nat.le_of_ble_eq_true rfl, Nat.le_of_ble_eq_true rfl⟩ ⟨Nat.le_of_ble_eq_true rfl, Nat.le_of_ble_eq_true rfl⟩ [0] [1, 2, 3, 4] rfl rfl rfl rfl rfl (dj rfl) 0 rfl rfl rfl hl.1 rfl (Nat.le_of_ble_eq_true rfl) dX12_centre_9 (fun u_22 H locs hφ hP hD hS => ?_)
    refine W.eq (g2 := F0 m 12 ls [.int (iZ (-1))]) rfl ?_
    exact EWi hx hb hr hlocks hS (((-1), 1), 0, (Kf, Lf, Bf), ()) rfl (show (((0 ≤ x1 ∧ x1 ≤ 400)) ∧ isCn (fun r => mxF (nwK (arF (sh Af 10) (sh Af 46) (gz Af 1)) (gz Af 0) r x1) (gz Af 0).toNat) (gz Af 0) (-1)) ∨ (¬ ((0 ≤ x1 ∧ x1 ≤ 400)) ∧ ((-1) : Int) = -1) from (Or.inr ⟨by omega, rfl⟩)) (hP.sub [4, 0, 1, 2, 3] rfl) (hD.sub [4, 0, 1, 2, 3] rfl rfl) dX12_centre_12
set_option maxHeartbeats 4000000 in
set_option maxRecDepth 100000 in
theorem q_cutOff (l : Launch) (D : va_G) (k : Nat → ClassId) (hm : Nat) (Ma : Nat) (Mn : Nat) (Ms : Nat) (My : Nat) (Mt : Nat) (Mp : Nat) (Mx : Nat) (Mo : Nat) (Mk : Nat) (Ml : Nat) (Mb : Nat) (Mh : Nat) (Mc : Nat) (Mz : Nat) (Mr : Nat) (Mq : Nat) (Mst : Int) (Mtd : Int) (Msz : Int) (Mtk : Int) (Mfr : Int) (Men : Int) (Mva : Int) (Mfk : Int) (Mfp : Int) (Mfs : Int) (Mse : Int) (Mlt : Int) (Mdp : Int) (Mct : Int) (Mdr : Int) (Mrs : Int) (Mit : Int) (Mmk : Int) (Mtp : Int64) (Mbt : Int64) (Af : Nat → Int32) (Kf : Nat → Int32) (Lf : Nat → Int32) (Bf : Nat → Int32) (x1 : Int) (x2 : Int) (hM : M0 Af) (h9x1 : -2147483648 ≤ x1 ∧ x1 < 2147483648) (h9x2 : -2147483648 ≤ x2 ∧ x2 < 2147483648) : WD (σ := ((Int × Int) × (Int64) × ((Nat → Int32) × (Nat → Int32) × (Nat → Int32)) × (Unit))) l yX12_cutOff cX12_cutOff 3 (some .int) 6 0 0 D k [.ref hm, .int (iZ x1), .int (iZ x2)] [(hm, .inr (12, [.ref Ma, .ref Mn, .int (iZ Mst), .long Mtp, .long Mbt, .ref Ms, .ref My, .ref Mt, .ref Mp, .ref Mx, .int (iZ Mtd), .int (iZ Msz), .int (iZ Mtk), .int (iZ Mfr), .int (iZ Men), .int (iZ Mva), .int (iZ Mfk), .int (iZ Mfp), .int (iZ Mfs), .int (iZ Mse), .int (iZ Mlt), .ref Mo, .int (iZ Mdp), .int (iZ Mct), .ref Mk, .ref Ml, .ref Mb, .ref Mh, .ref Mc, .int (iZ Mdr), .int (iZ Mrs), .ref Mz, .ref Mr, .ref Mq, .int (iZ Mit), .int (iZ Mmk)])), (Ma, .inl (k 1, 5340, .inl Af)), (Mk, .inl (k 1, 6, .inl Kf)), (Ml, .inl (k 1, 6, .inl Lf)), (Mb, .inl (k 1, 6, .inl Bf))] (fun u => some (.int (iZ u.1.1))) (fun u => (((0 ≤ x1 ∧ x1 < (gz Af 0)) ∧ (0 ≤ x2 ∧ x2 ≤ 400)) ∧ (iZ u.1.1 = bS (fun r => nwK (arF (sh Af 10) (sh Af 46) (gz Af 1)) (gz Af 0) x1 x2 r = 1000000) (gz Af 0).toNat ∧ (-2147483648 ≤ u.1.1 ∧ u.1.1 < 2147483648))) ∨ (¬ ((0 ≤ x1 ∧ x1 < (gz Af 0)) ∧ (0 ≤ x2 ∧ x2 ≤ 400)) ∧ (u.1.1 : Int) = -1)) (fun u => [(hm, .inr (12, [.ref Ma, .ref Mn, .int (iZ u.1.2), .long Mtp, .long Mbt, .ref Ms, .ref My, .ref Mt, .ref Mp, .ref Mx, .int (iZ Mtd), .int (iZ Msz), .int (iZ Mtk), .int (iZ Mfr), .int (iZ Men), .int (iZ Mva), .int (iZ Mfk), .int (iZ Mfp), .int (iZ Mfs), .int (iZ Mse), .int (iZ Mlt), .ref Mo, .int (iZ Mdp), .int (iZ Mct), .ref Mk, .ref Ml, .ref Mb, .ref Mh, .ref Mc, .int (iZ Mdr), .int (iZ Mrs), .ref Mz, .ref Mr, .ref Mq, .int (iZ Mit), .int (iZ Mmk)])), (Ma, .inl (k 1, 5340, .inl Af)), (Mk, .inl (k 1, 6, .inl u.2.2.1.1)), (Ml, .inl (k 1, 6, .inl u.2.2.1.2.1)), (Mb, .inl (k 1, 6, .inl u.2.2.1.2.2))]) := by
  refine MW (by decide) (Nat.le_of_ble_eq_true rfl) (fun p e s m below meth c ls A hx hb hml hr hlocks hin hts hown hKK hP hD hS hA hl => ?_)
  have hK := hKK.1
  have hl : lv_has ls 3 [(0, .ref hm), (1, .int (iZ x1)), (2, .int (iZ x2))] := hl
  obtain ⟨m0, m1, m3, m4, m5, mF, mO, mS⟩ := id hM
  refine lv_aload_n hx hb dX12_cutOff_0 rfl (lv_at hl 0 rfl) ?_
  refine lv_iload_n hx hb dX12_cutOff_1 rfl (lv_at hl 1 rfl) ?_
  refine lv_iload_n hx hb dX12_cutOff_2 rfl (lv_at hl 2 rfl) ?_
  refine CPV (As := [.int (iZ x1), .int (iZ x2)]) (rest := []) hx hb hml hown hts hKK (hP.sub (ws' := [(hm, .inr (12, [.ref Ma, .ref Mn, .int (iZ Mst), .long Mtp, .long Mbt, .ref Ms, .ref My, .ref Mt, .ref Mp, .ref Mx, .int (iZ Mtd), .int (iZ Msz), .int (iZ Mtk), .int (iZ Mfr), .int (iZ Men), .int (iZ Mva), .int (iZ Mfk), .int (iZ Mfp), .int (iZ Mfs), .int (iZ Mse), .int (iZ Mlt), .ref Mo, .int (iZ Mdp), .int (iZ Mct), .ref Mk, .ref Ml, .ref Mb, .ref Mh, .ref Mc, .int (iZ Mdr), .int (iZ Mrs), .ref Mz, .ref Mr, .ref Mq, .int (iZ Mit), .int (iZ Mmk)])), (Ma, .inl (k 1, 5340, .inl Af))]) [0, 1] rfl) (m_isNews l D k ([.ref Ma, .ref Mn, .int (iZ Mst), .long Mtp, .long Mbt, .ref Ms, .ref My, .ref Mt, .ref Mp, .ref Mx, .int (iZ Mtd), .int (iZ Msz), .int (iZ Mtk), .int (iZ Mfr), .int (iZ Men), .int (iZ Mva), .int (iZ Mfk), .int (iZ Mfp), .int (iZ Mfs), .int (iZ Mse), .int (iZ Mlt), .ref Mo, .int (iZ Mdp), .int (iZ Mct), .ref Mk, .ref Ml, .ref Mb, .ref Mh, .ref Mc, .int (iZ Mdr), .int (iZ Mrs), .ref Mz, .ref Mr, .ref Mq, .int (iZ Mit), .int (iZ Mmk)]) hm Ma Af x1 x2 rfl hM ⟨by omega, by omega⟩ ⟨by omega, by omega⟩) ci_X12_isNews qm_X12_299 ⟨Nat.le_of_ble_eq_true rfl, Nat.le_of_ble_eq_true rfl⟩ ⟨Nat.le_of_ble_eq_true rfl, Nat.le_of_ble_eq_true rfl⟩ 0 rfl rfl rfl hl.1 rfl (Nat.le_of_ble_eq_true rfl) dX12_cutOff_3 (fun z_1 hz_1 => ?_)
  rcases hz_1 with ⟨qz_1, hz_1⟩ | ⟨qz_1, hz_1⟩
  ·
    subst qz_1
    refine lv_if_ne (tgt := 15) hx hb dX12_cutOff_6 rfl (fun _ => ?_) (fun c => absurd c (by decide))
    refine lv_aload_n hx hb dX12_cutOff_15 rfl (lv_at hl 0 rfl) ?_
    refine lv_iload_n hx hb dX12_cutOff_16 rfl (lv_at hl 1 rfl) ?_
    refine lv_iload_n hx hb dX12_cutOff_17 rfl (lv_at hl 2 rfl) ?_
    refine CWV (As := [.int (iZ x1), .int (iZ x2)]) (rest := []) (wc := _) (wr := []) hx hb hml hown hts hKK hP hD hS hA (m_lays l D k hm Ma Mn Ms My Mt Mp Mx Mo Mk Ml Mb Mh Mc Mz Mr Mq Mst Mtd Msz Mtk Mfr Men Mva Mfk Mfp Mfs Mse Mlt Mdp Mct Mdr Mrs Mit Mmk Mtp Mbt Af Kf Lf Bf x1 x2 hM ⟨by omega, by omega⟩ ⟨by omega, by omega⟩) ci_X12_lays qm_X12_302 ⟨Nat.le_of_ble_eq_true rfl, Nat.le_of_ble_eq_true rfl⟩ ⟨Nat.le_of_ble_eq_true rfl, Nat.le_of_ble_eq_true rfl⟩ [0, 1, 2, 3, 4] [] rfl rfl rfl rfl rfl (dj rfl) 0 rfl rfl rfl hl.1 rfl (Nat.le_of_ble_eq_true rfl) dX12_cutOff_18 (fun u_3 H locs hφ hP hD hS => ?_)
    obtain ⟨p_4, p_5, p_6⟩ : (KR u_3.2.2.1.1 6) ∧ (rgI u_3.2.2.1.2.1 (-1) 5 6) ∧ (isNW (arF (sh Af 10) (sh Af 46) (gz Af 1)) (gz Af 0) x1 x2 (gz u_3.2.2.1.1) (gz u_3.2.2.1.2.1) (gz u_3.2.2.1.2.2)) := hφ
    refine W.eq (g2 := F0 m 21 ls []) rfl ?_
    refine lv_aload_n hx hb dX12_cutOff_21 rfl (lv_at hl 0 rfl) ?_
    refine lv_iconst (v := iZ 1) hx hb dX12_cutOff_22 rfl ?_
    refine lv_aload_n hx hb dX12_cutOff_23 rfl (lv_at hl 0 rfl) ?_
    refine va_get (D := D) (ci := 12) (v := .ref Ma) (C := RX12) (T := TX12) (N := 36) hx hb hts iX12 hown hK hP 0 rfl rfl 0 (bl rfl) (hts _ qf_X12_7) (fun _ h => h) rfl dX12_cutOff_24 ?_
    refine lv_iconst (v := iZ 0) hx hb dX12_cutOff_27 rfl ?_
    refine va_iald hx hb hK hP 1 1 rfl rfl (zin (e := 0) (n := 5340) ⟨by omega, by omega⟩ (bl rfl)) dX12_cutOff_28 ?_
    refine lv_topi (fun x_7 ex_7 => ?_)
    obtain rfl : x_7 = iZ (gz Af 0) := ex_7.trans (gz_eq ⟨by omega, by omega⟩)
    have h_8 := gz_rg Af 0
    refine lv_ishl hx hb dX12_cutOff_29 ?_
    refine lv_topi (fun x_10 ex_10 => ?_)
    obtain ⟨z_9, hz_9, hz_9a, hz_9b⟩ := i32_z x_10
    subst hz_9
    refine lv_iconst (v := iZ 1) hx hb dX12_cutOff_30 rfl ?_
    refine lv_isub hx hb dX12_cutOff_31 ?_
    refine lv_topi (fun x_12 ex_12 => ?_)
    obtain ⟨z_11, hz_11, hz_11a, hz_11b⟩ := i32_z x_12
    subst hz_11
    refine lv_aload_n hx hb dX12_cutOff_32 rfl (lv_at hl 0 rfl) ?_
    refine lv_ldcw (own := RX12) (v := 999999) hx hb hown (hts _ qk_X12_314) dX12_cutOff_33 ?_
    refine W.eq (g2 := F0 m 36 ls [.int (iZ 999999), .ref hm, .int (iZ z_11), .ref hm]) rfl ?_
    refine CPV (As := [.int (iZ 999999)]) (rest := [.int (iZ z_11), .ref hm]) hx hb hml hown hts hKK (hP.sub (ws' := [(hm, .inr (12, [.ref Ma, .ref Mn, .int (iZ Mst), .long Mtp, .long Mbt, .ref Ms, .ref My, .ref Mt, .ref Mp, .ref Mx, .int (iZ Mtd), .int (iZ Msz), .int (iZ Mtk), .int (iZ Mfr), .int (iZ Men), .int (iZ Mva), .int (iZ Mfk), .int (iZ Mfp), .int (iZ Mfs), .int (iZ Mse), .int (iZ Mlt), .ref Mo, .int (iZ Mdp), .int (iZ Mct), .ref Mk, .ref Ml, .ref Mb, .ref Mh, .ref Mc, .int (iZ Mdr), .int (iZ Mrs), .ref Mz, .ref Mr, .ref Mq, .int (iZ Mit), .int (iZ Mmk)])), (Ma, .inl (k 1, 5340, .inl Af)), (Mk, .inl (k 1, 6, .inl u_3.2.2.1.1))]) [0, 1, 2] rfl) (m_setBy l D k ([.ref Ma, .ref Mn, .int (iZ Mst), .long Mtp, .long Mbt, .ref Ms, .ref My, .ref Mt, .ref Mp, .ref Mx, .int (iZ Mtd), .int (iZ Msz), .int (iZ Mtk), .int (iZ Mfr), .int (iZ Men), .int (iZ Mva), .int (iZ Mfk), .int (iZ Mfp), .int (iZ Mfs), .int (iZ Mse), .int (iZ Mlt), .ref Mo, .int (iZ Mdp), .int (iZ Mct), .ref Mk, .ref Ml, .ref Mb, .ref Mh, .ref Mc, .int (iZ Mdr), .int (iZ Mrs), .ref Mz, .ref Mr, .ref Mq, .int (iZ Mit), .int (iZ Mmk)]) hm Ma Mk Af u_3.2.2.1.1 999999 rfl rfl hM ⟨by omega, by omega⟩) ci_X12_setBy qm_X12_306 ⟨Nat.le_of_ble_eq_true rfl, Nat.le_of_ble_eq_true rfl⟩ ⟨Nat.le_of_ble_eq_true rfl, Nat.le_of_ble_eq_true rfl⟩ 0 rfl rfl rfl hl.1 rfl (Nat.le_of_ble_eq_true rfl) dX12_cutOff_36 (fun z_13 hz_13 => ?_)
    obtain ⟨ez_13, az_13⟩ := hz_13
    refine lv_iconst (v := iZ (-1)) hx hb dX12_cutOff_39 rfl ?_
    refine lv_ixor hx hb dX12_cutOff_40 ?_
    refine lv_topi (fun x_15 ex_15 => ?_)
    obtain ⟨z_14, hz_14, hz_14a, hz_14b⟩ := i32_z x_15
    subst hz_14
    refine lv_iand hx hb dX12_cutOff_41 ?_
    refine lv_topi (fun x_17 ex_17 => ?_)
    obtain ⟨z_16, hz_16, hz_16a, hz_16b⟩ := i32_z x_17
    subst hz_16
    refine CWV (As := [.int (iZ z_16)]) (rest := []) (wc := _) (wr := [(Ma, .inl (k 1, 5340, .inl Af)), (Mk, .inl (k 1, 6, .inl u_3.2.2.1.1)), (Ml, .inl (k 1, 6, .inl u_3.2.2.1.2.1)), (Mb, .inl (k 1, 6, .inl u_3.2.2.1.2.2))]) hx hb hml hown hts hKK hP hD hS hA (m_gives l D k hm Ma Mn Ms My Mt Mp Mx Mo Mk Ml Mb Mh Mc Mz Mr Mq Mst Mtd Msz Mtk Mfr Men Mva Mfk Mfp Mfs Mse Mlt Mdp Mct Mdr Mrs Mit Mmk Mtp Mbt z_16) ci_X12_gives qm_X12_85 ⟨Nat.le_of_ble_eq_true rfl, Nat.le_of_ble_eq_true rfl⟩ ⟨Nat.le_of_ble_eq_true rfl, Nat.le_of_ble_eq_true rfl⟩ [0] [1, 2, 3, 4] rfl rfl rfl rfl rfl (dj rfl) 0 rfl rfl rfl hl.1 rfl (Nat.le_of_ble_eq_true rfl) dX12_cutOff_42 (fun u_18 H locs hφ hP hD hS => ?_)
    refine W.eq (g2 := F0 m 45 ls [.int (iZ z_16)]) rfl ?_
    exact EWi hx hb hr hlocks hS ((z_16, 0), 0, (u_3.2.2.1.1, u_3.2.2.1.2.1, u_3.2.2.1.2.2), ()) rfl (show (((0 ≤ x1 ∧ x1 < (gz Af 0)) ∧ (0 ≤ x2 ∧ x2 ≤ 400)) ∧ (iZ z_16 = bS (fun r => nwK (arF (sh Af 10) (sh Af 46) (gz Af 1)) (gz Af 0) x1 x2 r = 1000000) (gz Af 0).toNat ∧ (-2147483648 ≤ z_16 ∧ z_16 < 2147483648))) ∨ (¬ ((0 ≤ x1 ∧ x1 < (gz Af 0)) ∧ (0 ≤ x2 ∧ x2 ≤ 400)) ∧ (z_16 : Int) = -1) from (Or.inl ⟨by omega, (bS_cut (P := fun r => nwK (arF (sh Af 10) (sh Af 46) (gz Af 1)) (gz Af 0) x1 x2 r ≤ 999999) ⟨by omega, by omega⟩ (fun r9 h1 h2 => by have q9 := nwK_rg (later_ar mF) p_6 h1 h2; show nwK (arF (sh Af 10) (sh Af 46) (gz Af 1)) (gz Af 0) x1 x2 r9 = 1000000 ↔ ¬ nwK (arF (sh Af 10) (sh Af 46) (gz Af 1)) (gz Af 0) x1 x2 r9 ≤ 999999; omega) ex_10 ex_12 (ez_13.trans (bS_like (fun r9 h1 h2 => Iff.of_eq (congrArg (fun q9 => q9 ≤ 999999) (nwK_eq (later_ar mF) p_6 h1 (by omega)))))) ex_15 ex_17), by omega, by omega⟩)) (hP.sub [4, 0, 1, 2, 3] rfl) (hD.sub [4, 0, 1, 2, 3] rfl rfl) dX12_cutOff_45
  ·
    subst qz_1
    refine lv_if_ne (tgt := 15) hx hb dX12_cutOff_6 rfl (fun c => absurd (by decide) c) (fun _ => ?_)
    refine lv_aload_n hx hb dX12_cutOff_9 rfl (lv_at hl 0 rfl) ?_
    refine lv_iconst (v := iZ 1) hx hb dX12_cutOff_10 rfl ?_
    refine CWV (As := [.int (iZ 1)]) (rest := []) (wc := _) (wr := [(Ma, .inl (k 1, 5340, .inl Af)), (Mk, .inl (k 1, 6, .inl Kf)), (Ml, .inl (k 1, 6, .inl Lf)), (Mb, .inl (k 1, 6, .inl Bf))]) hx hb hml hown hts hKK hP hD hS hA (m_refuse l D k hm Ma Mn Ms My Mt Mp Mx Mo Mk Ml Mb Mh Mc Mz Mr Mq Mst Mtd Msz Mtk Mfr Men Mva Mfk Mfp Mfs Mse Mlt Mdp Mct Mdr Mrs Mit Mmk Mtp Mbt 1) ci_X12_refuse qm_X12_81 ⟨Nat.le_of_ble_eq_true rfl, Nat.le_of_ble_eq_true rfl⟩ ⟨Nat.le_of_ble_eq_true rfl, Nat.le_of_ble_eq_true rfl⟩ [0] [1, 2, 3, 4] rfl rfl rfl rfl rfl (dj rfl) 0 rfl rfl rfl hl.1 rfl (Nat.le_of_ble_eq_true rfl) dX12_cutOff_11 (fun u_20 H locs hφ hP hD hS => ?_)
    refine W.eq (g2 := F0 m 14 ls [.int (iZ (-1))]) rfl ?_
    exact EWi hx hb hr hlocks hS (((-1), 1), 0, (Kf, Lf, Bf), ()) rfl (show (((0 ≤ x1 ∧ x1 < (gz Af 0)) ∧ (0 ≤ x2 ∧ x2 ≤ 400)) ∧ (iZ (-1) = bS (fun r => nwK (arF (sh Af 10) (sh Af 46) (gz Af 1)) (gz Af 0) x1 x2 r = 1000000) (gz Af 0).toNat ∧ (-2147483648 ≤ (-1) ∧ (-1) < 2147483648))) ∨ (¬ ((0 ≤ x1 ∧ x1 < (gz Af 0)) ∧ (0 ≤ x2 ∧ x2 ≤ 400)) ∧ ((-1) : Int) = -1) from (Or.inr ⟨by omega, rfl⟩)) (hP.sub [4, 0, 1, 2, 3] rfl) (hD.sub [4, 0, 1, 2, 3] rfl rfl) dX12_cutOff_14
set_option maxHeartbeats 4000000 in
set_option maxRecDepth 100000 in
theorem q_hearsBack (l : Launch) (D : va_G) (k : Nat → ClassId) (hm : Nat) (Ma : Nat) (Mn : Nat) (Ms : Nat) (My : Nat) (Mt : Nat) (Mp : Nat) (Mx : Nat) (Mo : Nat) (Mk : Nat) (Ml : Nat) (Mb : Nat) (Mh : Nat) (Mc : Nat) (Mz : Nat) (Mr : Nat) (Mq : Nat) (Mst : Int) (Mtd : Int) (Msz : Int) (Mtk : Int) (Mfr : Int) (Men : Int) (Mva : Int) (Mfk : Int) (Mfp : Int) (Mfs : Int) (Mse : Int) (Mlt : Int) (Mdp : Int) (Mct : Int) (Mdr : Int) (Mrs : Int) (Mit : Int) (Mmk : Int) (Mtp : Int64) (Mbt : Int64) (Af : Nat → Int32) (Kf : Nat → Int32) (Lf : Nat → Int32) (Bf : Nat → Int32) (x1 : Int) (x2 : Int) (hM : M0 Af) (h9x1 : -2147483648 ≤ x1 ∧ x1 < 2147483648) (h9x2 : -2147483648 ≤ x2 ∧ x2 < 2147483648) : WD (σ := ((Int × Int) × (Int64) × ((Nat → Int32) × (Nat → Int32) × (Nat → Int32)) × (Unit))) l yX12_hearsBack cX12_hearsBack 5 (some .int) 6 0 0 D k [.ref hm, .int (iZ x1), .int (iZ x2)] [(hm, .inr (12, [.ref Ma, .ref Mn, .int (iZ Mst), .long Mtp, .long Mbt, .ref Ms, .ref My, .ref Mt, .ref Mp, .ref Mx, .int (iZ Mtd), .int (iZ Msz), .int (iZ Mtk), .int (iZ Mfr), .int (iZ Men), .int (iZ Mva), .int (iZ Mfk), .int (iZ Mfp), .int (iZ Mfs), .int (iZ Mse), .int (iZ Mlt), .ref Mo, .int (iZ Mdp), .int (iZ Mct), .ref Mk, .ref Ml, .ref Mb, .ref Mh, .ref Mc, .int (iZ Mdr), .int (iZ Mrs), .ref Mz, .ref Mr, .ref Mq, .int (iZ Mit), .int (iZ Mmk)])), (Ma, .inl (k 1, 5340, .inl Af)), (Mk, .inl (k 1, 6, .inl Kf)), (Ml, .inl (k 1, 6, .inl Lf)), (Mb, .inl (k 1, 6, .inl Bf))] (fun u => some (.int (iZ u.1.1))) (fun u => (((0 ≤ x1 ∧ x1 < (gz Af 0)) ∧ (0 ≤ x2 ∧ x2 ≤ 400)) ∧ ((mnF (fun r => arF (sh Af 10) (sh Af 46) (gz Af 1) r (nwK (arF (sh Af 10) (sh Af 46) (gz Af 1)) (gz Af 0) x1 x2 r) x1) x1 ((gz Af 0)).toNat = 1000000 ∧ (u.1.1 : Int) = -1) ∨ (mnF (fun r => arF (sh Af 10) (sh Af 46) (gz Af 1) r (nwK (arF (sh Af 10) (sh Af 46) (gz Af 1)) (gz Af 0) x1 x2 r) x1) x1 ((gz Af 0)).toNat < 1000000 ∧ (u.1.1 : Int) = mnF (fun r => arF (sh Af 10) (sh Af 46) (gz Af 1) r (nwK (arF (sh Af 10) (sh Af 46) (gz Af 1)) (gz Af 0) x1 x2 r) x1) x1 ((gz Af 0)).toNat))) ∨ (¬ ((0 ≤ x1 ∧ x1 < (gz Af 0)) ∧ (0 ≤ x2 ∧ x2 ≤ 400)) ∧ (u.1.1 : Int) = -1)) (fun u => [(hm, .inr (12, [.ref Ma, .ref Mn, .int (iZ u.1.2), .long Mtp, .long Mbt, .ref Ms, .ref My, .ref Mt, .ref Mp, .ref Mx, .int (iZ Mtd), .int (iZ Msz), .int (iZ Mtk), .int (iZ Mfr), .int (iZ Men), .int (iZ Mva), .int (iZ Mfk), .int (iZ Mfp), .int (iZ Mfs), .int (iZ Mse), .int (iZ Mlt), .ref Mo, .int (iZ Mdp), .int (iZ Mct), .ref Mk, .ref Ml, .ref Mb, .ref Mh, .ref Mc, .int (iZ Mdr), .int (iZ Mrs), .ref Mz, .ref Mr, .ref Mq, .int (iZ Mit), .int (iZ Mmk)])), (Ma, .inl (k 1, 5340, .inl Af)), (Mk, .inl (k 1, 6, .inl u.2.2.1.1)), (Ml, .inl (k 1, 6, .inl u.2.2.1.2.1)), (Mb, .inl (k 1, 6, .inl u.2.2.1.2.2))]) := by
  refine MW (by decide) (Nat.le_of_ble_eq_true rfl) (fun p e s m below meth c ls A hx hb hml hr hlocks hin hts hown hKK hP hD hS hA hl => ?_)
  have hK := hKK.1
  have hl : lv_has ls 5 [(0, .ref hm), (1, .int (iZ x1)), (2, .int (iZ x2))] := hl
  obtain ⟨m0, m1, m3, m4, m5, mF, mO, mS⟩ := id hM
  refine lv_aload_n hx hb dX12_hearsBack_0 rfl (lv_at hl 0 rfl) ?_
  refine lv_iload_n hx hb dX12_hearsBack_1 rfl (lv_at hl 1 rfl) ?_
  refine lv_iload_n hx hb dX12_hearsBack_2 rfl (lv_at hl 2 rfl) ?_
  refine CPV (As := [.int (iZ x1), .int (iZ x2)]) (rest := []) hx hb hml hown hts hKK (hP.sub (ws' := [(hm, .inr (12, [.ref Ma, .ref Mn, .int (iZ Mst), .long Mtp, .long Mbt, .ref Ms, .ref My, .ref Mt, .ref Mp, .ref Mx, .int (iZ Mtd), .int (iZ Msz), .int (iZ Mtk), .int (iZ Mfr), .int (iZ Men), .int (iZ Mva), .int (iZ Mfk), .int (iZ Mfp), .int (iZ Mfs), .int (iZ Mse), .int (iZ Mlt), .ref Mo, .int (iZ Mdp), .int (iZ Mct), .ref Mk, .ref Ml, .ref Mb, .ref Mh, .ref Mc, .int (iZ Mdr), .int (iZ Mrs), .ref Mz, .ref Mr, .ref Mq, .int (iZ Mit), .int (iZ Mmk)])), (Ma, .inl (k 1, 5340, .inl Af))]) [0, 1] rfl) (m_isNews l D k ([.ref Ma, .ref Mn, .int (iZ Mst), .long Mtp, .long Mbt, .ref Ms, .ref My, .ref Mt, .ref Mp, .ref Mx, .int (iZ Mtd), .int (iZ Msz), .int (iZ Mtk), .int (iZ Mfr), .int (iZ Men), .int (iZ Mva), .int (iZ Mfk), .int (iZ Mfp), .int (iZ Mfs), .int (iZ Mse), .int (iZ Mlt), .ref Mo, .int (iZ Mdp), .int (iZ Mct), .ref Mk, .ref Ml, .ref Mb, .ref Mh, .ref Mc, .int (iZ Mdr), .int (iZ Mrs), .ref Mz, .ref Mr, .ref Mq, .int (iZ Mit), .int (iZ Mmk)]) hm Ma Af x1 x2 rfl hM ⟨by omega, by omega⟩ ⟨by omega, by omega⟩) ci_X12_isNews qm_X12_299 ⟨Nat.le_of_ble_eq_true rfl, Nat.le_of_ble_eq_true rfl⟩ ⟨Nat.le_of_ble_eq_true rfl, Nat.le_of_ble_eq_true rfl⟩ 0 rfl rfl rfl hl.1 rfl (Nat.le_of_ble_eq_true rfl) dX12_hearsBack_3 (fun z_1 hz_1 => ?_)
  rcases hz_1 with ⟨qz_1, hz_1⟩ | ⟨qz_1, hz_1⟩
  ·
    subst qz_1
    refine lv_if_ne (tgt := 15) hx hb dX12_hearsBack_6 rfl (fun _ => ?_) (fun c => absurd c (by decide))
    refine lv_aload_n hx hb dX12_hearsBack_15 rfl (lv_at hl 0 rfl) ?_
    refine lv_iload_n hx hb dX12_hearsBack_16 rfl (lv_at hl 1 rfl) ?_
    refine lv_iload_n hx hb dX12_hearsBack_17 rfl (lv_at hl 2 rfl) ?_
    refine CWV (As := [.int (iZ x1), .int (iZ x2)]) (rest := []) (wc := _) (wr := []) hx hb hml hown hts hKK hP hD hS hA (m_lays l D k hm Ma Mn Ms My Mt Mp Mx Mo Mk Ml Mb Mh Mc Mz Mr Mq Mst Mtd Msz Mtk Mfr Men Mva Mfk Mfp Mfs Mse Mlt Mdp Mct Mdr Mrs Mit Mmk Mtp Mbt Af Kf Lf Bf x1 x2 hM ⟨by omega, by omega⟩ ⟨by omega, by omega⟩) ci_X12_lays qm_X12_302 ⟨Nat.le_of_ble_eq_true rfl, Nat.le_of_ble_eq_true rfl⟩ ⟨Nat.le_of_ble_eq_true rfl, Nat.le_of_ble_eq_true rfl⟩ [0, 1, 2, 3, 4] [] rfl rfl rfl rfl rfl (dj rfl) 0 rfl rfl rfl hl.1 rfl (Nat.le_of_ble_eq_true rfl) dX12_hearsBack_18 (fun u_3 H locs hφ hP hD hS => ?_)
    obtain ⟨p_4, p_5, p_6⟩ : (KR u_3.2.2.1.1 6) ∧ (rgI u_3.2.2.1.2.1 (-1) 5 6) ∧ (isNW (arF (sh Af 10) (sh Af 46) (gz Af 1)) (gz Af 0) x1 x2 (gz u_3.2.2.1.1) (gz u_3.2.2.1.2.1) (gz u_3.2.2.1.2.2)) := hφ
    refine W.eq (g2 := F0 m 21 ls []) rfl ?_
    refine lv_ldc (own := RX12) (v := 1000000) hx hb hown (hts _ qk_X12_88) dX12_hearsBack_21 ?_
    refine W.eq (g2 := F0 m 23 ls [.int (iZ 1000000)]) rfl ?_
    refine lv_istore_n (lv' := [(3, .int (iZ 1000000)), (0, .ref hm), (1, .int (iZ x1)), (2, .int (iZ x2))]) hx hb dX12_hearsBack_23 rfl hl (bl rfl) rfl (fun ls hl => ?_)
    refine lv_iconst (v := iZ 0) hx hb dX12_hearsBack_24 rfl ?_
    refine lv_istore (lv' := [(4, .int (iZ 0)), (3, .int (iZ 1000000)), (0, .ref hm), (1, .int (iZ x1)), (2, .int (iZ x2))]) hx hb dX12_hearsBack_25 hl (bl rfl) rfl (fun ls hl => ?_)
    have HL27 : ∀ (fu : Nat) (v3_27 : Int) (v4_27 : Int) (H : Heap) (locs : List Loc) (ls : Array Slot), ((gz Af 0) + 2 - v4_27) < (fu : Int) → ((0 ≤ v4_27 ∧ v4_27 ≤ (gz Af 0) + 1)) → (0 ≤ v3_27 ∧ v3_27 ≤ 1000000) → (v3_27 = mnF (fun r => arF (sh Af 10) (sh Af 46) (gz Af 1) r (nwK (arF (sh Af 10) (sh Af 46) (gz Af 1)) (gz Af 0) x1 x2 r) x1) x1 (Int.toNat (v4_27))) → (v4_27 ≤ gz Af 0) → va_P D vwCl [(hm, .inr (12, [.ref Ma, .ref Mn, .int (iZ Mst), .long Mtp, .long Mbt, .ref Ms, .ref My, .ref Mt, .ref Mp, .ref Mx, .int (iZ Mtd), .int (iZ Msz), .int (iZ Mtk), .int (iZ Mfr), .int (iZ Men), .int (iZ Mva), .int (iZ Mfk), .int (iZ Mfp), .int (iZ Mfs), .int (iZ Mse), .int (iZ Mlt), .ref Mo, .int (iZ Mdp), .int (iZ Mct), .ref Mk, .ref Ml, .ref Mb, .ref Mh, .ref Mc, .int (iZ Mdr), .int (iZ Mrs), .ref Mz, .ref Mr, .ref Mq, .int (iZ Mit), .int (iZ Mmk)])), (Ma, .inl (k 1, 5340, .inl Af)), (Mk, .inl (k 1, 6, .inl u_3.2.2.1.1)), (Ml, .inl (k 1, 6, .inl u_3.2.2.1.2.1)), (Mb, .inl (k 1, 6, .inl u_3.2.2.1.2.2))] H → va_D A [(hm, .inr (12, [.ref Ma, .ref Mn, .int (iZ Mst), .long Mtp, .long Mbt, .ref Ms, .ref My, .ref Mt, .ref Mp, .ref Mx, .int (iZ Mtd), .int (iZ Msz), .int (iZ Mtk), .int (iZ Mfr), .int (iZ Men), .int (iZ Mva), .int (iZ Mfk), .int (iZ Mfp), .int (iZ Mfs), .int (iZ Mse), .int (iZ Mlt), .ref Mo, .int (iZ Mdp), .int (iZ Mct), .ref Mk, .ref Ml, .ref Mb, .ref Mh, .ref Mc, .int (iZ Mdr), .int (iZ Mrs), .ref Mz, .ref Mr, .ref Mq, .int (iZ Mit), .int (iZ Mmk)])), (Ma, .inl (k 1, 5340, .inl Af)), (Mk, .inl (k 1, 6, .inl u_3.2.2.1.1)), (Ml, .inl (k 1, 6, .inl u_3.2.2.1.2.1)), (Mb, .inl (k 1, 6, .inl u_3.2.2.1.2.2))] → va_S A s.heap H locs → lv_has ls 5 [(4, .int (iZ v4_27)), (3, .int (iZ v3_27)), (0, .ref hm), (1, .int (iZ x1)), (2, .int (iZ x2))] → W p l e (rj 6 0 0) s m [.ref hm, .int (iZ x1), .int (iZ x2)].toArray below meth c H locs 0 0 (MQ below (QW (σ := ((Int × Int) × (Int64) × ((Nat → Int32) × (Nat → Int32) × (Nat → Int32)) × (Unit))) (fun u => some (.int (iZ u.1.1))) (fun u => (((0 ≤ x1 ∧ x1 < (gz Af 0)) ∧ (0 ≤ x2 ∧ x2 ≤ 400)) ∧ ((mnF (fun r => arF (sh Af 10) (sh Af 46) (gz Af 1) r (nwK (arF (sh Af 10) (sh Af 46) (gz Af 1)) (gz Af 0) x1 x2 r) x1) x1 ((gz Af 0)).toNat = 1000000 ∧ (u.1.1 : Int) = -1) ∨ (mnF (fun r => arF (sh Af 10) (sh Af 46) (gz Af 1) r (nwK (arF (sh Af 10) (sh Af 46) (gz Af 1)) (gz Af 0) x1 x2 r) x1) x1 ((gz Af 0)).toNat < 1000000 ∧ (u.1.1 : Int) = mnF (fun r => arF (sh Af 10) (sh Af 46) (gz Af 1) r (nwK (arF (sh Af 10) (sh Af 46) (gz Af 1)) (gz Af 0) x1 x2 r) x1) x1 ((gz Af 0)).toNat))) ∨ (¬ ((0 ≤ x1 ∧ x1 < (gz Af 0)) ∧ (0 ≤ x2 ∧ x2 ≤ 400)) ∧ (u.1.1 : Int) = -1)) (fun u => [(hm, .inr (12, [.ref Ma, .ref Mn, .int (iZ u.1.2), .long Mtp, .long Mbt, .ref Ms, .ref My, .ref Mt, .ref Mp, .ref Mx, .int (iZ Mtd), .int (iZ Msz), .int (iZ Mtk), .int (iZ Mfr), .int (iZ Men), .int (iZ Mva), .int (iZ Mfk), .int (iZ Mfp), .int (iZ Mfs), .int (iZ Mse), .int (iZ Mlt), .ref Mo, .int (iZ Mdp), .int (iZ Mct), .ref Mk, .ref Ml, .ref Mb, .ref Mh, .ref Mc, .int (iZ Mdr), .int (iZ Mrs), .ref Mz, .ref Mr, .ref Mq, .int (iZ Mit), .int (iZ Mmk)])), (Ma, .inl (k 1, 5340, .inl Af)), (Mk, .inl (k 1, 6, .inl u.2.2.1.1)), (Ml, .inl (k 1, 6, .inl u.2.2.1.2.1)), (Mb, .inl (k 1, 6, .inl u.2.2.1.2.2))]) D A) [.ref hm, .int (iZ x1), .int (iZ x2)].toArray s 0 0 A) (F0 m 27 ls []) := by
      intro fu
      induction fu with
      | zero => intro v3_27 v4_27 H locs ls hμ27 hi27 hf0_27 hmn hbn hP hD hS hl; exact absurd hμ27 (by omega)
      | succ fu ih27 =>
        intro v3_27 v4_27 H locs ls hμ27 hi27 hf0_27 hmn hbn hP hD hS hl
        refine lv_iload hx hb dX12_hearsBack_27 (lv_at hl 0 rfl) ?_
        refine lv_aload_n hx hb dX12_hearsBack_29 rfl (lv_at hl 2 rfl) ?_
        refine va_get (D := D) (ci := 12) (v := .ref Ma) (C := RX12) (T := TX12) (N := 36) hx hb hts iX12 hown hK hP 0 rfl rfl 0 (bl rfl) (hts _ qf_X12_7) (fun _ h => h) rfl dX12_hearsBack_30 ?_
        refine lv_iconst (v := iZ 0) hx hb dX12_hearsBack_33 rfl ?_
        refine va_iald hx hb hK hP 1 1 rfl rfl (zin (e := 0) (n := 5340) ⟨by omega, by omega⟩ (bl rfl)) dX12_hearsBack_34 ?_
        refine lv_topi (fun x_7 ex_7 => ?_)
        obtain rfl : x_7 = iZ (gz Af 0) := ex_7.trans (gz_eq ⟨by omega, by omega⟩)
        have h_8 := gz_rg Af 0
        refine lv_icmp_ge (tgt := 69) hx hb dX12_hearsBack_35 rfl (fun c_9 => ?_) (fun c_9 => ?_)
        ·
          have c_9 := (zle (x := iZ (gz Af 0)) (y := iZ v4_27) rfl rfl (gz_rg Af 0) ⟨by omega, by omega⟩).mp c_9
          refine lv_aload_n hx hb dX12_hearsBack_69 rfl (lv_at hl 2 rfl) ?_
          refine lv_iload_n hx hb dX12_hearsBack_70 rfl (lv_at hl 1 rfl) ?_
          refine CWV (As := [.int (iZ v3_27)]) (rest := []) (wc := _) (wr := [(Ma, .inl (k 1, 5340, .inl Af)), (Mk, .inl (k 1, 6, .inl u_3.2.2.1.1)), (Ml, .inl (k 1, 6, .inl u_3.2.2.1.2.1)), (Mb, .inl (k 1, 6, .inl u_3.2.2.1.2.2))]) hx hb hml hown hts hKK hP hD hS hA (m_orNever l D k hm Ma Mn Ms My Mt Mp Mx Mo Mk Ml Mb Mh Mc Mz Mr Mq Mst Mtd Msz Mtk Mfr Men Mva Mfk Mfp Mfs Mse Mlt Mdp Mct Mdr Mrs Mit Mmk Mtp Mbt v3_27 ⟨by omega, by omega⟩) ci_X12_orNever qm_X12_284 ⟨Nat.le_of_ble_eq_true rfl, Nat.le_of_ble_eq_true rfl⟩ ⟨Nat.le_of_ble_eq_true rfl, Nat.le_of_ble_eq_true rfl⟩ [0] [1, 2, 3, 4] rfl rfl rfl rfl rfl (dj rfl) 0 rfl rfl rfl hl.1 rfl (Nat.le_of_ble_eq_true rfl) dX12_hearsBack_71 (fun u_10 H locs hφ hP hD hS => ?_)
          have p_11 : ((v3_27 : Int) ≥ 1000000 ∧ u_10.1.1 = -1 ∧ u_10.1.2 = 6) ∨ ((v3_27 : Int) < 1000000 ∧ u_10.1.1 = v3_27 ∧ u_10.1.2 = 0) := hφ
          refine W.eq (g2 := F0 m 74 ls [.int (iZ u_10.1.1)]) rfl ?_
          exact EWi hx hb hr hlocks hS ((u_10.1.1, u_10.1.2), 0, (u_3.2.2.1.1, u_3.2.2.1.2.1, u_3.2.2.1.2.2), ()) rfl (show (((0 ≤ x1 ∧ x1 < (gz Af 0)) ∧ (0 ≤ x2 ∧ x2 ≤ 400)) ∧ ((mnF (fun r => arF (sh Af 10) (sh Af 46) (gz Af 1) r (nwK (arF (sh Af 10) (sh Af 46) (gz Af 1)) (gz Af 0) x1 x2 r) x1) x1 ((gz Af 0)).toNat = 1000000 ∧ (u_10.1.1 : Int) = -1) ∨ (mnF (fun r => arF (sh Af 10) (sh Af 46) (gz Af 1) r (nwK (arF (sh Af 10) (sh Af 46) (gz Af 1)) (gz Af 0) x1 x2 r) x1) x1 ((gz Af 0)).toNat < 1000000 ∧ (u_10.1.1 : Int) = mnF (fun r => arF (sh Af 10) (sh Af 46) (gz Af 1) r (nwK (arF (sh Af 10) (sh Af 46) (gz Af 1)) (gz Af 0) x1 x2 r) x1) x1 ((gz Af 0)).toNat))) ∨ (¬ ((0 ≤ x1 ∧ x1 < (gz Af 0)) ∧ (0 ≤ x2 ∧ x2 ≤ 400)) ∧ (u_10.1.1 : Int) = -1) from (Or.inl ⟨by omega, by have e9 : v4_27 = gz Af 0 := (by omega); rw [e9] at hmn; omega⟩)) (hP.sub [4, 0, 1, 2, 3] rfl) (hD.sub [4, 0, 1, 2, 3] rfl rfl) dX12_hearsBack_74
        ·
          have c_9 := mt (zle (x := iZ (gz Af 0)) (y := iZ v4_27) rfl rfl (gz_rg Af 0) ⟨by omega, by omega⟩).mpr c_9
          refine lv_iload hx hb dX12_hearsBack_38 (lv_at hl 0 rfl) ?_
          refine lv_iload_n hx hb dX12_hearsBack_40 rfl (lv_at hl 3 rfl) ?_
          refine lv_icmp_eq (tgt := 63) hx hb dX12_hearsBack_41 rfl (fun c_12 => ?_) (fun c_12 => ?_)
          ·
            have c_12 := (zeq (x := iZ v4_27) (y := iZ x1) rfl rfl ⟨by omega, by omega⟩ ⟨by omega, by omega⟩).mp c_12
            refine lv_iinc (v := iZ (v4_27 + 1)) (lv' := [(4, .int (iZ (v4_27 + 1))), (3, .int (iZ v3_27)), (0, .ref hm), (1, .int (iZ x1)), (2, .int (iZ x2))]) hx hb dX12_hearsBack_63 hl (k := 0) rfl (iZ_add v4_27 1) (by decide) rfl (fun ls hl => ?_)
            refine lv_goto (tgt := 27) hx hb dX12_hearsBack_66 rfl ?_
            exact ih27  v3_27 (v4_27 + 1) _ _ _ (by omega) (show (0 ≤ (v4_27 + 1) ∧ (v4_27 + 1) ≤ (gz Af 0) + 1) from ⟨by omega, by omega⟩) (show 0 ≤ v3_27 ∧ v3_27 ≤ 1000000 from (by omega)) (show v3_27 = mnF (fun r => arF (sh Af 10) (sh Af 46) (gz Af 1) r (nwK (arF (sh Af 10) (sh Af 46) (gz Af 1)) (gz Af 0) x1 x2 r) x1) x1 (Int.toNat ((v4_27 + 1))) from (by have m9 : (v4_27 = x1 ∧ mnF (fun r => arF (sh Af 10) (sh Af 46) (gz Af 1) r (nwK (arF (sh Af 10) (sh Af 46) (gz Af 1)) (gz Af 0) x1 x2 r) x1) x1 (v4_27 + 1).toNat = mnF (fun r => arF (sh Af 10) (sh Af 46) (gz Af 1) r (nwK (arF (sh Af 10) (sh Af 46) (gz Af 1)) (gz Af 0) x1 x2 r) x1) x1 (v4_27).toNat) ∨ (¬ v4_27 = x1 ∧ mnF (fun r => arF (sh Af 10) (sh Af 46) (gz Af 1) r (nwK (arF (sh Af 10) (sh Af 46) (gz Af 1)) (gz Af 0) x1 x2 r) x1) x1 (v4_27 + 1).toNat = min (mnF (fun r => arF (sh Af 10) (sh Af 46) (gz Af 1) r (nwK (arF (sh Af 10) (sh Af 46) (gz Af 1)) (gz Af 0) x1 x2 r) x1) x1 (v4_27).toNat) (arF (sh Af 10) (sh Af 46) (gz Af 1) v4_27 (nwK (arF (sh Af 10) (sh Af 46) (gz Af 1)) (gz Af 0) x1 x2 v4_27) x1)) := mnF_s (by omega); rw [← nwK_eq (later_ar mF) p_6 (o := v4_27) (by omega) (by omega)] at m9; omega)) (show (v4_27 + 1) ≤ gz Af 0 from (by omega)) (hP.sub [0, 1, 2, 3, 4] rfl) (hD.sub [0, 1, 2, 3, 4] rfl rfl) hS (lv_sub hl [0, 1, 2, 3, 4] rfl)
          ·
            have c_12 := mt (zeq (x := iZ v4_27) (y := iZ x1) rfl rfl ⟨by omega, by omega⟩ ⟨by omega, by omega⟩).mpr c_12
            refine lv_iload_n hx hb dX12_hearsBack_44 rfl (lv_at hl 1 rfl) ?_
            refine lv_aload_n hx hb dX12_hearsBack_45 rfl (lv_at hl 2 rfl) ?_
            refine lv_iload hx hb dX12_hearsBack_46 (lv_at hl 0 rfl) ?_
            refine lv_aload_n hx hb dX12_hearsBack_48 rfl (lv_at hl 2 rfl) ?_
            refine va_get (D := D) (ci := 12) (v := .ref Mk) (C := RX12) (T := TX12) (N := 36) hx hb hts iX12 hown hK hP 0 rfl rfl 24 (bl rfl) (hts _ qf_X12_47) (fun _ h => h) rfl dX12_hearsBack_49 ?_
            refine lv_iload hx hb dX12_hearsBack_52 (lv_at hl 0 rfl) ?_
            refine va_iald hx hb hK hP 2 1 rfl rfl (zin (e := v4_27) (n := 6) ⟨by omega, by omega⟩ (bl rfl)) dX12_hearsBack_54 ?_
            refine lv_topi (fun x_13 ex_13 => ?_)
            obtain rfl : x_13 = iZ (gz u_3.2.2.1.1 v4_27) := ex_13.trans (gz_eq ⟨by omega, by omega⟩)
            have h_14 := p_4 v4_27 (by omega) (by omega)
            refine lv_iload_n hx hb dX12_hearsBack_55 rfl (lv_at hl 3 rfl) ?_
            refine CPV (As := [.int (iZ v4_27), .int (iZ (gz u_3.2.2.1.1 v4_27)), .int (iZ x1)]) (rest := [.int (iZ v3_27)]) hx hb hml hown hts hKK (hP.sub (ws' := [(hm, .inr (12, [.ref Ma, .ref Mn, .int (iZ Mst), .long Mtp, .long Mbt, .ref Ms, .ref My, .ref Mt, .ref Mp, .ref Mx, .int (iZ Mtd), .int (iZ Msz), .int (iZ Mtk), .int (iZ Mfr), .int (iZ Men), .int (iZ Mva), .int (iZ Mfk), .int (iZ Mfp), .int (iZ Mfs), .int (iZ Mse), .int (iZ Mlt), .ref Mo, .int (iZ Mdp), .int (iZ Mct), .ref Mk, .ref Ml, .ref Mb, .ref Mh, .ref Mc, .int (iZ Mdr), .int (iZ Mrs), .ref Mz, .ref Mr, .ref Mq, .int (iZ Mit), .int (iZ Mmk)])), (Ma, .inl (k 1, 5340, .inl Af))]) [0, 1] rfl) (m_arrival l D k ([.ref Ma, .ref Mn, .int (iZ Mst), .long Mtp, .long Mbt, .ref Ms, .ref My, .ref Mt, .ref Mp, .ref Mx, .int (iZ Mtd), .int (iZ Msz), .int (iZ Mtk), .int (iZ Mfr), .int (iZ Men), .int (iZ Mva), .int (iZ Mfk), .int (iZ Mfp), .int (iZ Mfs), .int (iZ Mse), .int (iZ Mlt), .ref Mo, .int (iZ Mdp), .int (iZ Mct), .ref Mk, .ref Ml, .ref Mb, .ref Mh, .ref Mc, .int (iZ Mdr), .int (iZ Mrs), .ref Mz, .ref Mr, .ref Mq, .int (iZ Mit), .int (iZ Mmk)]) hm Ma Af v4_27 (gz u_3.2.2.1.1 v4_27) x1 rfl hM ⟨by omega, by omega⟩ ⟨by omega, by omega⟩ ⟨by omega, by omega⟩) ci_X12_arrival qm_X12_280 ⟨Nat.le_of_ble_eq_true rfl, Nat.le_of_ble_eq_true rfl⟩ ⟨Nat.le_of_ble_eq_true rfl, Nat.le_of_ble_eq_true rfl⟩ 0 rfl rfl rfl hl.1 rfl (Nat.le_of_ble_eq_true rfl) dX12_hearsBack_56 (fun z_15 hz_15 => ?_)
            obtain ⟨ez_15, az_15⟩ := hz_15
            refine va_mmin (rest := []) hx hb (by rw [hml]; exact hl.1.symm) (own := RX12) hown (hts _ qm_X12_137) (hts _ qt_yJ9_min_7cf53) (hts _ qz_J9) (hts _ qc_J9_min_7cf53) (Nat.le_of_ble_eq_true rfl) (Nat.le_of_ble_eq_true rfl) (Nat.le_of_ble_eq_true rfl) (Nat.le_of_ble_eq_true rfl) dX12_hearsBack_59 ?_
            refine lv_topi (fun x_16 ex_16 => ?_)
            obtain rfl : x_16 = iZ (min v3_27 z_15) := ex_16.trans (zmin ⟨by omega, by omega⟩ ⟨by omega, by omega⟩)
            refine lv_istore_n (lv' := [(3, .int (iZ (min v3_27 z_15))), (4, .int (iZ v4_27)), (0, .ref hm), (1, .int (iZ x1)), (2, .int (iZ x2))]) hx hb dX12_hearsBack_62 rfl hl (bl rfl) rfl (fun ls hl => ?_)
            refine lv_iinc (v := iZ (v4_27 + 1)) (lv' := [(4, .int (iZ (v4_27 + 1))), (3, .int (iZ (min v3_27 z_15))), (0, .ref hm), (1, .int (iZ x1)), (2, .int (iZ x2))]) hx hb dX12_hearsBack_63 hl (k := 1) rfl (iZ_add v4_27 1) (by decide) rfl (fun ls hl => ?_)
            refine lv_goto (tgt := 27) hx hb dX12_hearsBack_66 rfl ?_
            exact ih27  (min v3_27 z_15) (v4_27 + 1) _ _ _ (by omega) (show (0 ≤ (v4_27 + 1) ∧ (v4_27 + 1) ≤ (gz Af 0) + 1) from ⟨by omega, by omega⟩) (show 0 ≤ (min v3_27 z_15) ∧ (min v3_27 z_15) ≤ 1000000 from (by omega)) (show (min v3_27 z_15) = mnF (fun r => arF (sh Af 10) (sh Af 46) (gz Af 1) r (nwK (arF (sh Af 10) (sh Af 46) (gz Af 1)) (gz Af 0) x1 x2 r) x1) x1 (Int.toNat ((v4_27 + 1))) from (by have m9 : (v4_27 = x1 ∧ mnF (fun r => arF (sh Af 10) (sh Af 46) (gz Af 1) r (nwK (arF (sh Af 10) (sh Af 46) (gz Af 1)) (gz Af 0) x1 x2 r) x1) x1 (v4_27 + 1).toNat = mnF (fun r => arF (sh Af 10) (sh Af 46) (gz Af 1) r (nwK (arF (sh Af 10) (sh Af 46) (gz Af 1)) (gz Af 0) x1 x2 r) x1) x1 (v4_27).toNat) ∨ (¬ v4_27 = x1 ∧ mnF (fun r => arF (sh Af 10) (sh Af 46) (gz Af 1) r (nwK (arF (sh Af 10) (sh Af 46) (gz Af 1)) (gz Af 0) x1 x2 r) x1) x1 (v4_27 + 1).toNat = min (mnF (fun r => arF (sh Af 10) (sh Af 46) (gz Af 1) r (nwK (arF (sh Af 10) (sh Af 46) (gz Af 1)) (gz Af 0) x1 x2 r) x1) x1 (v4_27).toNat) (arF (sh Af 10) (sh Af 46) (gz Af 1) v4_27 (nwK (arF (sh Af 10) (sh Af 46) (gz Af 1)) (gz Af 0) x1 x2 v4_27) x1)) := mnF_s (by omega); rw [← nwK_eq (later_ar mF) p_6 (o := v4_27) (by omega) (by omega)] at m9; omega)) (show (v4_27 + 1) ≤ gz Af 0 from (by omega)) (hP.sub [0, 1, 2, 3, 4] rfl) (hD.sub [0, 1, 2, 3, 4] rfl rfl) hS (lv_sub hl [0, 1, 2, 3, 4] rfl)
    exact HL27 10 1000000 0 _ _ _ (by omega) (show (0 ≤ 0 ∧ 0 ≤ (gz Af 0) + 1) from ⟨by omega, by omega⟩) (show 0 ≤ 1000000 ∧ 1000000 ≤ 1000000 from (by omega)) (show 1000000 = mnF (fun r => arF (sh Af 10) (sh Af 46) (gz Af 1) r (nwK (arF (sh Af 10) (sh Af 46) (gz Af 1)) (gz Af 0) x1 x2 r) x1) x1 (Int.toNat (0)) from rfl) (show 0 ≤ gz Af 0 from (by omega)) (hP.sub [0, 1, 2, 3, 4] rfl) (hD.sub [0, 1, 2, 3, 4] rfl rfl) hS (lv_sub hl [0, 1, 2, 3, 4] rfl)
  ·
    subst qz_1
    refine lv_if_ne (tgt := 15) hx hb dX12_hearsBack_6 rfl (fun c => absurd (by decide) c) (fun _ => ?_)
    refine lv_aload_n hx hb dX12_hearsBack_9 rfl (lv_at hl 0 rfl) ?_
    refine lv_iconst (v := iZ 1) hx hb dX12_hearsBack_10 rfl ?_
    refine CWV (As := [.int (iZ 1)]) (rest := []) (wc := _) (wr := [(Ma, .inl (k 1, 5340, .inl Af)), (Mk, .inl (k 1, 6, .inl Kf)), (Ml, .inl (k 1, 6, .inl Lf)), (Mb, .inl (k 1, 6, .inl Bf))]) hx hb hml hown hts hKK hP hD hS hA (m_refuse l D k hm Ma Mn Ms My Mt Mp Mx Mo Mk Ml Mb Mh Mc Mz Mr Mq Mst Mtd Msz Mtk Mfr Men Mva Mfk Mfp Mfs Mse Mlt Mdp Mct Mdr Mrs Mit Mmk Mtp Mbt 1) ci_X12_refuse qm_X12_81 ⟨Nat.le_of_ble_eq_true rfl, Nat.le_of_ble_eq_true rfl⟩ ⟨Nat.le_of_ble_eq_true rfl, Nat.le_of_ble_eq_true rfl⟩ [0] [1, 2, 3, 4] rfl rfl rfl rfl rfl (dj rfl) 0 rfl rfl rfl hl.1 rfl (Nat.le_of_ble_eq_true rfl) dX12_hearsBack_11 (fun u_18 H locs hφ hP hD hS => ?_)
    refine W.eq (g2 := F0 m 14 ls [.int (iZ (-1))]) rfl ?_
    exact EWi hx hb hr hlocks hS (((-1), 1), 0, (Kf, Lf, Bf), ()) rfl (show (((0 ≤ x1 ∧ x1 < (gz Af 0)) ∧ (0 ≤ x2 ∧ x2 ≤ 400)) ∧ ((mnF (fun r => arF (sh Af 10) (sh Af 46) (gz Af 1) r (nwK (arF (sh Af 10) (sh Af 46) (gz Af 1)) (gz Af 0) x1 x2 r) x1) x1 ((gz Af 0)).toNat = 1000000 ∧ ((-1) : Int) = -1) ∨ (mnF (fun r => arF (sh Af 10) (sh Af 46) (gz Af 1) r (nwK (arF (sh Af 10) (sh Af 46) (gz Af 1)) (gz Af 0) x1 x2 r) x1) x1 ((gz Af 0)).toNat < 1000000 ∧ ((-1) : Int) = mnF (fun r => arF (sh Af 10) (sh Af 46) (gz Af 1) r (nwK (arF (sh Af 10) (sh Af 46) (gz Af 1)) (gz Af 0) x1 x2 r) x1) x1 ((gz Af 0)).toNat))) ∨ (¬ ((0 ≤ x1 ∧ x1 < (gz Af 0)) ∧ (0 ≤ x2 ∧ x2 ≤ 400)) ∧ ((-1) : Int) = -1) from (Or.inr ⟨by omega, rfl⟩)) (hP.sub [4, 0, 1, 2, 3] rfl) (hD.sub [4, 0, 1, 2, 3] rfl rfl) dX12_hearsBack_14
set_option maxHeartbeats 4000000 in
set_option maxRecDepth 100000 in
theorem q_remote (l : Launch) (D : va_G) (k : Nat → ClassId) (hm : Nat) (Ma : Nat) (Mn : Nat) (Ms : Nat) (My : Nat) (Mt : Nat) (Mp : Nat) (Mx : Nat) (Mo : Nat) (Mk : Nat) (Ml : Nat) (Mb : Nat) (Mh : Nat) (Mc : Nat) (Mz : Nat) (Mr : Nat) (Mq : Nat) (Mst : Int) (Mtd : Int) (Msz : Int) (Mtk : Int) (Mfr : Int) (Men : Int) (Mva : Int) (Mfk : Int) (Mfp : Int) (Mfs : Int) (Mse : Int) (Mlt : Int) (Mdp : Int) (Mct : Int) (Mdr : Int) (Mrs : Int) (Mit : Int) (Mmk : Int) (Mtp : Int64) (Mbt : Int64) (Af : Nat → Int32) (Kf : Nat → Int32) (Lf : Nat → Int32) (Bf : Nat → Int32) (x1 : Int) (hM : M0 Af) (h9x1 : -2147483648 ≤ x1 ∧ x1 < 2147483648) : WD (σ := ((Int × Int) × (Int64) × ((Nat → Int32) × (Nat → Int32) × (Nat → Int32)) × (Unit))) l yX12_remote cX12_remote 7 (some .int) 6 0 0 D k [.ref hm, .int (iZ x1)] [(hm, .inr (12, [.ref Ma, .ref Mn, .int (iZ Mst), .long Mtp, .long Mbt, .ref Ms, .ref My, .ref Mt, .ref Mp, .ref Mx, .int (iZ Mtd), .int (iZ Msz), .int (iZ Mtk), .int (iZ Mfr), .int (iZ Men), .int (iZ Mva), .int (iZ Mfk), .int (iZ Mfp), .int (iZ Mfs), .int (iZ Mse), .int (iZ Mlt), .ref Mo, .int (iZ Mdp), .int (iZ Mct), .ref Mk, .ref Ml, .ref Mb, .ref Mh, .ref Mc, .int (iZ Mdr), .int (iZ Mrs), .ref Mz, .ref Mr, .ref Mq, .int (iZ Mit), .int (iZ Mmk)])), (Ma, .inl (k 1, 5340, .inl Af)), (Mk, .inl (k 1, 6, .inl Kf)), (Ml, .inl (k 1, 6, .inl Lf)), (Mb, .inl (k 1, 6, .inl Bf))] (fun u => some (.int (iZ u.1.1))) (fun u => (((0 ≤ x1 ∧ x1 ≤ 400)) ∧ ∃ m : Int, isMx (fun r => smF (fun o => nwK (arF (sh Af 10) (sh Af 46) (gz Af 1)) (gz Af 0) o x1 r) (gz Af 0).toNat) (gz Af 0) u.1.1 m) ∨ (¬ ((0 ≤ x1 ∧ x1 ≤ 400)) ∧ (u.1.1 : Int) = -1)) (fun u => [(hm, .inr (12, [.ref Ma, .ref Mn, .int (iZ u.1.2), .long Mtp, .long Mbt, .ref Ms, .ref My, .ref Mt, .ref Mp, .ref Mx, .int (iZ Mtd), .int (iZ Msz), .int (iZ Mtk), .int (iZ Mfr), .int (iZ Men), .int (iZ Mva), .int (iZ Mfk), .int (iZ Mfp), .int (iZ Mfs), .int (iZ Mse), .int (iZ Mlt), .ref Mo, .int (iZ Mdp), .int (iZ Mct), .ref Mk, .ref Ml, .ref Mb, .ref Mh, .ref Mc, .int (iZ Mdr), .int (iZ Mrs), .ref Mz, .ref Mr, .ref Mq, .int (iZ Mit), .int (iZ Mmk)])), (Ma, .inl (k 1, 5340, .inl Af)), (Mk, .inl (k 1, 6, .inl u.2.2.1.1)), (Ml, .inl (k 1, 6, .inl u.2.2.1.2.1)), (Mb, .inl (k 1, 6, .inl u.2.2.1.2.2))]) := by
  refine MW (by decide) (Nat.le_of_ble_eq_true rfl) (fun p e s m below meth c ls A hx hb hml hr hlocks hin hts hown hKK hP hD hS hA hl => ?_)
  have hK := hKK.1
  have hl : lv_has ls 7 [(0, .ref hm), (1, .int (iZ x1))] := hl
  obtain ⟨m0, m1, m3, m4, m5, mF, mO, mS⟩ := id hM
  refine lv_iload_n hx hb dX12_remote_0 rfl (lv_at hl 1 rfl) ?_
  refine CPS (As := [.int (iZ x1)]) (rest := []) hx hb hml hown hts hKK (hP.sub (ws' := []) [] rfl) (m_isWeek l D k x1 ⟨by omega, by omega⟩) ci_X12_isWeek qm_X12_268 ⟨Nat.le_of_ble_eq_true rfl, Nat.le_of_ble_eq_true rfl⟩ ⟨Nat.le_of_ble_eq_true rfl, Nat.le_of_ble_eq_true rfl⟩ rfl hl.1 rfl (Nat.le_of_ble_eq_true rfl) dX12_remote_1 (fun z_1 hz_1 => ?_)
  rcases hz_1 with ⟨qz_1, hz_1⟩ | ⟨qz_1, hz_1⟩
  ·
    subst qz_1
    refine lv_if_ne (tgt := 13) hx hb dX12_remote_4 rfl (fun _ => ?_) (fun c => absurd c (by decide))
    refine lv_iconst (v := iZ (-1)) hx hb dX12_remote_13 rfl ?_
    refine lv_istore_n (lv' := [(2, .int (iZ (-1))), (0, .ref hm), (1, .int (iZ x1))]) hx hb dX12_remote_14 rfl hl (bl rfl) rfl (fun ls hl => ?_)
    refine lv_iconst (v := iZ (-1)) hx hb dX12_remote_15 rfl ?_
    refine lv_istore_n (lv' := [(3, .int (iZ (-1))), (2, .int (iZ (-1))), (0, .ref hm), (1, .int (iZ x1))]) hx hb dX12_remote_16 rfl hl (bl rfl) rfl (fun ls hl => ?_)
    refine lv_iconst (v := iZ 0) hx hb dX12_remote_17 rfl ?_
    refine lv_istore (lv' := [(4, .int (iZ 0)), (3, .int (iZ (-1))), (2, .int (iZ (-1))), (0, .ref hm), (1, .int (iZ x1))]) hx hb dX12_remote_18 hl (bl rfl) rfl (fun ls hl => ?_)
    have HL20 : ∀ (fu : Nat) (v3_20 : Int) (v2_20 : Int) (v4_20 : Int) (Kfq20 : Nat → Int32) (Lfq20 : Nat → Int32) (Bfq20 : Nat → Int32) (H : Heap) (locs : List Loc) (ls : Array Slot), ((gz Af 0) + 2 - v4_20) < (fu : Int) → ((0 ≤ v4_20 ∧ v4_20 ≤ (gz Af 0) + 1)) → (-1 ≤ v2_20 ∧ v2_20 < gz Af 0) → (-1 ≤ v3_20 ∧ v3_20 ≤ 700000) → (isMx (fun r => smF (fun o => nwK (arF (sh Af 10) (sh Af 46) (gz Af 1)) (gz Af 0) o x1 r) (gz Af 0).toNat) v4_20 v2_20 v3_20) → (v4_20 ≤ gz Af 0) → va_P D vwCl [(hm, .inr (12, [.ref Ma, .ref Mn, .int (iZ Mst), .long Mtp, .long Mbt, .ref Ms, .ref My, .ref Mt, .ref Mp, .ref Mx, .int (iZ Mtd), .int (iZ Msz), .int (iZ Mtk), .int (iZ Mfr), .int (iZ Men), .int (iZ Mva), .int (iZ Mfk), .int (iZ Mfp), .int (iZ Mfs), .int (iZ Mse), .int (iZ Mlt), .ref Mo, .int (iZ Mdp), .int (iZ Mct), .ref Mk, .ref Ml, .ref Mb, .ref Mh, .ref Mc, .int (iZ Mdr), .int (iZ Mrs), .ref Mz, .ref Mr, .ref Mq, .int (iZ Mit), .int (iZ Mmk)])), (Ma, .inl (k 1, 5340, .inl Af)), (Mk, .inl (k 1, 6, .inl Kfq20)), (Ml, .inl (k 1, 6, .inl Lfq20)), (Mb, .inl (k 1, 6, .inl Bfq20))] H → va_D A [(hm, .inr (12, [.ref Ma, .ref Mn, .int (iZ Mst), .long Mtp, .long Mbt, .ref Ms, .ref My, .ref Mt, .ref Mp, .ref Mx, .int (iZ Mtd), .int (iZ Msz), .int (iZ Mtk), .int (iZ Mfr), .int (iZ Men), .int (iZ Mva), .int (iZ Mfk), .int (iZ Mfp), .int (iZ Mfs), .int (iZ Mse), .int (iZ Mlt), .ref Mo, .int (iZ Mdp), .int (iZ Mct), .ref Mk, .ref Ml, .ref Mb, .ref Mh, .ref Mc, .int (iZ Mdr), .int (iZ Mrs), .ref Mz, .ref Mr, .ref Mq, .int (iZ Mit), .int (iZ Mmk)])), (Ma, .inl (k 1, 5340, .inl Af)), (Mk, .inl (k 1, 6, .inl Kfq20)), (Ml, .inl (k 1, 6, .inl Lfq20)), (Mb, .inl (k 1, 6, .inl Bfq20))] → va_S A s.heap H locs → lv_has ls 7 [(4, .int (iZ v4_20)), (3, .int (iZ v3_20)), (2, .int (iZ v2_20)), (0, .ref hm), (1, .int (iZ x1))] → W p l e (rj 6 0 0) s m [.ref hm, .int (iZ x1)].toArray below meth c H locs 0 0 (MQ below (QW (σ := ((Int × Int) × (Int64) × ((Nat → Int32) × (Nat → Int32) × (Nat → Int32)) × (Unit))) (fun u => some (.int (iZ u.1.1))) (fun u => (((0 ≤ x1 ∧ x1 ≤ 400)) ∧ ∃ m : Int, isMx (fun r => smF (fun o => nwK (arF (sh Af 10) (sh Af 46) (gz Af 1)) (gz Af 0) o x1 r) (gz Af 0).toNat) (gz Af 0) u.1.1 m) ∨ (¬ ((0 ≤ x1 ∧ x1 ≤ 400)) ∧ (u.1.1 : Int) = -1)) (fun u => [(hm, .inr (12, [.ref Ma, .ref Mn, .int (iZ u.1.2), .long Mtp, .long Mbt, .ref Ms, .ref My, .ref Mt, .ref Mp, .ref Mx, .int (iZ Mtd), .int (iZ Msz), .int (iZ Mtk), .int (iZ Mfr), .int (iZ Men), .int (iZ Mva), .int (iZ Mfk), .int (iZ Mfp), .int (iZ Mfs), .int (iZ Mse), .int (iZ Mlt), .ref Mo, .int (iZ Mdp), .int (iZ Mct), .ref Mk, .ref Ml, .ref Mb, .ref Mh, .ref Mc, .int (iZ Mdr), .int (iZ Mrs), .ref Mz, .ref Mr, .ref Mq, .int (iZ Mit), .int (iZ Mmk)])), (Ma, .inl (k 1, 5340, .inl Af)), (Mk, .inl (k 1, 6, .inl u.2.2.1.1)), (Ml, .inl (k 1, 6, .inl u.2.2.1.2.1)), (Mb, .inl (k 1, 6, .inl u.2.2.1.2.2))]) D A) [.ref hm, .int (iZ x1)].toArray s 0 0 A) (F0 m 20 ls []) := by
      intro fu
      induction fu with
      | zero => intro v3_20 v2_20 v4_20 Kfq20 Lfq20 Bfq20 H locs ls hμ20 hi20 hf0_20 hf1_20 hmx hbn hP hD hS hl; exact absurd hμ20 (by omega)
      | succ fu ih20 =>
        intro v3_20 v2_20 v4_20 Kfq20 Lfq20 Bfq20 H locs ls hμ20 hi20 hf0_20 hf1_20 hmx hbn hP hD hS hl
        refine lv_iload hx hb dX12_remote_20 (lv_at hl 0 rfl) ?_
        refine lv_aload_n hx hb dX12_remote_22 rfl (lv_at hl 3 rfl) ?_
        refine va_get (D := D) (ci := 12) (v := .ref Ma) (C := RX12) (T := TX12) (N := 36) hx hb hts iX12 hown hK hP 0 rfl rfl 0 (bl rfl) (hts _ qf_X12_7) (fun _ h => h) rfl dX12_remote_23 ?_
        refine lv_iconst (v := iZ 0) hx hb dX12_remote_26 rfl ?_
        refine va_iald hx hb hK hP 1 1 rfl rfl (zin (e := 0) (n := 5340) ⟨by omega, by omega⟩ (bl rfl)) dX12_remote_27 ?_
        refine lv_topi (fun x_3 ex_3 => ?_)
        obtain rfl : x_3 = iZ (gz Af 0) := ex_3.trans (gz_eq ⟨by omega, by omega⟩)
        have h_4 := gz_rg Af 0
        refine lv_icmp_ge (tgt := 111) hx hb dX12_remote_28 rfl (fun c_5 => ?_) (fun c_5 => ?_)
        ·
          have c_5 := (zle (x := iZ (gz Af 0)) (y := iZ v4_20) rfl rfl (gz_rg Af 0) ⟨by omega, by omega⟩).mp c_5
          refine lv_aload_n hx hb dX12_remote_111 rfl (lv_at hl 3 rfl) ?_
          refine lv_iload_n hx hb dX12_remote_112 rfl (lv_at hl 2 rfl) ?_
          refine CWV (As := [.int (iZ v2_20)]) (rest := []) (wc := _) (wr := [(Ma, .inl (k 1, 5340, .inl Af)), (Mk, .inl (k 1, 6, .inl Kfq20)), (Ml, .inl (k 1, 6, .inl Lfq20)), (Mb, .inl (k 1, 6, .inl Bfq20))]) hx hb hml hown hts hKK hP hD hS hA (m_orNone l D k hm Ma Mn Ms My Mt Mp Mx Mo Mk Ml Mb Mh Mc Mz Mr Mq Mst Mtd Msz Mtk Mfr Men Mva Mfk Mfp Mfs Mse Mlt Mdp Mct Mdr Mrs Mit Mmk Mtp Mbt v2_20 ⟨by omega, by omega⟩) ci_X12_orNone qm_X12_290 ⟨Nat.le_of_ble_eq_true rfl, Nat.le_of_ble_eq_true rfl⟩ ⟨Nat.le_of_ble_eq_true rfl, Nat.le_of_ble_eq_true rfl⟩ [0] [1, 2, 3, 4] rfl rfl rfl rfl rfl (dj rfl) 0 rfl rfl rfl hl.1 rfl (Nat.le_of_ble_eq_true rfl) dX12_remote_113 (fun u_6 H locs hφ hP hD hS => ?_)
          have p_7 : ((v2_20 : Int) = -1 ∧ u_6.1.2 = 6) ∨ (¬ (v2_20 : Int) = -1 ∧ u_6.1.2 = 0) := hφ
          refine W.eq (g2 := F0 m 116 ls [.int (iZ v2_20)]) rfl ?_
          exact EWi hx hb hr hlocks hS ((v2_20, u_6.1.2), 0, (Kfq20, Lfq20, Bfq20), ()) rfl (show (((0 ≤ x1 ∧ x1 ≤ 400)) ∧ ∃ m : Int, isMx (fun r => smF (fun o => nwK (arF (sh Af 10) (sh Af 46) (gz Af 1)) (gz Af 0) o x1 r) (gz Af 0).toNat) (gz Af 0) v2_20 m) ∨ (¬ ((0 ≤ x1 ∧ x1 ≤ 400)) ∧ (v2_20 : Int) = -1) from (Or.inl ⟨by omega, v3_20, isMx_e hmx (by omega)⟩)) (hP.sub [4, 0, 1, 2, 3] rfl) (hD.sub [4, 0, 1, 2, 3] rfl rfl) dX12_remote_116
        ·
          have c_5 := mt (zle (x := iZ (gz Af 0)) (y := iZ v4_20) rfl rfl (gz_rg Af 0) ⟨by omega, by omega⟩).mpr c_5
          refine lv_iconst (v := iZ 0) hx hb dX12_remote_31 rfl ?_
          refine lv_istore (lv' := [(5, .int (iZ 0)), (4, .int (iZ v4_20)), (3, .int (iZ v3_20)), (2, .int (iZ v2_20)), (0, .ref hm), (1, .int (iZ x1))]) hx hb dX12_remote_32 hl (bl rfl) rfl (fun ls hl => ?_)
          refine lv_iconst (v := iZ 0) hx hb dX12_remote_34 rfl ?_
          refine lv_istore (lv' := [(6, .int (iZ 0)), (5, .int (iZ 0)), (4, .int (iZ v4_20)), (3, .int (iZ v3_20)), (2, .int (iZ v2_20)), (0, .ref hm), (1, .int (iZ x1))]) hx hb dX12_remote_35 hl (bl rfl) rfl (fun ls hl => ?_)
          have HL37 : ∀ (fu : Nat) (v5_37 : Int) (v6_37 : Int) (Kfq37 : Nat → Int32) (Lfq37 : Nat → Int32) (Bfq37 : Nat → Int32) (H : Heap) (locs : List Loc) (ls : Array Slot), ((gz Af 0) + 2 - v6_37) < (fu : Int) → ((0 ≤ v6_37 ∧ v6_37 ≤ (gz Af 0) + 1)) → (0 ≤ v5_37 ∧ v5_37 ≤ v6_37 * 100000) → (v5_37 = smF (fun o => nwK (arF (sh Af 10) (sh Af 46) (gz Af 1)) (gz Af 0) o x1 v4_20) (Int.toNat (v6_37))) → (v6_37 ≤ gz Af 0) → va_P D vwCl [(hm, .inr (12, [.ref Ma, .ref Mn, .int (iZ Mst), .long Mtp, .long Mbt, .ref Ms, .ref My, .ref Mt, .ref Mp, .ref Mx, .int (iZ Mtd), .int (iZ Msz), .int (iZ Mtk), .int (iZ Mfr), .int (iZ Men), .int (iZ Mva), .int (iZ Mfk), .int (iZ Mfp), .int (iZ Mfs), .int (iZ Mse), .int (iZ Mlt), .ref Mo, .int (iZ Mdp), .int (iZ Mct), .ref Mk, .ref Ml, .ref Mb, .ref Mh, .ref Mc, .int (iZ Mdr), .int (iZ Mrs), .ref Mz, .ref Mr, .ref Mq, .int (iZ Mit), .int (iZ Mmk)])), (Ma, .inl (k 1, 5340, .inl Af)), (Mk, .inl (k 1, 6, .inl Kfq37)), (Ml, .inl (k 1, 6, .inl Lfq37)), (Mb, .inl (k 1, 6, .inl Bfq37))] H → va_D A [(hm, .inr (12, [.ref Ma, .ref Mn, .int (iZ Mst), .long Mtp, .long Mbt, .ref Ms, .ref My, .ref Mt, .ref Mp, .ref Mx, .int (iZ Mtd), .int (iZ Msz), .int (iZ Mtk), .int (iZ Mfr), .int (iZ Men), .int (iZ Mva), .int (iZ Mfk), .int (iZ Mfp), .int (iZ Mfs), .int (iZ Mse), .int (iZ Mlt), .ref Mo, .int (iZ Mdp), .int (iZ Mct), .ref Mk, .ref Ml, .ref Mb, .ref Mh, .ref Mc, .int (iZ Mdr), .int (iZ Mrs), .ref Mz, .ref Mr, .ref Mq, .int (iZ Mit), .int (iZ Mmk)])), (Ma, .inl (k 1, 5340, .inl Af)), (Mk, .inl (k 1, 6, .inl Kfq37)), (Ml, .inl (k 1, 6, .inl Lfq37)), (Mb, .inl (k 1, 6, .inl Bfq37))] → va_S A s.heap H locs → lv_has ls 7 [(6, .int (iZ v6_37)), (5, .int (iZ v5_37)), (4, .int (iZ v4_20)), (3, .int (iZ v3_20)), (2, .int (iZ v2_20)), (0, .ref hm), (1, .int (iZ x1))] → W p l e (rj 6 0 0) s m [.ref hm, .int (iZ x1)].toArray below meth c H locs 0 0 (MQ below (QW (σ := ((Int × Int) × (Int64) × ((Nat → Int32) × (Nat → Int32) × (Nat → Int32)) × (Unit))) (fun u => some (.int (iZ u.1.1))) (fun u => (((0 ≤ x1 ∧ x1 ≤ 400)) ∧ ∃ m : Int, isMx (fun r => smF (fun o => nwK (arF (sh Af 10) (sh Af 46) (gz Af 1)) (gz Af 0) o x1 r) (gz Af 0).toNat) (gz Af 0) u.1.1 m) ∨ (¬ ((0 ≤ x1 ∧ x1 ≤ 400)) ∧ (u.1.1 : Int) = -1)) (fun u => [(hm, .inr (12, [.ref Ma, .ref Mn, .int (iZ u.1.2), .long Mtp, .long Mbt, .ref Ms, .ref My, .ref Mt, .ref Mp, .ref Mx, .int (iZ Mtd), .int (iZ Msz), .int (iZ Mtk), .int (iZ Mfr), .int (iZ Men), .int (iZ Mva), .int (iZ Mfk), .int (iZ Mfp), .int (iZ Mfs), .int (iZ Mse), .int (iZ Mlt), .ref Mo, .int (iZ Mdp), .int (iZ Mct), .ref Mk, .ref Ml, .ref Mb, .ref Mh, .ref Mc, .int (iZ Mdr), .int (iZ Mrs), .ref Mz, .ref Mr, .ref Mq, .int (iZ Mit), .int (iZ Mmk)])), (Ma, .inl (k 1, 5340, .inl Af)), (Mk, .inl (k 1, 6, .inl u.2.2.1.1)), (Ml, .inl (k 1, 6, .inl u.2.2.1.2.1)), (Mb, .inl (k 1, 6, .inl u.2.2.1.2.2))]) D A) [.ref hm, .int (iZ x1)].toArray s 0 0 A) (F0 m 37 ls []) := by
            intro fu
            induction fu with
            | zero => intro v5_37 v6_37 Kfq37 Lfq37 Bfq37 H locs ls hμ37 hi37 hf0_37 hsm hb2 hP hD hS hl; exact absurd hμ37 (by omega)
            | succ fu ih37 =>
              intro v5_37 v6_37 Kfq37 Lfq37 Bfq37 H locs ls hμ37 hi37 hf0_37 hsm hb2 hP hD hS hl
              refine lv_iload hx hb dX12_remote_37 (lv_at hl 0 rfl) ?_
              refine lv_aload_n hx hb dX12_remote_39 rfl (lv_at hl 5 rfl) ?_
              refine va_get (D := D) (ci := 12) (v := .ref Ma) (C := RX12) (T := TX12) (N := 36) hx hb hts iX12 hown hK hP 0 rfl rfl 0 (bl rfl) (hts _ qf_X12_7) (fun _ h => h) rfl dX12_remote_40 ?_
              refine lv_iconst (v := iZ 0) hx hb dX12_remote_43 rfl ?_
              refine va_iald hx hb hK hP 1 1 rfl rfl (zin (e := 0) (n := 5340) ⟨by omega, by omega⟩ (bl rfl)) dX12_remote_44 ?_
              refine lv_topi (fun x_8 ex_8 => ?_)
              obtain rfl : x_8 = iZ (gz Af 0) := ex_8.trans (gz_eq ⟨by omega, by omega⟩)
              have h_9 := gz_rg Af 0
              refine lv_icmp_ge (tgt := 90) hx hb dX12_remote_45 rfl (fun c_10 => ?_) (fun c_10 => ?_)
              ·
                have c_10 := (zle (x := iZ (gz Af 0)) (y := iZ v6_37) rfl rfl (gz_rg Af 0) ⟨by omega, by omega⟩).mp c_10
                refine lv_iload hx hb dX12_remote_90 (lv_at hl 1 rfl) ?_
                refine lv_iload_n hx hb dX12_remote_92 rfl (lv_at hl 3 rfl) ?_
                refine lv_icmp_gt (tgt := 99) hx hb dX12_remote_93 rfl (fun c_11 => ?_) (fun c_11 => ?_)
                ·
                  have c_11 := (zlt (x := iZ v3_20) (y := iZ v5_37) rfl rfl ⟨by omega, by omega⟩ ⟨by omega, by omega⟩).mp c_11
                  refine lv_iload hx hb dX12_remote_99 (lv_at hl 1 rfl) ?_
                  refine lv_istore_n (lv' := [(3, .int (iZ v5_37)), (6, .int (iZ v6_37)), (5, .int (iZ v5_37)), (4, .int (iZ v4_20)), (2, .int (iZ v2_20)), (0, .ref hm), (1, .int (iZ x1))]) hx hb dX12_remote_101 rfl hl (bl rfl) rfl (fun ls hl => ?_)
                  refine lv_iload hx hb dX12_remote_102 (lv_at hl 3 rfl) ?_
                  refine lv_istore_n (lv' := [(2, .int (iZ v4_20)), (3, .int (iZ v5_37)), (6, .int (iZ v6_37)), (5, .int (iZ v5_37)), (4, .int (iZ v4_20)), (0, .ref hm), (1, .int (iZ x1))]) hx hb dX12_remote_104 rfl hl (bl rfl) rfl (fun ls hl => ?_)
                  refine lv_iinc (v := iZ (v4_20 + 1)) (lv' := [(4, .int (iZ (v4_20 + 1))), (2, .int (iZ v4_20)), (3, .int (iZ v5_37)), (6, .int (iZ v6_37)), (5, .int (iZ v5_37)), (0, .ref hm), (1, .int (iZ x1))]) hx hb dX12_remote_105 hl (k := 4) rfl (iZ_add v4_20 1) (by decide) rfl (fun ls hl => ?_)
                  refine lv_goto (tgt := 20) hx hb dX12_remote_108 rfl ?_
                  exact ih20  v5_37 v4_20 (v4_20 + 1) Kfq37 Lfq37 Bfq37 _ _ _ (by omega) (show (0 ≤ (v4_20 + 1) ∧ (v4_20 + 1) ≤ (gz Af 0) + 1) from ⟨by omega, by omega⟩) (show -1 ≤ v4_20 ∧ v4_20 < gz Af 0 from (by omega)) (show -1 ≤ v5_37 ∧ v5_37 ≤ 700000 from (by omega)) (show isMx (fun r => smF (fun o => nwK (arF (sh Af 10) (sh Af 46) (gz Af 1)) (gz Af 0) o x1 r) (gz Af 0).toNat) (v4_20 + 1) v4_20 v5_37 from (isMx_c (isMx_u hmx (by omega) (show smF (fun o => nwK (arF (sh Af 10) (sh Af 46) (gz Af 1)) (gz Af 0) o x1 v4_20) (gz Af 0).toNat > v3_20 from by have s9 : v5_37 = smF (fun o => nwK (arF (sh Af 10) (sh Af 46) (gz Af 1)) (gz Af 0) o x1 v4_20) (gz Af 0).toNat := (by have e9 : v6_37 = gz Af 0 := (by omega); rw [← e9]; exact hsm); omega)) (show smF (fun o => nwK (arF (sh Af 10) (sh Af 46) (gz Af 1)) (gz Af 0) o x1 v4_20) (gz Af 0).toNat = v5_37 from by have s9 : v5_37 = smF (fun o => nwK (arF (sh Af 10) (sh Af 46) (gz Af 1)) (gz Af 0) o x1 v4_20) (gz Af 0).toNat := (by have e9 : v6_37 = gz Af 0 := (by omega); rw [← e9]; exact hsm); omega))) (show (v4_20 + 1) ≤ gz Af 0 from (by omega)) (hP.sub [0, 1, 2, 3, 4] rfl) (hD.sub [0, 1, 2, 3, 4] rfl rfl) hS (lv_sub hl [0, 2, 1, 5, 6] rfl)
                ·
                  have c_11 := mt (zlt (x := iZ v3_20) (y := iZ v5_37) rfl rfl ⟨by omega, by omega⟩ ⟨by omega, by omega⟩).mpr c_11
                  refine lv_goto (tgt := 105) hx hb dX12_remote_96 rfl ?_
                  refine lv_iinc (v := iZ (v4_20 + 1)) (lv' := [(4, .int (iZ (v4_20 + 1))), (6, .int (iZ v6_37)), (5, .int (iZ v5_37)), (3, .int (iZ v3_20)), (2, .int (iZ v2_20)), (0, .ref hm), (1, .int (iZ x1))]) hx hb dX12_remote_105 hl (k := 2) rfl (iZ_add v4_20 1) (by decide) rfl (fun ls hl => ?_)
                  refine lv_goto (tgt := 20) hx hb dX12_remote_108 rfl ?_
                  exact ih20  v3_20 v2_20 (v4_20 + 1) Kfq37 Lfq37 Bfq37 _ _ _ (by omega) (show (0 ≤ (v4_20 + 1) ∧ (v4_20 + 1) ≤ (gz Af 0) + 1) from ⟨by omega, by omega⟩) (show -1 ≤ v2_20 ∧ v2_20 < gz Af 0 from (by omega)) (show -1 ≤ v3_20 ∧ v3_20 ≤ 700000 from (by omega)) (show isMx (fun r => smF (fun o => nwK (arF (sh Af 10) (sh Af 46) (gz Af 1)) (gz Af 0) o x1 r) (gz Af 0).toNat) (v4_20 + 1) v2_20 v3_20 from (isMx_n hmx (show 0 ≤ smF (fun o => nwK (arF (sh Af 10) (sh Af 46) (gz Af 1)) (gz Af 0) o x1 v4_20) (gz Af 0).toNat from by have s9 : v5_37 = smF (fun o => nwK (arF (sh Af 10) (sh Af 46) (gz Af 1)) (gz Af 0) o x1 v4_20) (gz Af 0).toNat := (by have e9 : v6_37 = gz Af 0 := (by omega); rw [← e9]; exact hsm); omega) (show ¬ smF (fun o => nwK (arF (sh Af 10) (sh Af 46) (gz Af 1)) (gz Af 0) o x1 v4_20) (gz Af 0).toNat > v3_20 from by have s9 : v5_37 = smF (fun o => nwK (arF (sh Af 10) (sh Af 46) (gz Af 1)) (gz Af 0) o x1 v4_20) (gz Af 0).toNat := (by have e9 : v6_37 = gz Af 0 := (by omega); rw [← e9]; exact hsm); omega))) (show (v4_20 + 1) ≤ gz Af 0 from (by omega)) (hP.sub [0, 1, 2, 3, 4] rfl) (hD.sub [0, 1, 2, 3, 4] rfl rfl) hS (lv_sub hl [0, 3, 4, 5, 6] rfl)
              ·
                have c_10 := mt (zle (x := iZ (gz Af 0)) (y := iZ v6_37) rfl rfl (gz_rg Af 0) ⟨by omega, by omega⟩).mpr c_10
                refine lv_aload_n hx hb dX12_remote_48 rfl (lv_at hl 5 rfl) ?_
                refine lv_iload hx hb dX12_remote_49 (lv_at hl 0 rfl) ?_
                refine lv_iload_n hx hb dX12_remote_51 rfl (lv_at hl 6 rfl) ?_
                refine CWV (As := [.int (iZ v6_37), .int (iZ x1)]) (rest := []) (wc := _) (wr := []) hx hb hml hown hts hKK hP hD hS hA (m_lays l D k hm Ma Mn Ms My Mt Mp Mx Mo Mk Ml Mb Mh Mc Mz Mr Mq Mst Mtd Msz Mtk Mfr Men Mva Mfk Mfp Mfs Mse Mlt Mdp Mct Mdr Mrs Mit Mmk Mtp Mbt Af Kfq37 Lfq37 Bfq37 v6_37 x1 hM ⟨by omega, by omega⟩ ⟨by omega, by omega⟩) ci_X12_lays qm_X12_302 ⟨Nat.le_of_ble_eq_true rfl, Nat.le_of_ble_eq_true rfl⟩ ⟨Nat.le_of_ble_eq_true rfl, Nat.le_of_ble_eq_true rfl⟩ [0, 1, 2, 3, 4] [] rfl rfl rfl rfl rfl (dj rfl) 0 rfl rfl rfl hl.1 rfl (Nat.le_of_ble_eq_true rfl) dX12_remote_52 (fun u_12 H locs hφ hP hD hS => ?_)
                obtain ⟨p_13, p_14, p_15⟩ : (KR u_12.2.2.1.1 6) ∧ (rgI u_12.2.2.1.2.1 (-1) 5 6) ∧ (isNW (arF (sh Af 10) (sh Af 46) (gz Af 1)) (gz Af 0) v6_37 x1 (gz u_12.2.2.1.1) (gz u_12.2.2.1.2.1) (gz u_12.2.2.1.2.2)) := hφ
                refine W.eq (g2 := F0 m 55 ls []) rfl ?_
                refine lv_iload hx hb dX12_remote_55 (lv_at hl 1 rfl) ?_
                refine lv_aload_n hx hb dX12_remote_57 rfl (lv_at hl 5 rfl) ?_
                refine va_get (D := D) (ci := 12) (v := .ref Mk) (C := RX12) (T := TX12) (N := 36) hx hb hts iX12 hown hK hP 0 rfl rfl 24 (bl rfl) (hts _ qf_X12_47) (fun _ h => h) rfl dX12_remote_58 ?_
                refine lv_iload hx hb dX12_remote_61 (lv_at hl 2 rfl) ?_
                refine va_iald hx hb hK hP 2 1 rfl rfl (zin (e := v4_20) (n := 6) ⟨by omega, by omega⟩ (bl rfl)) dX12_remote_63 ?_
                refine lv_topi (fun x_16 ex_16 => ?_)
                obtain rfl : x_16 = iZ (gz u_12.2.2.1.1 v4_20) := ex_16.trans (gz_eq ⟨by omega, by omega⟩)
                have h_17 := p_13 v4_20 (by omega) (by omega)
                refine lv_ldc (own := RX12) (v := 1000000) hx hb hown (hts _ qk_X12_88) dX12_remote_64 ?_
                refine W.eq (g2 := F0 m 66 ls [.int (iZ 1000000), .int (iZ (gz u_12.2.2.1.1 v4_20)), .int (iZ v5_37)]) rfl ?_
                refine lv_icmp_ne (tgt := 74) hx hb dX12_remote_66 rfl (fun c_18 => ?_) (fun c_18 => ?_)
                ·
                  have c_18 := mt (zeq (x := iZ (gz u_12.2.2.1.1 v4_20)) (y := iZ 1000000) rfl rfl (gz_rg u_12.2.2.1.1 v4_20) wn_1000000).mpr c_18
                  refine lv_aload_n hx hb dX12_remote_74 rfl (lv_at hl 5 rfl) ?_
                  refine va_get (D := D) (ci := 12) (v := .ref Mk) (C := RX12) (T := TX12) (N := 36) hx hb hts iX12 hown hK hP 0 rfl rfl 24 (bl rfl) (hts _ qf_X12_47) (fun _ h => h) rfl dX12_remote_75 ?_
                  refine lv_iload hx hb dX12_remote_78 (lv_at hl 2 rfl) ?_
                  refine va_iald hx hb hK hP 2 1 rfl rfl (zin (e := v4_20) (n := 6) ⟨by omega, by omega⟩ (bl rfl)) dX12_remote_80 ?_
                  refine lv_topi (fun x_19 ex_19 => ?_)
                  obtain rfl : x_19 = iZ (gz u_12.2.2.1.1 v4_20) := ex_19.trans (gz_eq ⟨by omega, by omega⟩)
                  have h_20 := p_13 v4_20 (by omega) (by omega)
                  refine lv_iadd hx hb dX12_remote_81 ?_
                  refine lv_topi (fun x_21 ex_21 => ?_)
                  obtain rfl : x_21 = iZ (v5_37 + (gz u_12.2.2.1.1 v4_20)) := ex_21.trans (iZ_add v5_37 (gz u_12.2.2.1.1 v4_20))
                  refine lv_istore (lv' := [(5, .int (iZ (v5_37 + (gz u_12.2.2.1.1 v4_20)))), (6, .int (iZ v6_37)), (4, .int (iZ v4_20)), (3, .int (iZ v3_20)), (2, .int (iZ v2_20)), (0, .ref hm), (1, .int (iZ x1))]) hx hb dX12_remote_82 hl (bl rfl) rfl (fun ls hl => ?_)
                  refine lv_iinc (v := iZ (v6_37 + 1)) (lv' := [(6, .int (iZ (v6_37 + 1))), (5, .int (iZ (v5_37 + (gz u_12.2.2.1.1 v4_20)))), (4, .int (iZ v4_20)), (3, .int (iZ v3_20)), (2, .int (iZ v2_20)), (0, .ref hm), (1, .int (iZ x1))]) hx hb dX12_remote_84 hl (k := 1) rfl (iZ_add v6_37 1) (by decide) rfl (fun ls hl => ?_)
                  refine lv_goto (tgt := 37) hx hb dX12_remote_87 rfl ?_
                  exact ih37  (v5_37 + (gz u_12.2.2.1.1 v4_20)) (v6_37 + 1) u_12.2.2.1.1 u_12.2.2.1.2.1 u_12.2.2.1.2.2 _ _ _ (by omega) (show (0 ≤ (v6_37 + 1) ∧ (v6_37 + 1) ≤ (gz Af 0) + 1) from ⟨by omega, by omega⟩) (show 0 ≤ (v5_37 + (gz u_12.2.2.1.1 v4_20)) ∧ (v5_37 + (gz u_12.2.2.1.1 v4_20)) ≤ (v6_37 + 1) * 100000 from (by omega)) (show (v5_37 + (gz u_12.2.2.1.1 v4_20)) = smF (fun o => nwK (arF (sh Af 10) (sh Af 46) (gz Af 1)) (gz Af 0) o x1 v4_20) (Int.toNat ((v6_37 + 1))) from (by have m9 : (nwK (arF (sh Af 10) (sh Af 46) (gz Af 1)) (gz Af 0) v6_37 x1 v4_20 = 1000000 ∧ smF (fun o => nwK (arF (sh Af 10) (sh Af 46) (gz Af 1)) (gz Af 0) o x1 v4_20) (v6_37 + 1).toNat = smF (fun o => nwK (arF (sh Af 10) (sh Af 46) (gz Af 1)) (gz Af 0) o x1 v4_20) (v6_37).toNat + 100000) ∨ (¬ nwK (arF (sh Af 10) (sh Af 46) (gz Af 1)) (gz Af 0) v6_37 x1 v4_20 = 1000000 ∧ smF (fun o => nwK (arF (sh Af 10) (sh Af 46) (gz Af 1)) (gz Af 0) o x1 v4_20) (v6_37 + 1).toNat = smF (fun o => nwK (arF (sh Af 10) (sh Af 46) (gz Af 1)) (gz Af 0) o x1 v4_20) (v6_37).toNat + nwK (arF (sh Af 10) (sh Af 46) (gz Af 1)) (gz Af 0) v6_37 x1 v4_20) := smF_s (by omega); have k9 := nwK_eq (later_ar mF) p_15 (o := v4_20) (by omega) (by omega); have q9 := nwK_rg (later_ar mF) p_15 (o := v4_20) (by omega) (by omega); omega)) (show (v6_37 + 1) ≤ gz Af 0 from (by omega)) (hP.sub [0, 1, 2, 3, 4] rfl) (hD.sub [0, 1, 2, 3, 4] rfl rfl) hS (lv_sub hl [0, 1, 2, 3, 4, 5, 6] rfl)
                ·
                  have c_18 := (zeq (x := iZ (gz u_12.2.2.1.1 v4_20)) (y := iZ 1000000) rfl rfl (gz_rg u_12.2.2.1.1 v4_20) wn_1000000).mp c_18
                  refine lv_ldc (own := RX12) (v := 100000) hx hb hown (hts _ qk_X12_136) dX12_remote_69 ?_
                  refine W.eq (g2 := F0 m 71 ls [.int (iZ 100000), .int (iZ v5_37)]) rfl ?_
                  refine lv_goto (tgt := 81) hx hb dX12_remote_71 rfl ?_
                  refine lv_iadd hx hb dX12_remote_81 ?_
                  refine lv_topi (fun x_22 ex_22 => ?_)
                  obtain rfl : x_22 = iZ (v5_37 + 100000) := ex_22.trans (iZ_add v5_37 100000)
                  refine lv_istore (lv' := [(5, .int (iZ (v5_37 + 100000))), (6, .int (iZ v6_37)), (4, .int (iZ v4_20)), (3, .int (iZ v3_20)), (2, .int (iZ v2_20)), (0, .ref hm), (1, .int (iZ x1))]) hx hb dX12_remote_82 hl (bl rfl) rfl (fun ls hl => ?_)
                  refine lv_iinc (v := iZ (v6_37 + 1)) (lv' := [(6, .int (iZ (v6_37 + 1))), (5, .int (iZ (v5_37 + 100000))), (4, .int (iZ v4_20)), (3, .int (iZ v3_20)), (2, .int (iZ v2_20)), (0, .ref hm), (1, .int (iZ x1))]) hx hb dX12_remote_84 hl (k := 1) rfl (iZ_add v6_37 1) (by decide) rfl (fun ls hl => ?_)
                  refine lv_goto (tgt := 37) hx hb dX12_remote_87 rfl ?_
                  exact ih37  (v5_37 + 100000) (v6_37 + 1) u_12.2.2.1.1 u_12.2.2.1.2.1 u_12.2.2.1.2.2 _ _ _ (by omega) (show (0 ≤ (v6_37 + 1) ∧ (v6_37 + 1) ≤ (gz Af 0) + 1) from ⟨by omega, by omega⟩) (show 0 ≤ (v5_37 + 100000) ∧ (v5_37 + 100000) ≤ (v6_37 + 1) * 100000 from (by omega)) (show (v5_37 + 100000) = smF (fun o => nwK (arF (sh Af 10) (sh Af 46) (gz Af 1)) (gz Af 0) o x1 v4_20) (Int.toNat ((v6_37 + 1))) from (by have m9 : (nwK (arF (sh Af 10) (sh Af 46) (gz Af 1)) (gz Af 0) v6_37 x1 v4_20 = 1000000 ∧ smF (fun o => nwK (arF (sh Af 10) (sh Af 46) (gz Af 1)) (gz Af 0) o x1 v4_20) (v6_37 + 1).toNat = smF (fun o => nwK (arF (sh Af 10) (sh Af 46) (gz Af 1)) (gz Af 0) o x1 v4_20) (v6_37).toNat + 100000) ∨ (¬ nwK (arF (sh Af 10) (sh Af 46) (gz Af 1)) (gz Af 0) v6_37 x1 v4_20 = 1000000 ∧ smF (fun o => nwK (arF (sh Af 10) (sh Af 46) (gz Af 1)) (gz Af 0) o x1 v4_20) (v6_37 + 1).toNat = smF (fun o => nwK (arF (sh Af 10) (sh Af 46) (gz Af 1)) (gz Af 0) o x1 v4_20) (v6_37).toNat + nwK (arF (sh Af 10) (sh Af 46) (gz Af 1)) (gz Af 0) v6_37 x1 v4_20) := smF_s (by omega); have k9 := nwK_eq (later_ar mF) p_15 (o := v4_20) (by omega) (by omega); have q9 := nwK_rg (later_ar mF) p_15 (o := v4_20) (by omega) (by omega); omega)) (show (v6_37 + 1) ≤ gz Af 0 from (by omega)) (hP.sub [0, 1, 2, 3, 4] rfl) (hD.sub [0, 1, 2, 3, 4] rfl rfl) hS (lv_sub hl [0, 1, 2, 3, 4, 5, 6] rfl)
          exact HL37 10 0 0 Kfq20 Lfq20 Bfq20 _ _ _ (by omega) (show (0 ≤ 0 ∧ 0 ≤ (gz Af 0) + 1) from ⟨by omega, by omega⟩) (show 0 ≤ 0 ∧ 0 ≤ 0 * 100000 from (by omega)) (show 0 = smF (fun o => nwK (arF (sh Af 10) (sh Af 46) (gz Af 1)) (gz Af 0) o x1 v4_20) (Int.toNat (0)) from rfl) (show 0 ≤ gz Af 0 from (by omega)) (hP.sub [0, 1, 2, 3, 4] rfl) (hD.sub [0, 1, 2, 3, 4] rfl rfl) hS (lv_sub hl [0, 1, 2, 3, 4, 5, 6] rfl)
    exact HL20 10 (-1) (-1) 0 Kf Lf Bf _ _ _ (by omega) (show (0 ≤ 0 ∧ 0 ≤ (gz Af 0) + 1) from ⟨by omega, by omega⟩) (show -1 ≤ (-1) ∧ (-1) < gz Af 0 from (by omega)) (show -1 ≤ (-1) ∧ (-1) ≤ 700000 from (by omega)) (show isMx (fun r => smF (fun o => nwK (arF (sh Af 10) (sh Af 46) (gz Af 1)) (gz Af 0) o x1 r) (gz Af 0).toNat) 0 (-1) (-1) from isMx_0) (show 0 ≤ gz Af 0 from (by omega)) (hP.sub [0, 1, 2, 3, 4] rfl) (hD.sub [0, 1, 2, 3, 4] rfl rfl) hS (lv_sub hl [0, 1, 2, 3, 4] rfl)
  ·
    subst qz_1
    refine lv_if_ne (tgt := 13) hx hb dX12_remote_4 rfl (fun c => absurd (by decide) c) (fun _ => ?_)
    refine lv_aload_n hx hb dX12_remote_7 rfl (lv_at hl 0 rfl) ?_
    refine lv_iconst (v := iZ 1) hx hb dX12_remote_8 rfl ?_
    refine CWV (As := [.int (iZ 1)]) (rest := []) (wc := _) (wr := [(Ma, .inl (k 1, 5340, .inl Af)), (Mk, .inl (k 1, 6, .inl Kf)), (Ml, .inl (k 1, 6, .inl Lf)), (Mb, .inl (k 1, 6, .inl Bf))]) hx hb hml hown hts hKK hP hD hS hA (m_refuse l D k hm Ma Mn Ms My Mt Mp Mx Mo Mk Ml Mb Mh Mc Mz Mr Mq Mst Mtd Msz Mtk Mfr Men Mva Mfk Mfp Mfs Mse Mlt Mdp Mct Mdr Mrs Mit Mmk Mtp Mbt 1) ci_X12_refuse qm_X12_81 ⟨Nat.le_of_ble_eq_true rfl, Nat.le_of_ble_eq_true rfl⟩ ⟨Nat.le_of_ble_eq_true rfl, Nat.le_of_ble_eq_true rfl⟩ [0] [1, 2, 3, 4] rfl rfl rfl rfl rfl (dj rfl) 0 rfl rfl rfl hl.1 rfl (Nat.le_of_ble_eq_true rfl) dX12_remote_9 (fun u_24 H locs hφ hP hD hS => ?_)
    refine W.eq (g2 := F0 m 12 ls [.int (iZ (-1))]) rfl ?_
    exact EWi hx hb hr hlocks hS (((-1), 1), 0, (Kf, Lf, Bf), ()) rfl (show (((0 ≤ x1 ∧ x1 ≤ 400)) ∧ ∃ m : Int, isMx (fun r => smF (fun o => nwK (arF (sh Af 10) (sh Af 46) (gz Af 1)) (gz Af 0) o x1 r) (gz Af 0).toNat) (gz Af 0) (-1) m) ∨ (¬ ((0 ≤ x1 ∧ x1 ≤ 400)) ∧ ((-1) : Int) = -1) from (Or.inr ⟨by omega, rfl⟩)) (hP.sub [4, 0, 1, 2, 3] rfl) (hD.sub [4, 0, 1, 2, 3] rfl rfl) dX12_remote_12