set_option maxHeartbeats 4000000 in
set_option maxRecDepth 100000 in
theorem m_does (l : Launch) (D : va_G) (k : Nat → ClassId) (hm : Nat) (Ma : Nat) (Mn : Nat) (Ms : Nat) (My : Nat) (Mt : Nat) (Mp : Nat) (Mx : Nat) (Mo : Nat) (Mk : Nat) (Ml : Nat) (Mb : Nat) (Mh : Nat) (Mc : Nat) (Mz : Nat) (Mr : Nat) (Mq : Nat) (Mst : Int) (Mtd : Int) (Msz : Int) (Mtk : Int) (Mfr : Int) (Men : Int) (Mva : Int) (Mfk : Int) (Mfp : Int) (Mfs : Int) (Mse : Int) (Mlt : Int) (Mdp : Int) (Mct : Int) (Mdr : Int) (Mrs : Int) (Mit : Int) (Mmk : Int) (Mtp : Int64) (Mbt : Int64) (Af : Nat → Int32) (Rf : Nat → Int32) (x : Int) (hM : M0 Af) (h9x : (520 ≤ x ∧ x < 520 + 6 * gz Af 5) ∧ (x - 520) % 6 = 0) (hdr : 0 ≤ Mdr ∧ Mdr ≤ 65535) : WD (σ := ((Nat → Int) × (Nat → Int64) × (Nat → Nat → Int32) × (Nat → Nat → Int64))) l yX12_does cX12_does 4 (some .boolean) 8 0 0 D k [.ref hm, .int (iZ x)] [(hm, .inr (12, [.ref Ma, .ref Mn, .int (iZ Mst), .long Mtp, .long Mbt, .ref Ms, .ref My, .ref Mt, .ref Mp, .ref Mx, .int (iZ Mtd), .int (iZ Msz), .int (iZ Mtk), .int (iZ Mfr), .int (iZ Men), .int (iZ Mva), .int (iZ Mfk), .int (iZ Mfp), .int (iZ Mfs), .int (iZ Mse), .int (iZ Mlt), .ref Mo, .int (iZ Mdp), .int (iZ Mct), .ref Mk, .ref Ml, .ref Mb, .ref Mh, .ref Mc, .int (iZ Mdr), .int (iZ Mrs), .ref Mz, .ref Mr, .ref Mq, .int (iZ Mit), .int (iZ Mmk)])), (Ma, .inl (k 1, 5340, .inl Af)), (Mr, .inl (k 1, 5, .inl Rf))] (fun u => some (.int (iZ (u.1 0)))) (fun u => (M0 (u.2.2.1 0)) ∧ (FR (u.2.2.1 0) Af) ∧ (0 ≤ (u.1 1) ∧ (u.1 1) ≤ 65535) ∧ ((u.1 0) = 0 ∨ (u.1 0) = 1)) (fun u => [(hm, .inr (12, [.ref Ma, .ref Mn, .int (iZ Mst), .long Mtp, .long Mbt, .ref Ms, .ref My, .ref Mt, .ref Mp, .ref Mx, .int (iZ Mtd), .int (iZ Msz), .int (iZ Mtk), .int (iZ Mfr), .int (iZ Men), .int (iZ Mva), .int (iZ Mfk), .int (iZ Mfp), .int (iZ Mfs), .int (iZ Mse), .int (iZ Mlt), .ref Mo, .int (iZ Mdp), .int (iZ Mct), .ref Mk, .ref Ml, .ref Mb, .ref Mh, .ref Mc, .int (iZ (u.1 1)), .int (iZ Mrs), .ref Mz, .ref Mr, .ref Mq, .int (iZ Mit), .int (iZ Mmk)])), (Ma, .inl (k 1, 5340, .inl (u.2.2.1 0))), (Mr, .inl (k 1, 5, .inl (u.2.2.1 1)))]) := by
  refine MW (by decide) (Nat.le_of_ble_eq_true rfl) (fun p e s m below meth c ls A hx hb hml hr hlocks hin hts hown hKK hP hD hS hA hl => ?_)
  have hK := hKK.1
  have hl : lv_has ls 4 [(0, .ref hm), (1, .int (iZ x))] := hl
  obtain ⟨m0, m1, m3, m4, m5, mF, mO, mS⟩ := id hM
  obtain ⟨kk, rfl⟩ : ∃ kk : Int, x = (520 + (6 * kk)) := ⟨(x - 520) / 6, by omega⟩
  have hst := mS kk (by omega) (by omega)
  refine lv_aload_n hx hb dX12_does_0 rfl (lv_at hl 0 rfl) ?_
  refine va_get (D := D) (ci := 12) (v := .ref Ma) (C := RX12) (T := TX12) (N := 36) hx hb hts iX12 hown hK hP 0 rfl rfl 0 (by decide) (hts _ qf_X12_7) (fun _ h => h) rfl dX12_does_1 ?_
  refine lv_iload_n hx hb dX12_does_4 rfl (lv_at hl 1 rfl) ?_
  refine lv_iconst (v := iZ 1) hx hb dX12_does_5 (by decide) ?_
  refine lv_iadd hx hb dX12_does_6 ?_
  refine lv_topi (fun x_1 ex_1 => ?_)
  obtain rfl : x_1 = iZ ((520 + (6 * kk)) + 1) := ex_1.trans (iZ_add (520 + (6 * kk)) 1)
  refine va_iald hx hb hK hP 1 1 rfl rfl (zin (e := ((520 + (6 * kk)) + 1)) (n := 5340) ⟨by omega, by omega⟩ (by decide)) dX12_does_7 ?_
  refine lv_topi (fun x_2 ex_2 => ?_)
  obtain rfl : x_2 = iZ (gz Af ((520 + (6 * kk)) + 1)) := ex_2.trans (gz_eq ⟨by omega, by omega⟩)
  have h_3 := gz_rg Af ((520 + (6 * kk)) + 1)
  refine lv_istore_n (lv' := [(2, .int (iZ (gz Af ((520 + (6 * kk)) + 1)))), (0, .ref hm), (1, .int (iZ (520 + (6 * kk))))]) hx hb dX12_does_8 rfl hl (by decide) rfl (fun ls hl => ?_)
  refine lv_aload_n hx hb dX12_does_9 rfl (lv_at hl 1 rfl) ?_
  refine va_get (D := D) (ci := 12) (v := .ref Ma) (C := RX12) (T := TX12) (N := 36) hx hb hts iX12 hown hK hP 0 rfl rfl 0 (by decide) (hts _ qf_X12_7) (fun _ h => h) rfl dX12_does_10 ?_
  refine lv_iload_n hx hb dX12_does_13 rfl (lv_at hl 2 rfl) ?_
  refine va_iald hx hb hK hP 1 1 rfl rfl (zin (e := (520 + (6 * kk))) (n := 5340) ⟨by omega, by omega⟩ (by decide)) dX12_does_14 ?_
  refine lv_topi (fun x_4 ex_4 => ?_)
  obtain rfl : x_4 = iZ (gz Af (520 + (6 * kk))) := ex_4.trans (gz_eq ⟨by omega, by omega⟩)
  have h_5 := gz_rg Af (520 + (6 * kk))
  rcases Classical.em ((gz Af (520 + (6 * kk))) = 15) with c_6 | c_6
  ·
    refine lv_tableIn (tgt := 44) (off := 29) hx hb dX12_does_15 (by rw [iZ_ti ⟨by omega, by omega⟩]; omega) (by rw [iZ_ti ⟨by omega, by omega⟩]; omega) (by rw [iZ_ti ⟨by omega, by omega⟩, c_6]; rfl) (by decide) ?_
    refine lv_iconst (v := iZ 0) hx hb dX12_does_44 (by decide) ?_
    refine lv_istore_n (lv' := [(3, .int (iZ 0)), (2, .int (iZ (gz Af ((520 + (6 * kk)) + 1)))), (0, .ref hm), (1, .int (iZ (520 + (6 * kk))))]) hx hb dX12_does_45 rfl hl (by decide) rfl (fun ls hl => ?_)
    have HL46 : ∀ (fu : Nat) (v3_46 : Int) (Afq46 : Nat → Int32) (Rfq46 : Nat → Int32) (H : Heap) (locs : List Loc) (ls : Array Slot), ((2147483646) + 2 - v3_46) < (fu : Int) → ((0 ≤ v3_46 ∧ v3_46 ≤ (2147483646) + 1)) → (M0 Afq46) → (FR Afq46 Af) → va_P D vwCl [(hm, .inr (12, [.ref Ma, .ref Mn, .int (iZ Mst), .long Mtp, .long Mbt, .ref Ms, .ref My, .ref Mt, .ref Mp, .ref Mx, .int (iZ Mtd), .int (iZ Msz), .int (iZ Mtk), .int (iZ Mfr), .int (iZ Men), .int (iZ Mva), .int (iZ Mfk), .int (iZ Mfp), .int (iZ Mfs), .int (iZ Mse), .int (iZ Mlt), .ref Mo, .int (iZ Mdp), .int (iZ Mct), .ref Mk, .ref Ml, .ref Mb, .ref Mh, .ref Mc, .int (iZ Mdr), .int (iZ Mrs), .ref Mz, .ref Mr, .ref Mq, .int (iZ Mit), .int (iZ Mmk)])), (Ma, .inl (k 1, 5340, .inl Afq46)), (Mr, .inl (k 1, 5, .inl Rfq46))] H → va_D A [(hm, .inr (12, [.ref Ma, .ref Mn, .int (iZ Mst), .long Mtp, .long Mbt, .ref Ms, .ref My, .ref Mt, .ref Mp, .ref Mx, .int (iZ Mtd), .int (iZ Msz), .int (iZ Mtk), .int (iZ Mfr), .int (iZ Men), .int (iZ Mva), .int (iZ Mfk), .int (iZ Mfp), .int (iZ Mfs), .int (iZ Mse), .int (iZ Mlt), .ref Mo, .int (iZ Mdp), .int (iZ Mct), .ref Mk, .ref Ml, .ref Mb, .ref Mh, .ref Mc, .int (iZ Mdr), .int (iZ Mrs), .ref Mz, .ref Mr, .ref Mq, .int (iZ Mit), .int (iZ Mmk)])), (Ma, .inl (k 1, 5340, .inl Afq46)), (Mr, .inl (k 1, 5, .inl Rfq46))] → va_S A s.heap H locs → lv_has ls 4 [(3, .int (iZ v3_46)), (2, .int (iZ (gz Af ((520 + (6 * kk)) + 1)))), (0, .ref hm), (1, .int (iZ (520 + (6 * kk))))] → W p l e (rj 8 0 0) s m [.ref hm, .int (iZ (520 + (6 * kk)))].toArray below meth c H locs 0 0 (MQ below (QW (σ := ((Nat → Int) × (Nat → Int64) × (Nat → Nat → Int32) × (Nat → Nat → Int64))) (fun u => some (.int (iZ (u.1 0)))) (fun u => (M0 (u.2.2.1 0)) ∧ (FR (u.2.2.1 0) Af) ∧ (0 ≤ (u.1 1) ∧ (u.1 1) ≤ 65535) ∧ ((u.1 0) = 0 ∨ (u.1 0) = 1)) (fun u => [(hm, .inr (12, [.ref Ma, .ref Mn, .int (iZ Mst), .long Mtp, .long Mbt, .ref Ms, .ref My, .ref Mt, .ref Mp, .ref Mx, .int (iZ Mtd), .int (iZ Msz), .int (iZ Mtk), .int (iZ Mfr), .int (iZ Men), .int (iZ Mva), .int (iZ Mfk), .int (iZ Mfp), .int (iZ Mfs), .int (iZ Mse), .int (iZ Mlt), .ref Mo, .int (iZ Mdp), .int (iZ Mct), .ref Mk, .ref Ml, .ref Mb, .ref Mh, .ref Mc, .int (iZ (u.1 1)), .int (iZ Mrs), .ref Mz, .ref Mr, .ref Mq, .int (iZ Mit), .int (iZ Mmk)])), (Ma, .inl (k 1, 5340, .inl (u.2.2.1 0))), (Mr, .inl (k 1, 5, .inl (u.2.2.1 1)))]) D A) [.ref hm, .int (iZ (520 + (6 * kk)))].toArray s 0 0 A) (F0 m 46 ls []) := by
      intro fu
      induction fu with
      | zero => intro v3_46 Afq46 Rfq46 H locs ls hμ46 hi46 hM46 hF46 hP hD hS hl; exact absurd hμ46 (by omega)
      | succ fu ih46 =>
        intro v3_46 Afq46 Rfq46 H locs ls hμ46 hi46 hM46 hF46 hP hD hS hl
        obtain ⟨m0l46, m1l46, m3l46, m4l46, m5l46, mFl46, mOl46, mSl46⟩ := id hM46
        have frl46 := FR.z hF46
        refine lv_iload_n hx hb dX12_does_46 rfl (lv_at hl 0 rfl) ?_
        refine lv_iload_n hx hb dX12_does_47 rfl (lv_at hl 1 rfl) ?_
        refine lv_icmp_ge (tgt := 76) hx hb dX12_does_48 (by decide) (fun c_7 => ?_) (fun c_7 => ?_)
        ·
          have c_7 := (zle (x := iZ (gz Af ((520 + (6 * kk)) + 1))) (y := iZ v3_46) rfl rfl ⟨by omega, by omega⟩ ⟨by omega, by omega⟩).mp c_7
          refine lv_iconst (v := iZ 1) hx hb dX12_does_76 (by decide) ?_
          exact EWz hx hb hr hlocks hS (fun i => [1, Mdr].getD i 0, fun i => [0].getD i 0, fun i => [Afq46, Rfq46].getD i (fun _ => 0), fun i => [].getD i (fun _ => 0)) rfl rfl ⟨(show M0 Afq46 from hM46), (show FR Afq46 Af from hF46), (show 0 ≤ Mdr ∧ Mdr ≤ 65535 from (by omega)), (show 1 = 0 ∨ 1 = 1 from (by omega))⟩ (hP.sub [0, 1, 2] rfl) (hD.sub [0, 1, 2] rfl rfl) dX12_does_77
        ·
          have c_7 := mt (zle (x := iZ (gz Af ((520 + (6 * kk)) + 1))) (y := iZ v3_46) rfl rfl ⟨by omega, by omega⟩ ⟨by omega, by omega⟩).mpr c_7
          refine lv_aload_n hx hb dX12_does_51 rfl (lv_at hl 2 rfl) ?_
          refine CWV (As := []) (rest := []) (wc := [(hm, .inr (12, [.ref Ma, .ref Mn, .int (iZ Mst), .long Mtp, .long Mbt, .ref Ms, .ref My, .ref Mt, .ref Mp, .ref Mx, .int (iZ Mtd), .int (iZ Msz), .int (iZ Mtk), .int (iZ Mfr), .int (iZ Men), .int (iZ Mva), .int (iZ Mfk), .int (iZ Mfp), .int (iZ Mfs), .int (iZ Mse), .int (iZ Mlt), .ref Mo, .int (iZ Mdp), .int (iZ Mct), .ref Mk, .ref Ml, .ref Mb, .ref Mh, .ref Mc, .int (iZ Mdr), .int (iZ Mrs), .ref Mz, .ref Mr, .ref Mq, .int (iZ Mit), .int (iZ Mmk)])), (Ma, .inl (k 1, 5340, .inl Afq46))]) (wr := [(Mr, .inl (k 1, 5, .inl Rfq46))]) hx hb hml hown hts hKK hP hD hS hA (m_goes l D k ([.ref Ma, .ref Mn, .int (iZ Mst), .long Mtp, .long Mbt, .ref Ms, .ref My, .ref Mt, .ref Mp, .ref Mx, .int (iZ Mtd), .int (iZ Msz), .int (iZ Mtk), .int (iZ Mfr), .int (iZ Men), .int (iZ Mva), .int (iZ Mfk), .int (iZ Mfp), .int (iZ Mfs), .int (iZ Mse), .int (iZ Mlt), .ref Mo, .int (iZ Mdp), .int (iZ Mct), .ref Mk, .ref Ml, .ref Mb, .ref Mh, .ref Mc, .int (iZ Mdr), .int (iZ Mrs), .ref Mz, .ref Mr, .ref Mq, .int (iZ Mit), .int (iZ Mmk)]) hm Ma Afq46 rfl hM46) ci_X12_goes qm_X12_371 ⟨Nat.le_of_ble_eq_true rfl, Nat.le_of_ble_eq_true rfl⟩ ⟨Nat.le_of_ble_eq_true rfl, Nat.le_of_ble_eq_true rfl⟩ [0, 1] [2] rfl rfl rfl rfl rfl (by decide) 0 rfl rfl rfl hl.1 rfl (Nat.le_of_ble_eq_true rfl) dX12_does_52 (fun u_8 H locs hφ hP hD hS => ?_)
          obtain ⟨I_9, L_10, F_11, G_12⟩ := u_8
          obtain ⟨p_14, p_15, p_16⟩ : (M0 (F_11 0)) ∧ (FR (F_11 0) Afq46) ∧ ((I_9 0) = 0 ∨ (I_9 0) = 1) := hφ
          obtain ⟨m0m_17, m1m_17, m3m_17, m4m_17, m5m_17, mFm_17, mOm_17, mSm_17⟩ := id p_14
          have frm_17 := FR.z p_15
          refine W.eq (g2 := F0 m 55 ls [.int (iZ (I_9 0))]) rfl ?_
          rcases (show ((I_9 0) = 0) ∨ ((I_9 0) = 1) from (by omega)) with s_18 | s_18
          ·
            rw [s_18]
            refine lv_if_ne (tgt := 60) hx hb dX12_does_55 (by decide) (fun c => absurd (by decide) c) (fun _ => ?_)
            refine lv_iconst (v := iZ 0) hx hb dX12_does_58 (by decide) ?_
            exact EWz hx hb hr hlocks hS (fun i => [0, Mdr].getD i 0, fun i => [0].getD i 0, fun i => [(F_11 0), Rfq46].getD i (fun _ => 0), fun i => [].getD i (fun _ => 0)) rfl rfl ⟨(show M0 (F_11 0) from p_14), (show FR (F_11 0) Af from (FR.tr p_15 hF46)), (show 0 ≤ Mdr ∧ Mdr ≤ 65535 from (by omega)), (show 0 = 0 ∨ 0 = 1 from (by omega))⟩ (hP.sub [1, 2, 0] rfl) (hD.sub [1, 2, 0] rfl rfl) dX12_does_59
          ·
            rw [s_18]
            refine lv_if_ne (tgt := 60) hx hb dX12_does_55 (by decide) (fun _ => ?_) (fun c => absurd c (by decide))
            refine lv_aload_n hx hb dX12_does_60 rfl (lv_at hl 2 rfl) ?_
            refine va_get (D := D) (ci := 12) (v := .ref Mr) (C := RX12) (T := TX12) (N := 36) hx hb hts iX12 hown hK hP 1 rfl rfl 32 (by decide) (hts _ qf_X12_65) (fun _ h => h) rfl dX12_does_61 ?_
            refine lv_iconst (v := iZ 1) hx hb dX12_does_64 (by decide) ?_
            refine lv_dup2_11 hx hb dX12_does_65 rfl rfl ?_
            refine va_iald hx hb hK hP 0 1 rfl rfl (zin (e := 1) (n := 5) ⟨by omega, by omega⟩ (by decide)) dX12_does_66 ?_
            refine lv_topi (fun x_21 ex_21 => ?_)
            obtain rfl : x_21 = iZ (gz Rfq46 1) := ex_21.trans (gz_eq ⟨by omega, by omega⟩)
            have h_22 := gz_rg Rfq46 1
            refine lv_iconst (v := iZ 1) hx hb dX12_does_67 (by decide) ?_
            refine lv_iadd hx hb dX12_does_68 ?_
            refine lv_topi (fun x_23 ex_23 => ?_)
            obtain rfl : x_23 = iZ ((gz Rfq46 1) + 1) := ex_23.trans (iZ_add (gz Rfq46 1) 1)
            refine va_iast hx hb hK hP hD hS 0 1 rfl rfl (zin (e := 1) (n := 5) ⟨by omega, by omega⟩ (by decide)) dX12_does_69 (fun H locs hP hD hS => ?_)
            obtain ⟨f_24, hf_24⟩ : ∃ gg9, gg9 = upd Rfq46 (iZ 1).toNatClampNeg (iZ ((gz Rfq46 1) + 1)) := ⟨_, rfl⟩
            rw [← hf_24] at hP hD
            refine lv_iinc (v := iZ (v3_46 + 1)) (lv' := [(3, .int (iZ (v3_46 + 1))), (2, .int (iZ (gz Af ((520 + (6 * kk)) + 1)))), (0, .ref hm), (1, .int (iZ (520 + (6 * kk))))]) hx hb dX12_does_70 hl (k := 0) rfl (iZ_add v3_46 1) (by decide) rfl (fun ls hl => ?_)
            refine lv_goto (tgt := 46) hx hb dX12_does_73 (by decide) ?_
            exact ih46  (v3_46 + 1) (F_11 0) f_24 _ _ _ (by omega) (show (0 ≤ (v3_46 + 1) ∧ (v3_46 + 1) ≤ (2147483646) + 1) from ⟨by omega, by omega⟩) (show M0 (F_11 0) from p_14) (show FR (F_11 0) Af from (FR.tr p_15 hF46)) (hP.sub [1, 2, 0] rfl) (hD.sub [1, 2, 0] rfl rfl) hS (lv_sub hl [0, 1, 2, 3] rfl)
    exact HL46 2147483650 0 Af Rf _ _ _ (by omega) (show (0 ≤ 0 ∧ 0 ≤ (2147483646) + 1) from ⟨by omega, by omega⟩) (show M0 Af from hM) (show FR Af Af from (FR.rf Af)) (hP.sub [0, 1, 2] rfl) (hD.sub [0, 1, 2] rfl rfl) hS (lv_sub hl [0, 1, 2, 3] rfl)
  ·
    rcases Classical.em ((gz Af (520 + (6 * kk))) = 16) with c_25 | c_25
    ·
      refine lv_tableIn (tgt := 78) (off := 63) hx hb dX12_does_15 (by rw [iZ_ti ⟨by omega, by omega⟩]; omega) (by rw [iZ_ti ⟨by omega, by omega⟩]; omega) (by rw [iZ_ti ⟨by omega, by omega⟩, c_25]; rfl) (by decide) ?_
      refine lv_aload_n hx hb dX12_does_78 rfl (lv_at hl 1 rfl) ?_
      refine lv_iload_n hx hb dX12_does_79 rfl (lv_at hl 0 rfl) ?_
      refine lv_aload_n hx hb dX12_does_80 rfl (lv_at hl 1 rfl) ?_
      refine va_get (D := D) (ci := 12) (v := .ref Ma) (C := RX12) (T := TX12) (N := 36) hx hb hts iX12 hown hK hP 0 rfl rfl 0 (by decide) (hts _ qf_X12_7) (fun _ h => h) rfl dX12_does_81 ?_
      refine lv_iload_n hx hb dX12_does_84 rfl (lv_at hl 2 rfl) ?_
      refine lv_iconst (v := iZ 2) hx hb dX12_does_85 (by decide) ?_
      refine lv_iadd hx hb dX12_does_86 ?_
      refine lv_topi (fun x_26 ex_26 => ?_)
      obtain rfl : x_26 = iZ ((520 + (6 * kk)) + 2) := ex_26.trans (iZ_add (520 + (6 * kk)) 2)
      refine va_iald hx hb hK hP 1 1 rfl rfl (zin (e := ((520 + (6 * kk)) + 2)) (n := 5340) ⟨by omega, by omega⟩ (by decide)) dX12_does_87 ?_
      refine lv_topi (fun x_27 ex_27 => ?_)
      obtain rfl : x_27 = iZ (gz Af ((520 + (6 * kk)) + 2)) := ex_27.trans (gz_eq ⟨by omega, by omega⟩)
      have h_28 := gz_rg Af ((520 + (6 * kk)) + 2)
      refine CWV (As := [.int (iZ (gz Af ((520 + (6 * kk)) + 1))), .int (iZ (gz Af ((520 + (6 * kk)) + 2)))]) (rest := []) (wc := [(hm, .inr (12, [.ref Ma, .ref Mn, .int (iZ Mst), .long Mtp, .long Mbt, .ref Ms, .ref My, .ref Mt, .ref Mp, .ref Mx, .int (iZ Mtd), .int (iZ Msz), .int (iZ Mtk), .int (iZ Mfr), .int (iZ Men), .int (iZ Mva), .int (iZ Mfk), .int (iZ Mfp), .int (iZ Mfs), .int (iZ Mse), .int (iZ Mlt), .ref Mo, .int (iZ Mdp), .int (iZ Mct), .ref Mk, .ref Ml, .ref Mb, .ref Mh, .ref Mc, .int (iZ Mdr), .int (iZ Mrs), .ref Mz, .ref Mr, .ref Mq, .int (iZ Mit), .int (iZ Mmk)])), (Ma, .inl (k 1, 5340, .inl Af))]) (wr := [(Mr, .inl (k 1, 5, .inl Rf))]) hx hb hml hown hts hKK hP hD hS hA (m_wears l D k ([.ref Ma, .ref Mn, .int (iZ Mst), .long Mtp, .long Mbt, .ref Ms, .ref My, .ref Mt, .ref Mp, .ref Mx, .int (iZ Mtd), .int (iZ Msz), .int (iZ Mtk), .int (iZ Mfr), .int (iZ Men), .int (iZ Mva), .int (iZ Mfk), .int (iZ Mfp), .int (iZ Mfs), .int (iZ Mse), .int (iZ Mlt), .ref Mo, .int (iZ Mdp), .int (iZ Mct), .ref Mk, .ref Ml, .ref Mb, .ref Mh, .ref Mc, .int (iZ Mdr), .int (iZ Mrs), .ref Mz, .ref Mr, .ref Mq, .int (iZ Mit), .int (iZ Mmk)]) hm Ma Af (gz Af ((520 + (6 * kk)) + 1)) (gz Af ((520 + (6 * kk)) + 2)) rfl hM) ci_X12_wears qm_X12_374 ⟨Nat.le_of_ble_eq_true rfl, Nat.le_of_ble_eq_true rfl⟩ ⟨Nat.le_of_ble_eq_true rfl, Nat.le_of_ble_eq_true rfl⟩ [0, 1] [2] rfl rfl rfl rfl rfl (by decide) 0 rfl rfl rfl hl.1 rfl (Nat.le_of_ble_eq_true rfl) dX12_does_88 (fun u_29 H locs hφ hP hD hS => ?_)
      obtain ⟨I_30, L_31, F_32, G_33⟩ := u_29
      obtain ⟨p_35, p_36⟩ : (M0 (F_32 0)) ∧ (FR (F_32 0) Af) := hφ
      obtain ⟨m0m_37, m1m_37, m3m_37, m4m_37, m5m_37, mFm_37, mOm_37, mSm_37⟩ := id p_35
      have frm_37 := FR.z p_36
      refine W.eq (g2 := F0 m 91 ls []) rfl ?_
      refine lv_iconst (v := iZ 1) hx hb dX12_does_91 (by decide) ?_
      exact EWz hx hb hr hlocks hS (fun i => [1, Mdr].getD i 0, fun i => [0].getD i 0, fun i => [(F_32 0), Rf].getD i (fun _ => 0), fun i => [].getD i (fun _ => 0)) rfl rfl ⟨(show M0 (F_32 0) from p_35), (show FR (F_32 0) Af from p_36), (show 0 ≤ Mdr ∧ Mdr ≤ 65535 from (by omega)), (show 1 = 0 ∨ 1 = 1 from (by omega))⟩ (hP.sub [1, 2, 0] rfl) (hD.sub [1, 2, 0] rfl rfl) dX12_does_92
    ·
      rcases Classical.em ((gz Af (520 + (6 * kk))) = 17) with c_38 | c_38
      ·
        refine lv_tableIn (tgt := 93) (off := 78) hx hb dX12_does_15 (by rw [iZ_ti ⟨by omega, by omega⟩]; omega) (by rw [iZ_ti ⟨by omega, by omega⟩]; omega) (by rw [iZ_ti ⟨by omega, by omega⟩, c_38]; rfl) (by decide) ?_
        refine lv_aload_n hx hb dX12_does_93 rfl (lv_at hl 1 rfl) ?_
        refine lv_iload_n hx hb dX12_does_94 rfl (lv_at hl 0 rfl) ?_
        refine CWV (As := [.int (iZ (gz Af ((520 + (6 * kk)) + 1)))]) (rest := []) (wc := [(hm, .inr (12, [.ref Ma, .ref Mn, .int (iZ Mst), .long Mtp, .long Mbt, .ref Ms, .ref My, .ref Mt, .ref Mp, .ref Mx, .int (iZ Mtd), .int (iZ Msz), .int (iZ Mtk), .int (iZ Mfr), .int (iZ Men), .int (iZ Mva), .int (iZ Mfk), .int (iZ Mfp), .int (iZ Mfs), .int (iZ Mse), .int (iZ Mlt), .ref Mo, .int (iZ Mdp), .int (iZ Mct), .ref Mk, .ref Ml, .ref Mb, .ref Mh, .ref Mc, .int (iZ Mdr), .int (iZ Mrs), .ref Mz, .ref Mr, .ref Mq, .int (iZ Mit), .int (iZ Mmk)])), (Ma, .inl (k 1, 5340, .inl Af))]) (wr := [(Mr, .inl (k 1, 5, .inl Rf))]) hx hb hml hown hts hKK hP hD hS hA (m_orders l D k ([.ref Ma, .ref Mn, .int (iZ Mst), .long Mtp, .long Mbt, .ref Ms, .ref My, .ref Mt, .ref Mp, .ref Mx, .int (iZ Mtd), .int (iZ Msz), .int (iZ Mtk), .int (iZ Mfr), .int (iZ Men), .int (iZ Mva), .int (iZ Mfk), .int (iZ Mfp), .int (iZ Mfs), .int (iZ Mse), .int (iZ Mlt), .ref Mo, .int (iZ Mdp), .int (iZ Mct), .ref Mk, .ref Ml, .ref Mb, .ref Mh, .ref Mc, .int (iZ Mdr), .int (iZ Mrs), .ref Mz, .ref Mr, .ref Mq, .int (iZ Mit), .int (iZ Mmk)]) hm Ma Af (gz Af ((520 + (6 * kk)) + 1)) rfl hM ⟨by omega, by omega⟩) ci_X12_orders qm_X12_321 ⟨Nat.le_of_ble_eq_true rfl, Nat.le_of_ble_eq_true rfl⟩ ⟨Nat.le_of_ble_eq_true rfl, Nat.le_of_ble_eq_true rfl⟩ [0, 1] [2] rfl rfl rfl rfl rfl (by decide) 0 rfl rfl rfl hl.1 rfl (Nat.le_of_ble_eq_true rfl) dX12_does_95 (fun u_39 H locs hφ hP hD hS => ?_)
        obtain ⟨I_40, L_41, F_42, G_43⟩ := u_39
        obtain ⟨p_45, p_46, p_47⟩ : (M0 (F_42 0)) ∧ (FR (F_42 0) Af) ∧ ((I_40 0) = 0 ∨ (I_40 0) = 1) := hφ
        obtain ⟨m0m_48, m1m_48, m3m_48, m4m_48, m5m_48, mFm_48, mOm_48, mSm_48⟩ := id p_45
        have frm_48 := FR.z p_46
        refine W.eq (g2 := F0 m 98 ls [.int (iZ (I_40 0))]) rfl ?_
        rcases (show ((I_40 0) = 0) ∨ ((I_40 0) = 1) from (by omega)) with s_49 | s_49
        ·
          rw [s_49]
          refine lv_if_ne (tgt := 103) hx hb dX12_does_98 (by decide) (fun c => absurd (by decide) c) (fun _ => ?_)
          refine lv_iconst (v := iZ 0) hx hb dX12_does_101 (by decide) ?_
          exact EWz hx hb hr hlocks hS (fun i => [0, Mdr].getD i 0, fun i => [0].getD i 0, fun i => [(F_42 0), Rf].getD i (fun _ => 0), fun i => [].getD i (fun _ => 0)) rfl rfl ⟨(show M0 (F_42 0) from p_45), (show FR (F_42 0) Af from p_46), (show 0 ≤ Mdr ∧ Mdr ≤ 65535 from (by omega)), (show 0 = 0 ∨ 0 = 1 from (by omega))⟩ (hP.sub [1, 2, 0] rfl) (hD.sub [1, 2, 0] rfl rfl) dX12_does_102
        ·
          rw [s_49]
          refine lv_if_ne (tgt := 103) hx hb dX12_does_98 (by decide) (fun _ => ?_) (fun c => absurd c (by decide))
          refine lv_aload_n hx hb dX12_does_103 rfl (lv_at hl 1 rfl) ?_
          refine va_get (D := D) (ci := 12) (v := .ref Mr) (C := RX12) (T := TX12) (N := 36) hx hb hts iX12 hown hK hP 1 rfl rfl 32 (by decide) (hts _ qf_X12_65) (fun _ h => h) rfl dX12_does_104 ?_
          refine lv_iconst (v := iZ 3) hx hb dX12_does_107 (by decide) ?_
          refine lv_dup2_11 hx hb dX12_does_108 rfl rfl ?_
          refine va_iald hx hb hK hP 0 1 rfl rfl (zin (e := 3) (n := 5) ⟨by omega, by omega⟩ (by decide)) dX12_does_109 ?_
          refine lv_topi (fun x_52 ex_52 => ?_)
          obtain rfl : x_52 = iZ (gz Rf 3) := ex_52.trans (gz_eq ⟨by omega, by omega⟩)
          have h_53 := gz_rg Rf 3
          refine lv_iconst (v := iZ 1) hx hb dX12_does_110 (by decide) ?_
          refine lv_iadd hx hb dX12_does_111 ?_
          refine lv_topi (fun x_54 ex_54 => ?_)
          obtain rfl : x_54 = iZ ((gz Rf 3) + 1) := ex_54.trans (iZ_add (gz Rf 3) 1)
          refine va_iast hx hb hK hP hD hS 0 1 rfl rfl (zin (e := 3) (n := 5) ⟨by omega, by omega⟩ (by decide)) dX12_does_112 (fun H locs hP hD hS => ?_)
          obtain ⟨f_55, hf_55⟩ : ∃ gg9, gg9 = upd Rf (iZ 3).toNatClampNeg (iZ ((gz Rf 3) + 1)) := ⟨_, rfl⟩
          rw [← hf_55] at hP hD
          refine lv_iconst (v := iZ 1) hx hb dX12_does_113 (by decide) ?_
          exact EWz hx hb hr hlocks hS (fun i => [1, Mdr].getD i 0, fun i => [0].getD i 0, fun i => [(F_42 0), f_55].getD i (fun _ => 0), fun i => [].getD i (fun _ => 0)) rfl rfl ⟨(show M0 (F_42 0) from p_45), (show FR (F_42 0) Af from p_46), (show 0 ≤ Mdr ∧ Mdr ≤ 65535 from (by omega)), (show 1 = 0 ∨ 1 = 1 from (by omega))⟩ (hP.sub [1, 2, 0] rfl) (hD.sub [1, 2, 0] rfl rfl) dX12_does_114
      ·
        rcases Classical.em ((gz Af (520 + (6 * kk))) = 18) with c_56 | c_56
        ·
          refine lv_tableIn (tgt := 115) (off := 100) hx hb dX12_does_15 (by rw [iZ_ti ⟨by omega, by omega⟩]; omega) (by rw [iZ_ti ⟨by omega, by omega⟩]; omega) (by rw [iZ_ti ⟨by omega, by omega⟩, c_56]; rfl) (by decide) ?_
          refine lv_iconst (v := iZ 0) hx hb dX12_does_115 (by decide) ?_
          refine lv_istore_n (lv' := [(3, .int (iZ 0)), (2, .int (iZ (gz Af ((520 + (6 * kk)) + 1)))), (0, .ref hm), (1, .int (iZ (520 + (6 * kk))))]) hx hb dX12_does_116 rfl hl (by decide) rfl (fun ls hl => ?_)
          have HL117 : ∀ (fu : Nat) (v3_117 : Int) (Mdrq117 : Int) (Afq117 : Nat → Int32) (Rfq117 : Nat → Int32) (H : Heap) (locs : List Loc) (ls : Array Slot), ((gz Af 0) + 2 - v3_117) < (fu : Int) → ((0 ≤ v3_117 ∧ v3_117 ≤ (gz Af 0) + 1)) → (0 ≤ Mdrq117 ∧ Mdrq117 ≤ 65535) → (M0 Afq117) → (FR Afq117 Af) → va_P D vwCl [(hm, .inr (12, [.ref Ma, .ref Mn, .int (iZ Mst), .long Mtp, .long Mbt, .ref Ms, .ref My, .ref Mt, .ref Mp, .ref Mx, .int (iZ Mtd), .int (iZ Msz), .int (iZ Mtk), .int (iZ Mfr), .int (iZ Men), .int (iZ Mva), .int (iZ Mfk), .int (iZ Mfp), .int (iZ Mfs), .int (iZ Mse), .int (iZ Mlt), .ref Mo, .int (iZ Mdp), .int (iZ Mct), .ref Mk, .ref Ml, .ref Mb, .ref Mh, .ref Mc, .int (iZ Mdrq117), .int (iZ Mrs), .ref Mz, .ref Mr, .ref Mq, .int (iZ Mit), .int (iZ Mmk)])), (Ma, .inl (k 1, 5340, .inl Afq117)), (Mr, .inl (k 1, 5, .inl Rfq117))] H → va_D A [(hm, .inr (12, [.ref Ma, .ref Mn, .int (iZ Mst), .long Mtp, .long Mbt, .ref Ms, .ref My, .ref Mt, .ref Mp, .ref Mx, .int (iZ Mtd), .int (iZ Msz), .int (iZ Mtk), .int (iZ Mfr), .int (iZ Men), .int (iZ Mva), .int (iZ Mfk), .int (iZ Mfp), .int (iZ Mfs), .int (iZ Mse), .int (iZ Mlt), .ref Mo, .int (iZ Mdp), .int (iZ Mct), .ref Mk, .ref Ml, .ref Mb, .ref Mh, .ref Mc, .int (iZ Mdrq117), .int (iZ Mrs), .ref Mz, .ref Mr, .ref Mq, .int (iZ Mit), .int (iZ Mmk)])), (Ma, .inl (k 1, 5340, .inl Afq117)), (Mr, .inl (k 1, 5, .inl Rfq117))] → va_S A s.heap H locs → lv_has ls 4 [(3, .int (iZ v3_117)), (2, .int (iZ (gz Af ((520 + (6 * kk)) + 1)))), (0, .ref hm), (1, .int (iZ (520 + (6 * kk))))] → W p l e (rj 8 0 0) s m [.ref hm, .int (iZ (520 + (6 * kk)))].toArray below meth c H locs 0 0 (MQ below (QW (σ := ((Nat → Int) × (Nat → Int64) × (Nat → Nat → Int32) × (Nat → Nat → Int64))) (fun u => some (.int (iZ (u.1 0)))) (fun u => (M0 (u.2.2.1 0)) ∧ (FR (u.2.2.1 0) Af) ∧ (0 ≤ (u.1 1) ∧ (u.1 1) ≤ 65535) ∧ ((u.1 0) = 0 ∨ (u.1 0) = 1)) (fun u => [(hm, .inr (12, [.ref Ma, .ref Mn, .int (iZ Mst), .long Mtp, .long Mbt, .ref Ms, .ref My, .ref Mt, .ref Mp, .ref Mx, .int (iZ Mtd), .int (iZ Msz), .int (iZ Mtk), .int (iZ Mfr), .int (iZ Men), .int (iZ Mva), .int (iZ Mfk), .int (iZ Mfp), .int (iZ Mfs), .int (iZ Mse), .int (iZ Mlt), .ref Mo, .int (iZ Mdp), .int (iZ Mct), .ref Mk, .ref Ml, .ref Mb, .ref Mh, .ref Mc, .int (iZ (u.1 1)), .int (iZ Mrs), .ref Mz, .ref Mr, .ref Mq, .int (iZ Mit), .int (iZ Mmk)])), (Ma, .inl (k 1, 5340, .inl (u.2.2.1 0))), (Mr, .inl (k 1, 5, .inl (u.2.2.1 1)))]) D A) [.ref hm, .int (iZ (520 + (6 * kk)))].toArray s 0 0 A) (F0 m 117 ls []) := by
            intro fu
            induction fu with
            | zero => intro v3_117 Mdrq117 Afq117 Rfq117 H locs ls hμ117 hi117 hdr2 hM117 hF117 hP hD hS hl; exact absurd hμ117 (by omega)
            | succ fu ih117 =>
              intro v3_117 Mdrq117 Afq117 Rfq117 H locs ls hμ117 hi117 hdr2 hM117 hF117 hP hD hS hl
              obtain ⟨m0l117, m1l117, m3l117, m4l117, m5l117, mFl117, mOl117, mSl117⟩ := id hM117
              have frl117 := FR.z hF117
              refine lv_iload_n hx hb dX12_does_117 rfl (lv_at hl 0 rfl) ?_
              refine lv_aload_n hx hb dX12_does_118 rfl (lv_at hl 2 rfl) ?_
              refine va_get (D := D) (ci := 12) (v := .ref Ma) (C := RX12) (T := TX12) (N := 36) hx hb hts iX12 hown hK hP 0 rfl rfl 0 (by decide) (hts _ qf_X12_7) (fun _ h => h) rfl dX12_does_119 ?_
              refine lv_iconst (v := iZ 0) hx hb dX12_does_122 (by decide) ?_
              refine va_iald hx hb hK hP 1 1 rfl rfl (zin (e := 0) (n := 5340) ⟨by omega, by omega⟩ (by decide)) dX12_does_123 ?_
              refine lv_topi (fun x_57 ex_57 => ?_)
              obtain rfl : x_57 = iZ (gz Afq117 0) := ex_57.trans (gz_eq ⟨by omega, by omega⟩)
              have h_58 := gz_rg Afq117 0
              refine lv_icmp_ge (tgt := 174) hx hb dX12_does_124 (by decide) (fun c_59 => ?_) (fun c_59 => ?_)
              ·
                have c_59 := (zle (x := iZ (gz Afq117 0)) (y := iZ v3_117) rfl rfl ⟨by omega, by omega⟩ ⟨by omega, by omega⟩).mp c_59
                refine lv_iconst (v := iZ 1) hx hb dX12_does_174 (by decide) ?_
                exact EWz hx hb hr hlocks hS (fun i => [1, Mdrq117].getD i 0, fun i => [0].getD i 0, fun i => [Afq117, Rfq117].getD i (fun _ => 0), fun i => [].getD i (fun _ => 0)) rfl rfl ⟨(show M0 Afq117 from hM117), (show FR Afq117 Af from hF117), (show 0 ≤ Mdrq117 ∧ Mdrq117 ≤ 65535 from (by omega)), (show 1 = 0 ∨ 1 = 1 from (by omega))⟩ (hP.sub [0, 1, 2] rfl) (hD.sub [0, 1, 2] rfl rfl) dX12_does_175
              ·
                have c_59 := mt (zle (x := iZ (gz Afq117 0)) (y := iZ v3_117) rfl rfl ⟨by omega, by omega⟩ ⟨by omega, by omega⟩).mpr c_59
                refine lv_aload_n hx hb dX12_does_127 rfl (lv_at hl 2 rfl) ?_
                refine CWV (As := []) (rest := []) (wc := [(hm, .inr (12, [.ref Ma, .ref Mn, .int (iZ Mst), .long Mtp, .long Mbt, .ref Ms, .ref My, .ref Mt, .ref Mp, .ref Mx, .int (iZ Mtd), .int (iZ Msz), .int (iZ Mtk), .int (iZ Mfr), .int (iZ Men), .int (iZ Mva), .int (iZ Mfk), .int (iZ Mfp), .int (iZ Mfs), .int (iZ Mse), .int (iZ Mlt), .ref Mo, .int (iZ Mdp), .int (iZ Mct), .ref Mk, .ref Ml, .ref Mb, .ref Mh, .ref Mc, .int (iZ Mdrq117), .int (iZ Mrs), .ref Mz, .ref Mr, .ref Mq, .int (iZ Mit), .int (iZ Mmk)]))]) (wr := [(Ma, .inl (k 1, 5340, .inl Afq117)), (Mr, .inl (k 1, 5, .inl Rfq117))]) hx hb hml hown hts hKK hP hD hS hA (m_draw l D k hm Ma Mn Ms My Mt Mp Mx Mo Mk Ml Mb Mh Mc Mz Mr Mq Mst Mtd Msz Mtk Mfr Men Mva Mfk Mfp Mfs Mse Mlt Mdp Mct Mdrq117 Mrs Mit Mmk Mtp Mbt ⟨by omega, by omega⟩) ci_X12_draw qm_X12_384 ⟨Nat.le_of_ble_eq_true rfl, Nat.le_of_ble_eq_true rfl⟩ ⟨Nat.le_of_ble_eq_true rfl, Nat.le_of_ble_eq_true rfl⟩ [0] [1, 2] rfl rfl rfl rfl rfl (by decide) 0 rfl rfl rfl hl.1 rfl (Nat.le_of_ble_eq_true rfl) dX12_does_128 (fun u_60 H locs hφ hP hD hS => ?_)
                obtain ⟨I_61, L_62, F_63, G_64⟩ := u_60
                have p_66 : (0 ≤ (I_61 1) ∧ (I_61 1) ≤ 65535) ∧ 0 ≤ (I_61 0) ∧ (I_61 0) ≤ 15 := hφ
                refine W.eq (g2 := F0 m 131 ls [.int (iZ (I_61 0))]) rfl ?_
                refine lv_iload_n hx hb dX12_does_131 rfl (lv_at hl 1 rfl) ?_
                refine lv_icmp_lt (tgt := 138) hx hb dX12_does_132 (by decide) (fun c_67 => ?_) (fun c_67 => ?_)
                ·
                  have c_67 := (zlt (x := iZ (I_61 0)) (y := iZ (gz Af ((520 + (6 * kk)) + 1))) rfl rfl ⟨by omega, by omega⟩ ⟨by omega, by omega⟩).mp c_67
                  refine lv_aload_n hx hb dX12_does_138 rfl (lv_at hl 2 rfl) ?_
                  refine va_get (D := D) (ci := 12) (v := .ref Ma) (C := RX12) (T := TX12) (N := 36) hx hb hts iX12 hown hK hP 2 rfl rfl 0 (by decide) (hts _ qf_X12_7) (fun _ h => h) rfl dX12_does_139 ?_
                  refine lv_bipush (v := iZ 118) hx hb dX12_does_142 (by decide) ?_
                  refine lv_aload_n hx hb dX12_does_144 rfl (lv_at hl 2 rfl) ?_
                  refine va_get (D := D) (ci := 12) (v := .ref Ma) (C := RX12) (T := TX12) (N := 36) hx hb hts iX12 hown hK hP 2 rfl rfl 0 (by decide) (hts _ qf_X12_7) (fun _ h => h) rfl dX12_does_145 ?_
                  refine lv_iconst (v := iZ 3) hx hb dX12_does_148 (by decide) ?_
                  refine va_iald hx hb hK hP 0 1 rfl rfl (zin (e := 3) (n := 5340) ⟨by omega, by omega⟩ (by decide)) dX12_does_149 ?_
                  refine lv_topi (fun x_68 ex_68 => ?_)
                  obtain rfl : x_68 = iZ (gz Afq117 3) := ex_68.trans (gz_eq ⟨by omega, by omega⟩)
                  have h_69 := gz_rg Afq117 3
                  refine lv_iadd hx hb dX12_does_150 ?_
                  refine lv_topi (fun x_70 ex_70 => ?_)
                  obtain rfl : x_70 = iZ (118 + (gz Afq117 3)) := ex_70.trans (iZ_add 118 (gz Afq117 3))
                  refine lv_dup2_11 hx hb dX12_does_151 rfl rfl ?_
                  refine va_iald hx hb hK hP 0 1 rfl rfl (zin (e := (118 + (gz Afq117 3))) (n := 5340) ⟨by omega, by omega⟩ (by decide)) dX12_does_152 ?_
                  refine lv_topi (fun x_71 ex_71 => ?_)
                  obtain rfl : x_71 = iZ (gz Afq117 (118 + (gz Afq117 3))) := ex_71.trans (gz_eq ⟨by omega, by omega⟩)
                  have h_72 := gz_rg Afq117 (118 + (gz Afq117 3))
                  refine lv_iconst (v := iZ 1) hx hb dX12_does_153 (by decide) ?_
                  refine lv_iload_n hx hb dX12_does_154 rfl (lv_at hl 0 rfl) ?_
                  refine lv_ishl hx hb dX12_does_155 ?_
                  refine lv_topi (fun x_74 ex_74 => ?_)
                  obtain ⟨z_73, hz_73, hz_73a, hz_73b⟩ := i32_z x_74
                  subst hz_73
                  refine lv_ixor hx hb dX12_does_156 ?_
                  refine lv_topi (fun x_76 ex_76 => ?_)
                  obtain ⟨z_75, hz_75, hz_75a, hz_75b⟩ := i32_z x_76
                  subst hz_75
                  refine va_iast hx hb hK hP hD hS 0 1 rfl rfl (zin (e := (118 + (gz Afq117 3))) (n := 5340) ⟨by omega, by omega⟩ (by decide)) dX12_does_157 (fun H locs hP hD hS => ?_)
                  obtain ⟨f_77, hf_77⟩ : ∃ gg9, gg9 = upd Afq117 (iZ (118 + (gz Afq117 3))).toNatClampNeg (iZ z_75) := ⟨_, rfl⟩
                  rw [← hf_77] at hP hD
                  have hMn_78 := M0.far hM117 hf_77 (Or.inl ⟨by omega, by omega⟩) ⟨by omega, by omega⟩
                  have hFn_79 := FR.up hf_77 (Or.inr (Or.inr ⟨by omega, by omega⟩)) ⟨by omega, by omega⟩
                  refine lv_aload_n hx hb dX12_does_158 rfl (lv_at hl 2 rfl) ?_
                  refine va_get (D := D) (ci := 12) (v := .ref Mr) (C := RX12) (T := TX12) (N := 36) hx hb hts iX12 hown hK hP 2 rfl rfl 32 (by decide) (hts _ qf_X12_65) (fun _ h => h) rfl dX12_does_159 ?_
                  refine lv_iconst (v := iZ 2) hx hb dX12_does_162 (by decide) ?_
                  refine lv_dup2_11 hx hb dX12_does_163 rfl rfl ?_
                  refine va_iald hx hb hK hP 1 1 rfl rfl (zin (e := 2) (n := 5) ⟨by omega, by omega⟩ (by decide)) dX12_does_164 ?_
                  refine lv_topi (fun x_80 ex_80 => ?_)
                  obtain rfl : x_80 = iZ (gz Rfq117 2) := ex_80.trans (gz_eq ⟨by omega, by omega⟩)
                  have h_81 := gz_rg Rfq117 2
                  refine lv_iconst (v := iZ 1) hx hb dX12_does_165 (by decide) ?_
                  refine lv_iadd hx hb dX12_does_166 ?_
                  refine lv_topi (fun x_82 ex_82 => ?_)
                  obtain rfl : x_82 = iZ ((gz Rfq117 2) + 1) := ex_82.trans (iZ_add (gz Rfq117 2) 1)
                  refine va_iast hx hb hK hP hD hS 1 1 rfl rfl (zin (e := 2) (n := 5) ⟨by omega, by omega⟩ (by decide)) dX12_does_167 (fun H locs hP hD hS => ?_)
                  obtain ⟨f_83, hf_83⟩ : ∃ gg9, gg9 = upd Rfq117 (iZ 2).toNatClampNeg (iZ ((gz Rfq117 2) + 1)) := ⟨_, rfl⟩
                  rw [← hf_83] at hP hD
                  refine lv_iinc (v := iZ (v3_117 + 1)) (lv' := [(3, .int (iZ (v3_117 + 1))), (2, .int (iZ (gz Af ((520 + (6 * kk)) + 1)))), (0, .ref hm), (1, .int (iZ (520 + (6 * kk))))]) hx hb dX12_does_168 hl (k := 0) rfl (iZ_add v3_117 1) (by decide) rfl (fun ls hl => ?_)
                  refine lv_goto (tgt := 117) hx hb dX12_does_171 (by decide) ?_
                  exact ih117  (v3_117 + 1) (I_61 1) f_77 f_83 _ _ _ (by omega) (show (0 ≤ (v3_117 + 1) ∧ (v3_117 + 1) ≤ (gz Af 0) + 1) from ⟨by omega, by omega⟩) (show 0 ≤ (I_61 1) ∧ (I_61 1) ≤ 65535 from ⟨by omega, by omega⟩) (show M0 f_77 from hMn_78) (show FR f_77 Af from (FR.tr hFn_79 hF117)) (hP.sub [2, 0, 1] rfl) (hD.sub [2, 0, 1] rfl rfl) hS (lv_sub hl [0, 1, 2, 3] rfl)
                ·
                  have c_67 := mt (zlt (x := iZ (I_61 0)) (y := iZ (gz Af ((520 + (6 * kk)) + 1))) rfl rfl ⟨by omega, by omega⟩ ⟨by omega, by omega⟩).mpr c_67
                  refine lv_goto (tgt := 168) hx hb dX12_does_135 (by decide) ?_
                  refine lv_iinc (v := iZ (v3_117 + 1)) (lv' := [(3, .int (iZ (v3_117 + 1))), (2, .int (iZ (gz Af ((520 + (6 * kk)) + 1)))), (0, .ref hm), (1, .int (iZ (520 + (6 * kk))))]) hx hb dX12_does_168 hl (k := 0) rfl (iZ_add v3_117 1) (by decide) rfl (fun ls hl => ?_)
                  refine lv_goto (tgt := 117) hx hb dX12_does_171 (by decide) ?_
                  exact ih117  (v3_117 + 1) (I_61 1) Afq117 Rfq117 _ _ _ (by omega) (show (0 ≤ (v3_117 + 1) ∧ (v3_117 + 1) ≤ (gz Af 0) + 1) from ⟨by omega, by omega⟩) (show 0 ≤ (I_61 1) ∧ (I_61 1) ≤ 65535 from ⟨by omega, by omega⟩) (show M0 Afq117 from hM117) (show FR Afq117 Af from hF117) (hP.sub [2, 0, 1] rfl) (hD.sub [2, 0, 1] rfl rfl) hS (lv_sub hl [0, 1, 2, 3] rfl)
          exact HL117 10 0 Mdr Af Rf _ _ _ (by omega) (show (0 ≤ 0 ∧ 0 ≤ (gz Af 0) + 1) from ⟨by omega, by omega⟩) (show 0 ≤ Mdr ∧ Mdr ≤ 65535 from ⟨by omega, by omega⟩) (show M0 Af from hM) (show FR Af Af from (FR.rf Af)) (hP.sub [0, 1, 2] rfl) (hD.sub [0, 1, 2] rfl rfl) hS (lv_sub hl [0, 1, 2, 3] rfl)
        ·
          refine lv_tableOut (tgt := 176) hx hb dX12_does_15 (by rw [iZ_ti ⟨by omega, by omega⟩]; omega) (by decide) ?_
          refine lv_iconst (v := iZ 1) hx hb dX12_does_176 (by decide) ?_
          exact EWz hx hb hr hlocks hS (fun i => [1, Mdr].getD i 0, fun i => [0].getD i 0, fun i => [Af, Rf].getD i (fun _ => 0), fun i => [].getD i (fun _ => 0)) rfl rfl ⟨(show M0 Af from hM), (show FR Af Af from (FR.rf Af)), (show 0 ≤ Mdr ∧ Mdr ≤ 65535 from (by omega)), (show 1 = 0 ∨ 1 = 1 from (by omega))⟩ (hP.sub [0, 1, 2] rfl) (hD.sub [0, 1, 2] rfl rfl) dX12_does_177
set_option maxHeartbeats 4000000 in
set_option maxRecDepth 100000 in
theorem m_holds (l : Launch) (D : va_G) (k : Nat → ClassId) (hm : Nat) (Ma : Nat) (Mn : Nat) (Ms : Nat) (My : Nat) (Mt : Nat) (Mp : Nat) (Mx : Nat) (Mo : Nat) (Mk : Nat) (Ml : Nat) (Mb : Nat) (Mh : Nat) (Mc : Nat) (Mz : Nat) (Mr : Nat) (Mq : Nat) (Mst : Int) (Mtd : Int) (Msz : Int) (Mtk : Int) (Mfr : Int) (Men : Int) (Mva : Int) (Mfk : Int) (Mfp : Int) (Mfs : Int) (Mse : Int) (Mlt : Int) (Mdp : Int) (Mct : Int) (Mdr : Int) (Mrs : Int) (Mit : Int) (Mmk : Int) (Mtp : Int64) (Mbt : Int64) (Af : Nat → Int32) (Kf : Nat → Int32) (Lf : Nat → Int32) (Bf : Nat → Int32) (Hf : Nat → Int32) (x : Int) (hM : M0 Af) (h9x : (520 ≤ x ∧ x < 520 + 6 * gz Af 5) ∧ (x - 520) % 6 = 0) (rgH : rgI Hf 0 1000000 120) (hge : 1900 ≤ gz Af x) : WD (σ := ((Nat → Int) × (Nat → Int64) × (Nat → Nat → Int32) × (Nat → Nat → Int64))) l yX12_holds cX12_holds 5 (some .boolean) 8 0 0 D k [.ref hm, .int (iZ x)] [(hm, .inr (12, [.ref Ma, .ref Mn, .int (iZ Mst), .long Mtp, .long Mbt, .ref Ms, .ref My, .ref Mt, .ref Mp, .ref Mx, .int (iZ Mtd), .int (iZ Msz), .int (iZ Mtk), .int (iZ Mfr), .int (iZ Men), .int (iZ Mva), .int (iZ Mfk), .int (iZ Mfp), .int (iZ Mfs), .int (iZ Mse), .int (iZ Mlt), .ref Mo, .int (iZ Mdp), .int (iZ Mct), .ref Mk, .ref Ml, .ref Mb, .ref Mh, .ref Mc, .int (iZ Mdr), .int (iZ Mrs), .ref Mz, .ref Mr, .ref Mq, .int (iZ Mit), .int (iZ Mmk)])), (Ma, .inl (k 1, 5340, .inl Af)), (Mk, .inl (k 1, 6, .inl Kf)), (Ml, .inl (k 1, 6, .inl Lf)), (Mb, .inl (k 1, 6, .inl Bf)), (Mh, .inl (k 1, 120, .inl Hf))] (fun u => some (.int (iZ (u.1 0)))) (fun u => (rgI (u.2.2.1 3) 0 1000000 120) ∧ ((u.1 0) = 0 ∨ (u.1 0) = 1)) (fun u => [(hm, .inr (12, [.ref Ma, .ref Mn, .int (iZ Mst), .long Mtp, .long Mbt, .ref Ms, .ref My, .ref Mt, .ref Mp, .ref Mx, .int (iZ Mtd), .int (iZ Msz), .int (iZ Mtk), .int (iZ Mfr), .int (iZ Men), .int (iZ Mva), .int (iZ Mfk), .int (iZ Mfp), .int (iZ Mfs), .int (iZ Mse), .int (iZ Mlt), .ref Mo, .int (iZ Mdp), .int (iZ Mct), .ref Mk, .ref Ml, .ref Mb, .ref Mh, .ref Mc, .int (iZ Mdr), .int (iZ Mrs), .ref Mz, .ref Mr, .ref Mq, .int (iZ Mit), .int (iZ Mmk)])), (Ma, .inl (k 1, 5340, .inl Af)), (Mk, .inl (k 1, 6, .inl (u.2.2.1 0))), (Ml, .inl (k 1, 6, .inl (u.2.2.1 1))), (Mb, .inl (k 1, 6, .inl (u.2.2.1 2))), (Mh, .inl (k 1, 120, .inl (u.2.2.1 3)))]) := by
  refine MW (by decide) (Nat.le_of_ble_eq_true rfl) (fun p e s m below meth c ls A hx hb hml hr hlocks hin hts hown hKK hP hD hS hA hl => ?_)
  have hK := hKK.1
  have hl : lv_has ls 5 [(0, .ref hm), (1, .int (iZ x))] := hl
  obtain ⟨m0, m1, m3, m4, m5, mF, mO, mS⟩ := id hM
  obtain ⟨kk, rfl⟩ : ∃ kk : Int, x = (520 + (6 * kk)) := ⟨(x - 520) / 6, by omega⟩
  have hst := mS kk (by omega) (by omega)
  refine lv_aload_n hx hb dX12_holds_0 rfl (lv_at hl 0 rfl) ?_
  refine va_get (D := D) (ci := 12) (v := .ref Ma) (C := RX12) (T := TX12) (N := 36) hx hb hts iX12 hown hK hP 0 rfl rfl 0 (by decide) (hts _ qf_X12_7) (fun _ h => h) rfl dX12_holds_1 ?_
  refine lv_iload_n hx hb dX12_holds_4 rfl (lv_at hl 1 rfl) ?_
  refine va_iald hx hb hK hP 1 1 rfl rfl (zin (e := (520 + (6 * kk))) (n := 5340) ⟨by omega, by omega⟩ (by decide)) dX12_holds_5 ?_
  refine lv_topi (fun x_1 ex_1 => ?_)
  obtain rfl : x_1 = iZ (gz Af (520 + (6 * kk))) := ex_1.trans (gz_eq ⟨by omega, by omega⟩)
  have h_2 := gz_rg Af (520 + (6 * kk))
  refine lv_sipush (v := iZ 1900) hx hb dX12_holds_6 (by decide) ?_
  refine lv_isub hx hb dX12_holds_9 ?_
  refine lv_topi (fun x_3 ex_3 => ?_)
  obtain rfl : x_3 = iZ ((gz Af (520 + (6 * kk))) - 1900) := ex_3.trans (iZ_sub (gz Af (520 + (6 * kk))) 1900)
  refine lv_istore_n (lv' := [(2, .int (iZ ((gz Af (520 + (6 * kk))) - 1900))), (0, .ref hm), (1, .int (iZ (520 + (6 * kk))))]) hx hb dX12_holds_10 rfl hl (by decide) rfl (fun ls hl => ?_)
  refine lv_aload_n hx hb dX12_holds_11 rfl (lv_at hl 1 rfl) ?_
  refine va_get (D := D) (ci := 12) (v := .ref Ma) (C := RX12) (T := TX12) (N := 36) hx hb hts iX12 hown hK hP 0 rfl rfl 0 (by decide) (hts _ qf_X12_7) (fun _ h => h) rfl dX12_holds_12 ?_
  refine lv_iload_n hx hb dX12_holds_15 rfl (lv_at hl 2 rfl) ?_
  refine lv_iconst (v := iZ 1) hx hb dX12_holds_16 (by decide) ?_
  refine lv_iadd hx hb dX12_holds_17 ?_
  refine lv_topi (fun x_4 ex_4 => ?_)
  obtain rfl : x_4 = iZ ((520 + (6 * kk)) + 1) := ex_4.trans (iZ_add (520 + (6 * kk)) 1)
  refine va_iald hx hb hK hP 1 1 rfl rfl (zin (e := ((520 + (6 * kk)) + 1)) (n := 5340) ⟨by omega, by omega⟩ (by decide)) dX12_holds_18 ?_
  refine lv_topi (fun x_5 ex_5 => ?_)
  obtain rfl : x_5 = iZ (gz Af ((520 + (6 * kk)) + 1)) := ex_5.trans (gz_eq ⟨by omega, by omega⟩)
  have h_6 := gz_rg Af ((520 + (6 * kk)) + 1)
  refine lv_istore_n (lv' := [(3, .int (iZ (gz Af ((520 + (6 * kk)) + 1)))), (2, .int (iZ ((gz Af (520 + (6 * kk))) - 1900))), (0, .ref hm), (1, .int (iZ (520 + (6 * kk))))]) hx hb dX12_holds_19 rfl hl (by decide) rfl (fun ls hl => ?_)
  refine lv_iload_n hx hb dX12_holds_20 rfl (lv_at hl 1 rfl) ?_
  refine lv_bipush (v := iZ 9) hx hb dX12_holds_21 (by decide) ?_
  refine lv_icmp_ne (tgt := 47) hx hb dX12_holds_23 (by decide) (fun c_7 => ?_) (fun c_7 => ?_)
  ·
    have c_7 := mt (zeq (x := iZ ((gz Af (520 + (6 * kk))) - 1900)) (y := iZ 9) rfl rfl ⟨by omega, by omega⟩ ⟨by omega, by omega⟩).mpr c_7
    refine lv_iload_n hx hb dX12_holds_47 rfl (lv_at hl 1 rfl) ?_
    refine lv_bipush (v := iZ 23) hx hb dX12_holds_48 (by decide) ?_
    refine lv_icmp_ne (tgt := 103) hx hb dX12_holds_50 (by decide) (fun c_8 => ?_) (fun c_8 => ?_)
    ·
      have c_8 := mt (zeq (x := iZ ((gz Af (520 + (6 * kk))) - 1900)) (y := iZ 23) rfl rfl ⟨by omega, by omega⟩ ⟨by omega, by omega⟩).mpr c_8
      refine lv_aload_n hx hb dX12_holds_103 rfl (lv_at hl 2 rfl) ?_
      refine va_get (D := D) (ci := 12) (v := .ref Ma) (C := RX12) (T := TX12) (N := 36) hx hb hts iX12 hown hK hP 0 rfl rfl 0 (by decide) (hts _ qf_X12_7) (fun _ h => h) rfl dX12_holds_104 ?_
      refine lv_iload_n hx hb dX12_holds_107 rfl (lv_at hl 3 rfl) ?_
      refine lv_iconst (v := iZ 5) hx hb dX12_holds_108 (by decide) ?_
      refine lv_iadd hx hb dX12_holds_109 ?_
      refine lv_topi (fun x_9 ex_9 => ?_)
      obtain rfl : x_9 = iZ ((520 + (6 * kk)) + 5) := ex_9.trans (iZ_add (520 + (6 * kk)) 5)
      refine va_iald hx hb hK hP 1 1 rfl rfl (zin (e := ((520 + (6 * kk)) + 5)) (n := 5340) ⟨by omega, by omega⟩ (by decide)) dX12_holds_110 ?_
      refine lv_topi (fun x_10 ex_10 => ?_)
      obtain rfl : x_10 = iZ (gz Af ((520 + (6 * kk)) + 5)) := ex_10.trans (gz_eq ⟨by omega, by omega⟩)
      have h_11 := gz_rg Af ((520 + (6 * kk)) + 5)
      refine lv_bipush (v := iZ 60) hx hb dX12_holds_111 (by decide) ?_
      refine lv_icmp_ne (tgt := 134) hx hb dX12_holds_113 (by decide) (fun c_12 => ?_) (fun c_12 => ?_)
      ·
        have c_12 := mt (zeq (x := iZ (gz Af ((520 + (6 * kk)) + 5))) (y := iZ 60) rfl rfl ⟨by omega, by omega⟩ ⟨by omega, by omega⟩).mpr c_12
        refine lv_aload_n hx hb dX12_holds_134 rfl (lv_at hl 2 rfl) ?_
        refine va_get (D := D) (ci := 12) (v := .ref Ma) (C := RX12) (T := TX12) (N := 36) hx hb hts iX12 hown hK hP 0 rfl rfl 0 (by decide) (hts _ qf_X12_7) (fun _ h => h) rfl dX12_holds_135 ?_
        refine lv_iload_n hx hb dX12_holds_138 rfl (lv_at hl 3 rfl) ?_
        refine lv_iconst (v := iZ 5) hx hb dX12_holds_139 (by decide) ?_
        refine lv_iadd hx hb dX12_holds_140 ?_
        refine lv_topi (fun x_13 ex_13 => ?_)
        obtain rfl : x_13 = iZ ((520 + (6 * kk)) + 5) := ex_13.trans (iZ_add (520 + (6 * kk)) 5)
        refine va_iald hx hb hK hP 1 1 rfl rfl (zin (e := ((520 + (6 * kk)) + 5)) (n := 5340) ⟨by omega, by omega⟩ (by decide)) dX12_holds_141 ?_
        refine lv_topi (fun x_14 ex_14 => ?_)
        obtain rfl : x_14 = iZ (gz Af ((520 + (6 * kk)) + 5)) := ex_14.trans (gz_eq ⟨by omega, by omega⟩)
        have h_15 := gz_rg Af ((520 + (6 * kk)) + 5)
        refine lv_bipush (v := iZ 62) hx hb dX12_holds_142 (by decide) ?_
        refine lv_icmp_ne (tgt := 165) hx hb dX12_holds_144 (by decide) (fun c_16 => ?_) (fun c_16 => ?_)
        ·
          have c_16 := mt (zeq (x := iZ (gz Af ((520 + (6 * kk)) + 5))) (y := iZ 62) rfl rfl ⟨by omega, by omega⟩ ⟨by omega, by omega⟩).mpr c_16
          refine lv_aload_n hx hb dX12_holds_165 rfl (lv_at hl 2 rfl) ?_
          refine va_get (D := D) (ci := 12) (v := .ref Ma) (C := RX12) (T := TX12) (N := 36) hx hb hts iX12 hown hK hP 0 rfl rfl 0 (by decide) (hts _ qf_X12_7) (fun _ h => h) rfl dX12_holds_166 ?_
          refine lv_iconst (v := iZ 3) hx hb dX12_holds_169 (by decide) ?_
          refine va_iald hx hb hK hP 1 1 rfl rfl (zin (e := 3) (n := 5340) ⟨by omega, by omega⟩ (by decide)) dX12_holds_170 ?_
          refine lv_topi (fun x_17 ex_17 => ?_)
          obtain rfl : x_17 = iZ (gz Af 3) := ex_17.trans (gz_eq ⟨by omega, by omega⟩)
          have h_18 := gz_rg Af 3
          refine lv_iload_n hx hb dX12_holds_171 rfl (lv_at hl 0 rfl) ?_
          refine lv_icmp_ne (tgt := 179) hx hb dX12_holds_172 (by decide) (fun c_19 => ?_) (fun c_19 => ?_)
          ·
            have c_19 := mt (zeq (x := iZ (gz Af 3)) (y := iZ (gz Af ((520 + (6 * kk)) + 1))) rfl rfl ⟨by omega, by omega⟩ ⟨by omega, by omega⟩).mpr c_19
            refine lv_iconst (v := iZ 0) hx hb dX12_holds_179 (by decide) ?_
            exact EWz hx hb hr hlocks hS (fun i => [0].getD i 0, fun i => [0].getD i 0, fun i => [Kf, Lf, Bf, Hf].getD i (fun _ => 0), fun i => [].getD i (fun _ => 0)) rfl rfl ⟨(show rgI Hf 0 1000000 120 from rgH), (show 0 = 0 ∨ 0 = 1 from (by omega))⟩ (hP.sub [0, 1, 2, 3, 4, 5] rfl) (hD.sub [0, 1, 2, 3, 4, 5] rfl rfl) dX12_holds_180
          ·
            have c_19 := (zeq (x := iZ (gz Af 3)) (y := iZ (gz Af ((520 + (6 * kk)) + 1))) rfl rfl ⟨by omega, by omega⟩ ⟨by omega, by omega⟩).mp c_19
            refine lv_iconst (v := iZ 1) hx hb dX12_holds_175 (by decide) ?_
            refine lv_goto (tgt := 180) hx hb dX12_holds_176 (by decide) ?_
            exact EWz hx hb hr hlocks hS (fun i => [1].getD i 0, fun i => [0].getD i 0, fun i => [Kf, Lf, Bf, Hf].getD i (fun _ => 0), fun i => [].getD i (fun _ => 0)) rfl rfl ⟨(show rgI Hf 0 1000000 120 from rgH), (show 1 = 0 ∨ 1 = 1 from (by omega))⟩ (hP.sub [0, 1, 2, 3, 4, 5] rfl) (hD.sub [0, 1, 2, 3, 4, 5] rfl rfl) dX12_holds_180
        ·
          have c_16 := (zeq (x := iZ (gz Af ((520 + (6 * kk)) + 5))) (y := iZ 62) rfl rfl ⟨by omega, by omega⟩ ⟨by omega, by omega⟩).mp c_16
          refine lv_aload_n hx hb dX12_holds_147 rfl (lv_at hl 2 rfl) ?_
          refine va_get (D := D) (ci := 12) (v := .ref Ma) (C := RX12) (T := TX12) (N := 36) hx hb hts iX12 hown hK hP 0 rfl rfl 0 (by decide) (hts _ qf_X12_7) (fun _ h => h) rfl dX12_holds_148 ?_
          refine lv_iconst (v := iZ 3) hx hb dX12_holds_151 (by decide) ?_
          refine va_iald hx hb hK hP 1 1 rfl rfl (zin (e := 3) (n := 5340) ⟨by omega, by omega⟩ (by decide)) dX12_holds_152 ?_
          refine lv_topi (fun x_20 ex_20 => ?_)
          obtain rfl : x_20 = iZ (gz Af 3) := ex_20.trans (gz_eq ⟨by omega, by omega⟩)
          have h_21 := gz_rg Af 3
          refine lv_iload_n hx hb dX12_holds_153 rfl (lv_at hl 0 rfl) ?_
          refine lv_icmp_le (tgt := 161) hx hb dX12_holds_154 (by decide) (fun c_22 => ?_) (fun c_22 => ?_)
          ·
            have c_22 := (zle (x := iZ (gz Af 3)) (y := iZ (gz Af ((520 + (6 * kk)) + 1))) rfl rfl ⟨by omega, by omega⟩ ⟨by omega, by omega⟩).mp c_22
            refine lv_iconst (v := iZ 0) hx hb dX12_holds_161 (by decide) ?_
            refine lv_goto (tgt := 180) hx hb dX12_holds_162 (by decide) ?_
            exact EWz hx hb hr hlocks hS (fun i => [0].getD i 0, fun i => [0].getD i 0, fun i => [Kf, Lf, Bf, Hf].getD i (fun _ => 0), fun i => [].getD i (fun _ => 0)) rfl rfl ⟨(show rgI Hf 0 1000000 120 from rgH), (show 0 = 0 ∨ 0 = 1 from (by omega))⟩ (hP.sub [0, 1, 2, 3, 4, 5] rfl) (hD.sub [0, 1, 2, 3, 4, 5] rfl rfl) dX12_holds_180
          ·
            have c_22 := mt (zle (x := iZ (gz Af 3)) (y := iZ (gz Af ((520 + (6 * kk)) + 1))) rfl rfl ⟨by omega, by omega⟩ ⟨by omega, by omega⟩).mpr c_22
            refine lv_iconst (v := iZ 1) hx hb dX12_holds_157 (by decide) ?_
            refine lv_goto (tgt := 180) hx hb dX12_holds_158 (by decide) ?_
            exact EWz hx hb hr hlocks hS (fun i => [1].getD i 0, fun i => [0].getD i 0, fun i => [Kf, Lf, Bf, Hf].getD i (fun _ => 0), fun i => [].getD i (fun _ => 0)) rfl rfl ⟨(show rgI Hf 0 1000000 120 from rgH), (show 1 = 0 ∨ 1 = 1 from (by omega))⟩ (hP.sub [0, 1, 2, 3, 4, 5] rfl) (hD.sub [0, 1, 2, 3, 4, 5] rfl rfl) dX12_holds_180
      ·
        have c_12 := (zeq (x := iZ (gz Af ((520 + (6 * kk)) + 5))) (y := iZ 60) rfl rfl ⟨by omega, by omega⟩ ⟨by omega, by omega⟩).mp c_12
        refine lv_aload_n hx hb dX12_holds_116 rfl (lv_at hl 2 rfl) ?_
        refine va_get (D := D) (ci := 12) (v := .ref Ma) (C := RX12) (T := TX12) (N := 36) hx hb hts iX12 hown hK hP 0 rfl rfl 0 (by decide) (hts _ qf_X12_7) (fun _ h => h) rfl dX12_holds_117 ?_
        refine lv_iconst (v := iZ 3) hx hb dX12_holds_120 (by decide) ?_
        refine va_iald hx hb hK hP 1 1 rfl rfl (zin (e := 3) (n := 5340) ⟨by omega, by omega⟩ (by decide)) dX12_holds_121 ?_
        refine lv_topi (fun x_23 ex_23 => ?_)
        obtain rfl : x_23 = iZ (gz Af 3) := ex_23.trans (gz_eq ⟨by omega, by omega⟩)
        have h_24 := gz_rg Af 3
        refine lv_iload_n hx hb dX12_holds_122 rfl (lv_at hl 0 rfl) ?_
        refine lv_icmp_ge (tgt := 130) hx hb dX12_holds_123 (by decide) (fun c_25 => ?_) (fun c_25 => ?_)
        ·
          have c_25 := (zle (x := iZ (gz Af ((520 + (6 * kk)) + 1))) (y := iZ (gz Af 3)) rfl rfl ⟨by omega, by omega⟩ ⟨by omega, by omega⟩).mp c_25
          refine lv_iconst (v := iZ 0) hx hb dX12_holds_130 (by decide) ?_
          refine lv_goto (tgt := 180) hx hb dX12_holds_131 (by decide) ?_
          exact EWz hx hb hr hlocks hS (fun i => [0].getD i 0, fun i => [0].getD i 0, fun i => [Kf, Lf, Bf, Hf].getD i (fun _ => 0), fun i => [].getD i (fun _ => 0)) rfl rfl ⟨(show rgI Hf 0 1000000 120 from rgH), (show 0 = 0 ∨ 0 = 1 from (by omega))⟩ (hP.sub [0, 1, 2, 3, 4, 5] rfl) (hD.sub [0, 1, 2, 3, 4, 5] rfl rfl) dX12_holds_180
        ·
          have c_25 := mt (zle (x := iZ (gz Af ((520 + (6 * kk)) + 1))) (y := iZ (gz Af 3)) rfl rfl ⟨by omega, by omega⟩ ⟨by omega, by omega⟩).mpr c_25
          refine lv_iconst (v := iZ 1) hx hb dX12_holds_126 (by decide) ?_
          refine lv_goto (tgt := 180) hx hb dX12_holds_127 (by decide) ?_
          exact EWz hx hb hr hlocks hS (fun i => [1].getD i 0, fun i => [0].getD i 0, fun i => [Kf, Lf, Bf, Hf].getD i (fun _ => 0), fun i => [].getD i (fun _ => 0)) rfl rfl ⟨(show rgI Hf 0 1000000 120 from rgH), (show 1 = 0 ∨ 1 = 1 from (by omega))⟩ (hP.sub [0, 1, 2, 3, 4, 5] rfl) (hD.sub [0, 1, 2, 3, 4, 5] rfl rfl) dX12_holds_180
    ·
      have c_8 := (zeq (x := iZ ((gz Af (520 + (6 * kk))) - 1900)) (y := iZ 23) rfl rfl ⟨by omega, by omega⟩ ⟨by omega, by omega⟩).mp c_8
      refine lv_aload_n hx hb dX12_holds_53 rfl (lv_at hl 2 rfl) ?_
      refine CWV (As := []) (rest := []) (wc := [(hm, .inr (12, [.ref Ma, .ref Mn, .int (iZ Mst), .long Mtp, .long Mbt, .ref Ms, .ref My, .ref Mt, .ref Mp, .ref Mx, .int (iZ Mtd), .int (iZ Msz), .int (iZ Mtk), .int (iZ Mfr), .int (iZ Men), .int (iZ Mva), .int (iZ Mfk), .int (iZ Mfp), .int (iZ Mfs), .int (iZ Mse), .int (iZ Mlt), .ref Mo, .int (iZ Mdp), .int (iZ Mct), .ref Mk, .ref Ml, .ref Mb, .ref Mh, .ref Mc, .int (iZ Mdr), .int (iZ Mrs), .ref Mz, .ref Mr, .ref Mq, .int (iZ Mit), .int (iZ Mmk)])), (Ma, .inl (k 1, 5340, .inl Af)), (Mk, .inl (k 1, 6, .inl Kf)), (Ml, .inl (k 1, 6, .inl Lf)), (Mb, .inl (k 1, 6, .inl Bf)), (Mh, .inl (k 1, 120, .inl Hf))]) (wr := []) hx hb hml hown hts hKK hP hD hS hA (m_laysOrders l D k hm Ma Mn Ms My Mt Mp Mx Mo Mk Ml Mb Mh Mc Mz Mr Mq Mst Mtd Msz Mtk Mfr Men Mva Mfk Mfp Mfs Mse Mlt Mdp Mct Mdr Mrs Mit Mmk Mtp Mbt Af Kf Lf Bf Hf hM rgH) ci_X12_laysOrders qm_X12_330 ⟨Nat.le_of_ble_eq_true rfl, Nat.le_of_ble_eq_true rfl⟩ ⟨Nat.le_of_ble_eq_true rfl, Nat.le_of_ble_eq_true rfl⟩ [0, 1, 2, 3, 4, 5] [] rfl rfl rfl rfl rfl (by decide) 0 rfl rfl rfl hl.1 rfl (Nat.le_of_ble_eq_true rfl) dX12_holds_54 (fun u_26 H locs hφ hP hD hS => ?_)
      obtain ⟨I_27, L_28, F_29, G_30⟩ := u_26
      have p_32 : rgI (F_29 3) 0 1000000 120 := hφ
      refine W.eq (g2 := F0 m 57 ls []) rfl ?_
      refine lv_aload_n hx hb dX12_holds_57 rfl (lv_at hl 2 rfl) ?_
      refine lv_aload_n hx hb dX12_holds_58 rfl (lv_at hl 2 rfl) ?_
      refine va_get (D := D) (ci := 12) (v := .ref Ma) (C := RX12) (T := TX12) (N := 36) hx hb hts iX12 hown hK hP 0 rfl rfl 0 (by decide) (hts _ qf_X12_7) (fun _ h => h) rfl dX12_holds_59 ?_
      refine lv_iload_n hx hb dX12_holds_62 rfl (lv_at hl 3 rfl) ?_
      refine lv_iconst (v := iZ 2) hx hb dX12_holds_63 (by decide) ?_
      refine lv_iadd hx hb dX12_holds_64 ?_
      refine lv_topi (fun x_33 ex_33 => ?_)
      obtain rfl : x_33 = iZ ((520 + (6 * kk)) + 2) := ex_33.trans (iZ_add (520 + (6 * kk)) 2)
      refine va_iald hx hb hK hP 1 1 rfl rfl (zin (e := ((520 + (6 * kk)) + 2)) (n := 5340) ⟨by omega, by omega⟩ (by decide)) dX12_holds_65 ?_
      refine lv_topi (fun x_34 ex_34 => ?_)
      obtain rfl : x_34 = iZ (gz Af ((520 + (6 * kk)) + 2)) := ex_34.trans (gz_eq ⟨by omega, by omega⟩)
      have h_35 := gz_rg Af ((520 + (6 * kk)) + 2)
      refine lv_aload_n hx hb dX12_holds_66 rfl (lv_at hl 2 rfl) ?_
      refine va_get (D := D) (ci := 12) (v := .ref Ma) (C := RX12) (T := TX12) (N := 36) hx hb hts iX12 hown hK hP 0 rfl rfl 0 (by decide) (hts _ qf_X12_7) (fun _ h => h) rfl dX12_holds_67 ?_
      refine lv_iconst (v := iZ 3) hx hb dX12_holds_70 (by decide) ?_
      refine va_iald hx hb hK hP 1 1 rfl rfl (zin (e := 3) (n := 5340) ⟨by omega, by omega⟩ (by decide)) dX12_holds_71 ?_
      refine lv_topi (fun x_36 ex_36 => ?_)
      obtain rfl : x_36 = iZ (gz Af 3) := ex_36.trans (gz_eq ⟨by omega, by omega⟩)
      have h_37 := gz_rg Af 3
      refine CPV (As := [.int (iZ (gz Af ((520 + (6 * kk)) + 2))), .int (iZ (gz Af 3))]) (rest := []) hx hb hml hown hts hKK (hP.sub (ws' := [(hm, .inr (12, [.ref Ma, .ref Mn, .int (iZ Mst), .long Mtp, .long Mbt, .ref Ms, .ref My, .ref Mt, .ref Mp, .ref Mx, .int (iZ Mtd), .int (iZ Msz), .int (iZ Mtk), .int (iZ Mfr), .int (iZ Men), .int (iZ Mva), .int (iZ Mfk), .int (iZ Mfp), .int (iZ Mfs), .int (iZ Mse), .int (iZ Mlt), .ref Mo, .int (iZ Mdp), .int (iZ Mct), .ref Mk, .ref Ml, .ref Mb, .ref Mh, .ref Mc, .int (iZ Mdr), .int (iZ Mrs), .ref Mz, .ref Mr, .ref Mq, .int (iZ Mit), .int (iZ Mmk)])), (Ma, .inl (k 1, 5340, .inl Af)), (Mh, .inl (k 1, 120, .inl (F_29 3)))]) [0, 1, 5] rfl) (m_ruling l D k ([.ref Ma, .ref Mn, .int (iZ Mst), .long Mtp, .long Mbt, .ref Ms, .ref My, .ref Mt, .ref Mp, .ref Mx, .int (iZ Mtd), .int (iZ Msz), .int (iZ Mtk), .int (iZ Mfr), .int (iZ Men), .int (iZ Mva), .int (iZ Mfk), .int (iZ Mfp), .int (iZ Mfs), .int (iZ Mse), .int (iZ Mlt), .ref Mo, .int (iZ Mdp), .int (iZ Mct), .ref Mk, .ref Ml, .ref Mb, .ref Mh, .ref Mc, .int (iZ Mdr), .int (iZ Mrs), .ref Mz, .ref Mr, .ref Mq, .int (iZ Mit), .int (iZ Mmk)]) hm Ma Mh Af (F_29 3) (gz Af ((520 + (6 * kk)) + 2)) (gz Af 3) rfl rfl hM ⟨by omega, by omega⟩ ⟨by omega, by omega⟩ p_32) ci_X12_ruling qm_X12_333 ⟨Nat.le_of_ble_eq_true rfl, Nat.le_of_ble_eq_true rfl⟩ ⟨Nat.le_of_ble_eq_true rfl, Nat.le_of_ble_eq_true rfl⟩ 0 rfl rfl rfl hl.1 rfl (Nat.le_of_ble_eq_true rfl) dX12_holds_72 (fun z_38 hz_38 => ?_)
      refine lv_istore (lv' := [(4, .int (iZ z_38)), (3, .int (iZ (gz Af ((520 + (6 * kk)) + 1)))), (2, .int (iZ ((gz Af (520 + (6 * kk))) - 1900))), (0, .ref hm), (1, .int (iZ (520 + (6 * kk))))]) hx hb dX12_holds_75 hl (by decide) rfl (fun ls hl => ?_)
      refine lv_iload hx hb dX12_holds_77 (lv_at hl 0 rfl) ?_
      refine lv_iconst (v := iZ (-1)) hx hb dX12_holds_79 (by decide) ?_
      refine lv_icmp_eq (tgt := 101) hx hb dX12_holds_80 (by decide) (fun c_39 => ?_) (fun c_39 => ?_)
      ·
        have c_39 := (zeq (x := iZ z_38) (y := iZ (-1)) rfl rfl ⟨by omega, by omega⟩ ⟨by omega, by omega⟩).mp c_39
        refine lv_iconst (v := iZ 0) hx hb dX12_holds_101 (by decide) ?_
        exact EWz hx hb hr hlocks hS (fun i => [0].getD i 0, fun i => [0].getD i 0, fun i => [(F_29 0), (F_29 1), (F_29 2), (F_29 3)].getD i (fun _ => 0), fun i => [].getD i (fun _ => 0)) rfl rfl ⟨(show rgI (F_29 3) 0 1000000 120 from p_32), (show 0 = 0 ∨ 0 = 1 from (by omega))⟩ (hP.sub [0, 1, 2, 3, 4, 5] rfl) (hD.sub [0, 1, 2, 3, 4, 5] rfl rfl) dX12_holds_102
      ·
        have c_39 := mt (zeq (x := iZ z_38) (y := iZ (-1)) rfl rfl ⟨by omega, by omega⟩ ⟨by omega, by omega⟩).mpr c_39
        have hodr := mO z_38 (by omega) (by omega)
        refine lv_aload_n hx hb dX12_holds_83 rfl (lv_at hl 3 rfl) ?_
        refine va_get (D := D) (ci := 12) (v := .ref Ma) (C := RX12) (T := TX12) (N := 36) hx hb hts iX12 hown hK hP 0 rfl rfl 0 (by decide) (hts _ qf_X12_7) (fun _ h => h) rfl dX12_holds_84 ?_
        refine lv_iload hx hb dX12_holds_87 (lv_at hl 0 rfl) ?_
        refine CRS (As := [.int (iZ z_38)]) (rest := [.ref Ma]) hx hb hml hown hts hKK (hP.sub (ws' := []) [] rfl) (m_givenRow l D k z_38) ci_X12_givenRow qm_X12_315 ⟨Nat.le_of_ble_eq_true rfl, Nat.le_of_ble_eq_true rfl⟩ ⟨Nat.le_of_ble_eq_true rfl, Nat.le_of_ble_eq_true rfl⟩ rfl hl.1 rfl (Nat.le_of_ble_eq_true rfl) dX12_holds_89 ?_
        refine va_iald hx hb hK hP 1 1 rfl rfl (zin (e := (78 + (2 * z_38))) (n := 5340) ⟨by omega, by omega⟩ (by decide)) dX12_holds_92 ?_
        refine lv_topi (fun x_40 ex_40 => ?_)
        obtain rfl : x_40 = iZ (gz Af (78 + (2 * z_38))) := ex_40.trans (gz_eq ⟨by omega, by omega⟩)
        have h_41 := gz_rg Af (78 + (2 * z_38))
        refine lv_iload_n hx hb dX12_holds_93 rfl (lv_at hl 1 rfl) ?_
        refine lv_icmp_ne (tgt := 101) hx hb dX12_holds_94 (by decide) (fun c_42 => ?_) (fun c_42 => ?_)
        ·
          have c_42 := mt (zeq (x := iZ (gz Af (78 + (2 * z_38)))) (y := iZ (gz Af ((520 + (6 * kk)) + 1))) rfl rfl ⟨by omega, by omega⟩ ⟨by omega, by omega⟩).mpr c_42
          refine lv_iconst (v := iZ 0) hx hb dX12_holds_101 (by decide) ?_
          exact EWz hx hb hr hlocks hS (fun i => [0].getD i 0, fun i => [0].getD i 0, fun i => [(F_29 0), (F_29 1), (F_29 2), (F_29 3)].getD i (fun _ => 0), fun i => [].getD i (fun _ => 0)) rfl rfl ⟨(show rgI (F_29 3) 0 1000000 120 from p_32), (show 0 = 0 ∨ 0 = 1 from (by omega))⟩ (hP.sub [0, 1, 2, 3, 4, 5] rfl) (hD.sub [0, 1, 2, 3, 4, 5] rfl rfl) dX12_holds_102
        ·
          have c_42 := (zeq (x := iZ (gz Af (78 + (2 * z_38)))) (y := iZ (gz Af ((520 + (6 * kk)) + 1))) rfl rfl ⟨by omega, by omega⟩ ⟨by omega, by omega⟩).mp c_42
          refine lv_iconst (v := iZ 1) hx hb dX12_holds_97 (by decide) ?_
          refine lv_goto (tgt := 102) hx hb dX12_holds_98 (by decide) ?_
          exact EWz hx hb hr hlocks hS (fun i => [1].getD i 0, fun i => [0].getD i 0, fun i => [(F_29 0), (F_29 1), (F_29 2), (F_29 3)].getD i (fun _ => 0), fun i => [].getD i (fun _ => 0)) rfl rfl ⟨(show rgI (F_29 3) 0 1000000 120 from p_32), (show 1 = 0 ∨ 1 = 1 from (by omega))⟩ (hP.sub [0, 1, 2, 3, 4, 5] rfl) (hD.sub [0, 1, 2, 3, 4, 5] rfl rfl) dX12_holds_102
  ·
    have c_7 := (zeq (x := iZ ((gz Af (520 + (6 * kk))) - 1900)) (y := iZ 9) rfl rfl ⟨by omega, by omega⟩ ⟨by omega, by omega⟩).mp c_7
    refine lv_aload_n hx hb dX12_holds_26 rfl (lv_at hl 2 rfl) ?_
    refine lv_iload_n hx hb dX12_holds_27 rfl (lv_at hl 0 rfl) ?_
    refine lv_aload_n hx hb dX12_holds_28 rfl (lv_at hl 2 rfl) ?_
    refine va_get (D := D) (ci := 12) (v := .ref Ma) (C := RX12) (T := TX12) (N := 36) hx hb hts iX12 hown hK hP 0 rfl rfl 0 (by decide) (hts _ qf_X12_7) (fun _ h => h) rfl dX12_holds_29 ?_
    refine lv_iconst (v := iZ 3) hx hb dX12_holds_32 (by decide) ?_
    refine va_iald hx hb hK hP 1 1 rfl rfl (zin (e := 3) (n := 5340) ⟨by omega, by omega⟩ (by decide)) dX12_holds_33 ?_
    refine lv_topi (fun x_43 ex_43 => ?_)
    obtain rfl : x_43 = iZ (gz Af 3) := ex_43.trans (gz_eq ⟨by omega, by omega⟩)
    have h_44 := gz_rg Af 3
    refine CPV (As := [.int (iZ (gz Af ((520 + (6 * kk)) + 1))), .int (iZ (gz Af 3))]) (rest := []) hx hb hml hown hts hKK (hP.sub (ws' := [(hm, .inr (12, [.ref Ma, .ref Mn, .int (iZ Mst), .long Mtp, .long Mbt, .ref Ms, .ref My, .ref Mt, .ref Mp, .ref Mx, .int (iZ Mtd), .int (iZ Msz), .int (iZ Mtk), .int (iZ Mfr), .int (iZ Men), .int (iZ Mva), .int (iZ Mfk), .int (iZ Mfp), .int (iZ Mfs), .int (iZ Mse), .int (iZ Mlt), .ref Mo, .int (iZ Mdp), .int (iZ Mct), .ref Mk, .ref Ml, .ref Mb, .ref Mh, .ref Mc, .int (iZ Mdr), .int (iZ Mrs), .ref Mz, .ref Mr, .ref Mq, .int (iZ Mit), .int (iZ Mmk)])), (Ma, .inl (k 1, 5340, .inl Af))]) [0, 1] rfl) (m_wore l D k ([.ref Ma, .ref Mn, .int (iZ Mst), .long Mtp, .long Mbt, .ref Ms, .ref My, .ref Mt, .ref Mp, .ref Mx, .int (iZ Mtd), .int (iZ Msz), .int (iZ Mtk), .int (iZ Mfr), .int (iZ Men), .int (iZ Mva), .int (iZ Mfk), .int (iZ Mfp), .int (iZ Mfs), .int (iZ Mse), .int (iZ Mlt), .ref Mo, .int (iZ Mdp), .int (iZ Mct), .ref Mk, .ref Ml, .ref Mb, .ref Mh, .ref Mc, .int (iZ Mdr), .int (iZ Mrs), .ref Mz, .ref Mr, .ref Mq, .int (iZ Mit), .int (iZ Mmk)]) hm Ma Af (gz Af ((520 + (6 * kk)) + 1)) (gz Af 3) rfl hM ⟨by omega, by omega⟩) ci_X12_woreIn qm_X12_363 ⟨Nat.le_of_ble_eq_true rfl, Nat.le_of_ble_eq_true rfl⟩ ⟨Nat.le_of_ble_eq_true rfl, Nat.le_of_ble_eq_true rfl⟩ 0 rfl rfl rfl hl.1 rfl (Nat.le_of_ble_eq_true rfl) dX12_holds_34 (fun z_45 hz_45 => ?_)
    have hbz_45 := hz_45.2
    refine lv_iconst (v := iZ 1) hx hb dX12_holds_37 (by decide) ?_
    refine lv_icmp_ne (tgt := 45) hx hb dX12_holds_38 (by decide) (fun c_46 => ?_) (fun c_46 => ?_)
    ·
      have c_46 := mt (zeq (x := iZ z_45) (y := iZ 1) rfl rfl ⟨by omega, by omega⟩ ⟨by omega, by omega⟩).mpr c_46
      refine lv_iconst (v := iZ 0) hx hb dX12_holds_45 (by decide) ?_
      exact EWz hx hb hr hlocks hS (fun i => [0].getD i 0, fun i => [0].getD i 0, fun i => [Kf, Lf, Bf, Hf].getD i (fun _ => 0), fun i => [].getD i (fun _ => 0)) rfl rfl ⟨(show rgI Hf 0 1000000 120 from rgH), (show 0 = 0 ∨ 0 = 1 from (by omega))⟩ (hP.sub [0, 1, 2, 3, 4, 5] rfl) (hD.sub [0, 1, 2, 3, 4, 5] rfl rfl) dX12_holds_46
    ·
      have c_46 := (zeq (x := iZ z_45) (y := iZ 1) rfl rfl ⟨by omega, by omega⟩ ⟨by omega, by omega⟩).mp c_46
      refine lv_iconst (v := iZ 1) hx hb dX12_holds_41 (by decide) ?_
      refine lv_goto (tgt := 46) hx hb dX12_holds_42 (by decide) ?_
      exact EWz hx hb hr hlocks hS (fun i => [1].getD i 0, fun i => [0].getD i 0, fun i => [Kf, Lf, Bf, Hf].getD i (fun _ => 0), fun i => [].getD i (fun _ => 0)) rfl rfl ⟨(show rgI Hf 0 1000000 120 from rgH), (show 1 = 0 ∨ 1 = 1 from (by omega))⟩ (hP.sub [0, 1, 2, 3, 4, 5] rfl) (hD.sub [0, 1, 2, 3, 4, 5] rfl rfl) dX12_holds_46
set_option maxHeartbeats 4000000 in
set_option maxRecDepth 100000 in
theorem m_behindEnds (l : Launch) (D : va_G) (k : Nat → ClassId) (fs : List Value) (hm : Nat) (Ma : Nat) (Mz : Nat) (Af : Nat → Int32) (Zf : Nat → Int32) (x : Int) (f0 : fs[0]? = some (.ref Ma)) (f31 : fs[31]? = some (.ref Mz)) (hM : M0 Af) (h9x : 0 ≤ x ∧ x ≤ 60) : WD (σ := ((Nat → Int) × (Nat → Int64) × (Nat → Nat → Int32) × (Nat → Nat → Int64))) l yX12_behindEnds cX12_behindEnds 5 (some .int) 0 0 0 D k [.ref hm, .int (iZ x)] [(hm, .inr (12, fs)), (Ma, .inl (k 1, 5340, .inl Af)), (Mz, .inl (k 1, 80, .inl Zf))] (fun u => some (.int (iZ (u.1 0)))) (fun u => 0 ≤ (u.1 0) ∧ (u.1 0) ≤ 60) (fun u => [(hm, .inr (12, fs)), (Ma, .inl (k 1, 5340, .inl Af)), (Mz, .inl (k 1, 80, .inl (u.2.2.1 0)))]) := by
  refine MW (by decide) (Nat.le_of_ble_eq_true rfl) (fun p e s m below meth c ls A hx hb hml hr hlocks hin hts hown hKK hP hD hS hA hl => ?_)
  have hK := hKK.1
  have hl : lv_has ls 5 [(0, .ref hm), (1, .int (iZ x))] := hl
  obtain ⟨m0, m1, m3, m4, m5, mF, mO, mS⟩ := id hM
  have hS0 := sumP_0 Zf 80
  refine lv_iload_n hx hb dX12_behindEnds_0 rfl (lv_at hl 1 rfl) ?_
  refine lv_istore_n (lv' := [(2, .int (iZ x)), (0, .ref hm), (1, .int (iZ x))]) hx hb dX12_behindEnds_1 rfl hl (by decide) rfl (fun ls hl => ?_)
  have HL1 : ∀ (fu : Nat) (k2 : Int) (Zf3 : Nat → Int32) (H : Heap) (locs : List Loc) (ls : Array Slot), (61 * sumP Zf3 80 + 61 - k2) < (fu : Int) → (0 ≤ k2 ∧ k2 ≤ 60) → (0 ≤ sumP Zf3 80) → va_P D vwCl [(hm, .inr (12, fs)), (Ma, .inl (k 1, 5340, .inl Af)), (Mz, .inl (k 1, 80, .inl Zf3))] H → va_D A [(hm, .inr (12, fs)), (Ma, .inl (k 1, 5340, .inl Af)), (Mz, .inl (k 1, 80, .inl Zf3))] → va_S A s.heap H locs → lv_has ls 5 [(2, .int (iZ k2)), (0, .ref hm), (1, .int (iZ x))] → W p l e (rj 0 0 0) s m [.ref hm, .int (iZ x)].toArray below meth c H locs 0 0 (MQ below (QW (σ := ((Nat → Int) × (Nat → Int64) × (Nat → Nat → Int32) × (Nat → Nat → Int64))) (fun u => some (.int (iZ (u.1 0)))) (fun u => 0 ≤ (u.1 0) ∧ (u.1 0) ≤ 60) (fun u => [(hm, .inr (12, fs)), (Ma, .inl (k 1, 5340, .inl Af)), (Mz, .inl (k 1, 80, .inl (u.2.2.1 0)))]) D A) [.ref hm, .int (iZ x)].toArray s 0 0 A) (F0 m 2 ls []) := by
    intro fu
    induction fu with
    | zero => intro k2 Zf3 H locs ls hμ1 hk2 hS3 hP hD hS hl; exact absurd hμ1 (by omega)
    | succ fu ih1 =>
      intro k2 Zf3 H locs ls hμ1 hk2 hS3 hP hD hS hl
      refine lv_iload_n hx hb dX12_behindEnds_2 rfl (lv_at hl 0 rfl) ?_
      refine lv_aload_n hx hb dX12_behindEnds_3 rfl (lv_at hl 1 rfl) ?_
      refine va_get (D := D) (ci := 12) (v := .ref Ma) (C := RX12) (T := TX12) (N := 36) hx hb hts iX12 hown hK hP 0 rfl rfl 0 (by decide) (hts _ qf_X12_7) (fun _ h => h) f0 dX12_behindEnds_4 ?_
      refine lv_iconst (v := iZ 5) hx hb dX12_behindEnds_7 (by decide) ?_
      refine va_iald hx hb hK hP 1 1 rfl rfl (zin (e := 5) (n := 5340) ⟨by omega, by omega⟩ (by decide)) dX12_behindEnds_8 ?_
      refine lv_topi (fun x_1 ex_1 => ?_)
      obtain rfl : x_1 = iZ (gz Af 5) := ex_1.trans (gz_eq ⟨by omega, by omega⟩)
      have h_2 := gz_rg Af 5
      refine lv_icmp_ge (tgt := 117) hx hb dX12_behindEnds_9 (by decide) (fun c_3 => ?_) (fun c_3 => ?_)
      ·
        have c_3 := (zle (x := iZ (gz Af 5)) (y := iZ k2) rfl rfl ⟨by omega, by omega⟩ ⟨by omega, by omega⟩).mp c_3
        refine lv_iload_n hx hb dX12_behindEnds_117 rfl (lv_at hl 0 rfl) ?_
        exact EWi hx hb hr hlocks hS (fun i => [k2].getD i 0, fun i => [0].getD i 0, fun i => [Zf3].getD i (fun _ => 0), fun i => [].getD i (fun _ => 0)) rfl (show 0 ≤ k2 ∧ k2 ≤ 60 from (by omega)) (hP.sub [0, 1, 2] rfl) (hD.sub [0, 1, 2] rfl rfl) dX12_behindEnds_118
      ·
        have c_3 := mt (zle (x := iZ (gz Af 5)) (y := iZ k2) rfl rfl ⟨by omega, by omega⟩ ⟨by omega, by omega⟩).mpr c_3
        refine lv_aload_n hx hb dX12_behindEnds_12 rfl (lv_at hl 1 rfl) ?_
        refine va_get (D := D) (ci := 12) (v := .ref Ma) (C := RX12) (T := TX12) (N := 36) hx hb hts iX12 hown hK hP 0 rfl rfl 0 (by decide) (hts _ qf_X12_7) (fun _ h => h) f0 dX12_behindEnds_13 ?_
        refine lv_sipush (v := iZ 520) hx hb dX12_behindEnds_16 (by decide) ?_
        refine lv_bipush (v := iZ 6) hx hb dX12_behindEnds_19 (by decide) ?_
        refine lv_iload_n hx hb dX12_behindEnds_21 rfl (lv_at hl 0 rfl) ?_
        refine lv_imul hx hb dX12_behindEnds_22 ?_
        refine lv_topi (fun x_4 ex_4 => ?_)
        obtain rfl : x_4 = iZ (6 * k2) := ex_4.trans (iZ_mul 6 k2)
        refine lv_iadd hx hb dX12_behindEnds_23 ?_
        refine lv_topi (fun x_5 ex_5 => ?_)
        obtain rfl : x_5 = iZ (520 + (6 * k2)) := ex_5.trans (iZ_add 520 (6 * k2))
        refine va_iald hx hb hK hP 1 1 rfl rfl (zin (e := (520 + (6 * k2))) (n := 5340) ⟨by omega, by omega⟩ (by decide)) dX12_behindEnds_24 ?_
        refine lv_topi (fun x_6 ex_6 => ?_)
        obtain rfl : x_6 = iZ (gz Af (520 + (6 * k2))) := ex_6.trans (gz_eq ⟨by omega, by omega⟩)
        have h_7 := gz_rg Af (520 + (6 * k2))
        refine lv_bipush (v := iZ 21) hx hb dX12_behindEnds_25 (by decide) ?_
        refine lv_icmp_ne (tgt := 117) hx hb dX12_behindEnds_27 (by decide) (fun c_8 => ?_) (fun c_8 => ?_)
        ·
          have c_8 := mt (zeq (x := iZ (gz Af (520 + (6 * k2)))) (y := iZ 21) rfl rfl ⟨by omega, by omega⟩ ⟨by omega, by omega⟩).mpr c_8
          refine lv_iload_n hx hb dX12_behindEnds_117 rfl (lv_at hl 0 rfl) ?_
          exact EWi hx hb hr hlocks hS (fun i => [k2].getD i 0, fun i => [0].getD i 0, fun i => [Zf3].getD i (fun _ => 0), fun i => [].getD i (fun _ => 0)) rfl (show 0 ≤ k2 ∧ k2 ≤ 60 from (by omega)) (hP.sub [0, 1, 2] rfl) (hD.sub [0, 1, 2] rfl rfl) dX12_behindEnds_118
        ·
          have c_8 := (zeq (x := iZ (gz Af (520 + (6 * k2)))) (y := iZ 21) rfl rfl ⟨by omega, by omega⟩ ⟨by omega, by omega⟩).mp c_8
          have hst := mS k2 (by omega) (by omega)
          refine lv_aload_n hx hb dX12_behindEnds_30 rfl (lv_at hl 1 rfl) ?_
          refine va_get (D := D) (ci := 12) (v := .ref Ma) (C := RX12) (T := TX12) (N := 36) hx hb hts iX12 hown hK hP 0 rfl rfl 0 (by decide) (hts _ qf_X12_7) (fun _ h => h) f0 dX12_behindEnds_31 ?_
          refine lv_sipush (v := iZ 520) hx hb dX12_behindEnds_34 (by decide) ?_
          refine lv_bipush (v := iZ 6) hx hb dX12_behindEnds_37 (by decide) ?_
          refine lv_iload_n hx hb dX12_behindEnds_39 rfl (lv_at hl 0 rfl) ?_
          refine lv_imul hx hb dX12_behindEnds_40 ?_
          refine lv_topi (fun x_9 ex_9 => ?_)
          obtain rfl : x_9 = iZ (6 * k2) := ex_9.trans (iZ_mul 6 k2)
          refine lv_iadd hx hb dX12_behindEnds_41 ?_
          refine lv_topi (fun x_10 ex_10 => ?_)
          obtain rfl : x_10 = iZ (520 + (6 * k2)) := ex_10.trans (iZ_add 520 (6 * k2))
          refine lv_iconst (v := iZ 4) hx hb dX12_behindEnds_42 (by decide) ?_
          refine lv_iadd hx hb dX12_behindEnds_43 ?_
          refine lv_topi (fun x_11 ex_11 => ?_)
          obtain rfl : x_11 = iZ ((520 + (6 * k2)) + 4) := ex_11.trans (iZ_add (520 + (6 * k2)) 4)
          refine va_iald hx hb hK hP 1 1 rfl rfl (zin (e := ((520 + (6 * k2)) + 4)) (n := 5340) ⟨by omega, by omega⟩ (by decide)) dX12_behindEnds_44 ?_
          refine lv_topi (fun x_12 ex_12 => ?_)
          obtain rfl : x_12 = iZ (gz Af ((520 + (6 * k2)) + 4)) := ex_12.trans (gz_eq ⟨by omega, by omega⟩)
          have h_13 := gz_rg Af ((520 + (6 * k2)) + 4)
          refine lv_istore_n (lv' := [(3, .int (iZ (gz Af ((520 + (6 * k2)) + 4)))), (2, .int (iZ k2)), (0, .ref hm), (1, .int (iZ x))]) hx hb dX12_behindEnds_45 rfl hl (by decide) rfl (fun ls hl => ?_)
          refine lv_aload_n hx hb dX12_behindEnds_46 rfl (lv_at hl 2 rfl) ?_
          refine va_get (D := D) (ci := 12) (v := .ref Ma) (C := RX12) (T := TX12) (N := 36) hx hb hts iX12 hown hK hP 0 rfl rfl 0 (by decide) (hts _ qf_X12_7) (fun _ h => h) f0 dX12_behindEnds_47 ?_
          refine lv_sipush (v := iZ 520) hx hb dX12_behindEnds_50 (by decide) ?_
          refine lv_bipush (v := iZ 6) hx hb dX12_behindEnds_53 (by decide) ?_
          refine lv_iload_n hx hb dX12_behindEnds_55 rfl (lv_at hl 0 rfl) ?_
          refine lv_imul hx hb dX12_behindEnds_56 ?_
          refine lv_topi (fun x_14 ex_14 => ?_)
          obtain rfl : x_14 = iZ (6 * (gz Af ((520 + (6 * k2)) + 4))) := ex_14.trans (iZ_mul 6 (gz Af ((520 + (6 * k2)) + 4)))
          refine lv_iadd hx hb dX12_behindEnds_57 ?_
          refine lv_topi (fun x_15 ex_15 => ?_)
          obtain rfl : x_15 = iZ (520 + (6 * (gz Af ((520 + (6 * k2)) + 4)))) := ex_15.trans (iZ_add 520 (6 * (gz Af ((520 + (6 * k2)) + 4))))
          refine va_iald hx hb hK hP 1 1 rfl rfl (zin (e := (520 + (6 * (gz Af ((520 + (6 * k2)) + 4))))) (n := 5340) ⟨by omega, by omega⟩ (by decide)) dX12_behindEnds_58 ?_
          refine lv_topi (fun x_16 ex_16 => ?_)
          obtain rfl : x_16 = iZ (gz Af (520 + (6 * (gz Af ((520 + (6 * k2)) + 4))))) := ex_16.trans (gz_eq ⟨by omega, by omega⟩)
          have h_17 := gz_rg Af (520 + (6 * (gz Af ((520 + (6 * k2)) + 4))))
          refine lv_bipush (v := iZ 20) hx hb dX12_behindEnds_59 (by decide) ?_
          refine lv_icmp_ne (tgt := 77) hx hb dX12_behindEnds_61 (by decide) (fun c_18 => ?_) (fun c_18 => ?_)
          ·
            have c_18 := mt (zeq (x := iZ (gz Af (520 + (6 * (gz Af ((520 + (6 * k2)) + 4)))))) (y := iZ 20) rfl rfl ⟨by omega, by omega⟩ ⟨by omega, by omega⟩).mpr c_18
            refine lv_iconst (v := iZ 0) hx hb dX12_behindEnds_77 (by decide) ?_
            refine lv_istore (lv' := [(4, .int (iZ 0)), (3, .int (iZ (gz Af ((520 + (6 * k2)) + 4)))), (2, .int (iZ k2)), (0, .ref hm), (1, .int (iZ x))]) hx hb dX12_behindEnds_78 hl (by decide) rfl (fun ls hl => ?_)
            refine lv_aload_n hx hb dX12_behindEnds_80 rfl (lv_at hl 3 rfl) ?_
            refine va_get (D := D) (ci := 12) (v := .ref Mz) (C := RX12) (T := TX12) (N := 36) hx hb hts iX12 hown hK hP 0 rfl rfl 31 (by decide) (hts _ qf_X12_62) (fun _ h => h) f31 dX12_behindEnds_81 ?_
            refine lv_iload_n hx hb dX12_behindEnds_84 rfl (lv_at hl 1 rfl) ?_
            refine lv_dup2_11 hx hb dX12_behindEnds_85 rfl rfl ?_
            refine va_iald hx hb hK hP 2 1 rfl rfl (zin (e := (gz Af ((520 + (6 * k2)) + 4))) (n := 80) ⟨by omega, by omega⟩ (by decide)) dX12_behindEnds_86 ?_
            refine lv_topi (fun x_19 ex_19 => ?_)
            obtain rfl : x_19 = iZ (gz Zf3 (gz Af ((520 + (6 * k2)) + 4))) := ex_19.trans (gz_eq ⟨by omega, by omega⟩)
            have h_20 := gz_rg Zf3 (gz Af ((520 + (6 * k2)) + 4))
            refine lv_iload hx hb dX12_behindEnds_87 (lv_at hl 0 rfl) ?_
            refine lv_if_eq (tgt := 96) hx hb dX12_behindEnds_89 (by decide) (fun _ => ?_) (fun c => absurd (by decide) c)
            refine lv_iconst (v := iZ 0) hx hb dX12_behindEnds_96 (by decide) ?_
            refine lv_isub hx hb dX12_behindEnds_97 ?_
            refine lv_topi (fun x_22 ex_22 => ?_)
            obtain rfl : x_22 = iZ ((gz Zf3 (gz Af ((520 + (6 * k2)) + 4))) - 0) := ex_22.trans (iZ_sub (gz Zf3 (gz Af ((520 + (6 * k2)) + 4))) 0)
            refine va_iast hx hb hK hP hD hS 2 1 rfl rfl (zin (e := (gz Af ((520 + (6 * k2)) + 4))) (n := 80) ⟨by omega, by omega⟩ (by decide)) dX12_behindEnds_98 (fun H locs hP hD hS => ?_)
            obtain ⟨f_23, hf_23⟩ : ∃ gg9, gg9 = upd Zf3 (iZ (gz Af ((520 + (6 * k2)) + 4))).toNatClampNeg (iZ ((gz Zf3 (gz Af ((520 + (6 * k2)) + 4))) - 0)) := ⟨_, rfl⟩
            rw [← hf_23] at hP hD
            have hS_24 := sumP_up hf_23 ⟨by omega, by omega⟩ ⟨by omega, by omega⟩ 80
            refine lv_iload hx hb dX12_behindEnds_99 (lv_at hl 0 rfl) ?_
            refine lv_if_eq (tgt := 110) hx hb dX12_behindEnds_101 (by decide) (fun _ => ?_) (fun c => absurd (by decide) c)
            refine lv_iload_n hx hb dX12_behindEnds_110 rfl (lv_at hl 2 rfl) ?_
            refine lv_iconst (v := iZ 1) hx hb dX12_behindEnds_111 (by decide) ?_
            refine lv_iadd hx hb dX12_behindEnds_112 ?_
            refine lv_topi (fun x_26 ex_26 => ?_)
            obtain rfl : x_26 = iZ (k2 + 1) := ex_26.trans (iZ_add k2 1)
            refine lv_istore_n (lv' := [(2, .int (iZ (k2 + 1))), (4, .int (iZ 0)), (3, .int (iZ (gz Af ((520 + (6 * k2)) + 4)))), (0, .ref hm), (1, .int (iZ x))]) hx hb dX12_behindEnds_113 rfl hl (by decide) rfl (fun ls hl => ?_)
            refine lv_goto (tgt := 2) hx hb dX12_behindEnds_114 (by decide) ?_
            exact ih1  (k2 + 1) f_23 _ _ _ (by omega) (show 0 ≤ (k2 + 1) ∧ (k2 + 1) ≤ 60 from ⟨by omega, by omega⟩) (show 0 ≤ sumP f_23 80 from (sumP_0 _ _)) (hP.sub [0, 1, 2] rfl) (hD.sub [0, 1, 2] rfl rfl) hS (lv_sub hl [0, 3, 4] rfl)
          ·
            have c_18 := (zeq (x := iZ (gz Af (520 + (6 * (gz Af ((520 + (6 * k2)) + 4)))))) (y := iZ 20) rfl rfl ⟨by omega, by omega⟩ ⟨by omega, by omega⟩).mp c_18
            refine lv_aload_n hx hb dX12_behindEnds_64 rfl (lv_at hl 2 rfl) ?_
            refine va_get (D := D) (ci := 12) (v := .ref Mz) (C := RX12) (T := TX12) (N := 36) hx hb hts iX12 hown hK hP 0 rfl rfl 31 (by decide) (hts _ qf_X12_62) (fun _ h => h) f31 dX12_behindEnds_65 ?_
            refine lv_iload_n hx hb dX12_behindEnds_68 rfl (lv_at hl 0 rfl) ?_
            refine va_iald hx hb hK hP 2 1 rfl rfl (zin (e := (gz Af ((520 + (6 * k2)) + 4))) (n := 80) ⟨by omega, by omega⟩ (by decide)) dX12_behindEnds_69 ?_
            refine lv_topi (fun x_27 ex_27 => ?_)
            obtain rfl : x_27 = iZ (gz Zf3 (gz Af ((520 + (6 * k2)) + 4))) := ex_27.trans (gz_eq ⟨by omega, by omega⟩)
            have h_28 := gz_rg Zf3 (gz Af ((520 + (6 * k2)) + 4))
            refine lv_if_le (tgt := 77) hx hb dX12_behindEnds_70 (by decide) (fun c_29 => ?_) (fun c_29 => ?_)
            ·
              have c_29 := (zle (x := iZ (gz Zf3 (gz Af ((520 + (6 * k2)) + 4)))) (y := iZ 0) rfl rfl ⟨by omega, by omega⟩ ⟨by omega, by omega⟩).mp c_29
              refine lv_iconst (v := iZ 0) hx hb dX12_behindEnds_77 (by decide) ?_
              refine lv_istore (lv' := [(4, .int (iZ 0)), (3, .int (iZ (gz Af ((520 + (6 * k2)) + 4)))), (2, .int (iZ k2)), (0, .ref hm), (1, .int (iZ x))]) hx hb dX12_behindEnds_78 hl (by decide) rfl (fun ls hl => ?_)
              refine lv_aload_n hx hb dX12_behindEnds_80 rfl (lv_at hl 3 rfl) ?_
              refine va_get (D := D) (ci := 12) (v := .ref Mz) (C := RX12) (T := TX12) (N := 36) hx hb hts iX12 hown hK hP 0 rfl rfl 31 (by decide) (hts _ qf_X12_62) (fun _ h => h) f31 dX12_behindEnds_81 ?_
              refine lv_iload_n hx hb dX12_behindEnds_84 rfl (lv_at hl 1 rfl) ?_
              refine lv_dup2_11 hx hb dX12_behindEnds_85 rfl rfl ?_
              refine va_iald hx hb hK hP 2 1 rfl rfl (zin (e := (gz Af ((520 + (6 * k2)) + 4))) (n := 80) ⟨by omega, by omega⟩ (by decide)) dX12_behindEnds_86 ?_
              refine lv_topi (fun x_30 ex_30 => ?_)
              obtain rfl : x_30 = iZ (gz Zf3 (gz Af ((520 + (6 * k2)) + 4))) := ex_30.trans (gz_eq ⟨by omega, by omega⟩)
              have h_31 := gz_rg Zf3 (gz Af ((520 + (6 * k2)) + 4))
              refine lv_iload hx hb dX12_behindEnds_87 (lv_at hl 0 rfl) ?_
              refine lv_if_eq (tgt := 96) hx hb dX12_behindEnds_89 (by decide) (fun _ => ?_) (fun c => absurd (by decide) c)
              refine lv_iconst (v := iZ 0) hx hb dX12_behindEnds_96 (by decide) ?_
              refine lv_isub hx hb dX12_behindEnds_97 ?_
              refine lv_topi (fun x_33 ex_33 => ?_)
              obtain rfl : x_33 = iZ ((gz Zf3 (gz Af ((520 + (6 * k2)) + 4))) - 0) := ex_33.trans (iZ_sub (gz Zf3 (gz Af ((520 + (6 * k2)) + 4))) 0)
              refine va_iast hx hb hK hP hD hS 2 1 rfl rfl (zin (e := (gz Af ((520 + (6 * k2)) + 4))) (n := 80) ⟨by omega, by omega⟩ (by decide)) dX12_behindEnds_98 (fun H locs hP hD hS => ?_)
              obtain ⟨f_34, hf_34⟩ : ∃ gg9, gg9 = upd Zf3 (iZ (gz Af ((520 + (6 * k2)) + 4))).toNatClampNeg (iZ ((gz Zf3 (gz Af ((520 + (6 * k2)) + 4))) - 0)) := ⟨_, rfl⟩
              rw [← hf_34] at hP hD
              have hS_35 := sumP_up hf_34 ⟨by omega, by omega⟩ ⟨by omega, by omega⟩ 80
              refine lv_iload hx hb dX12_behindEnds_99 (lv_at hl 0 rfl) ?_
              refine lv_if_eq (tgt := 110) hx hb dX12_behindEnds_101 (by decide) (fun _ => ?_) (fun c => absurd (by decide) c)
              refine lv_iload_n hx hb dX12_behindEnds_110 rfl (lv_at hl 2 rfl) ?_
              refine lv_iconst (v := iZ 1) hx hb dX12_behindEnds_111 (by decide) ?_
              refine lv_iadd hx hb dX12_behindEnds_112 ?_
              refine lv_topi (fun x_37 ex_37 => ?_)
              obtain rfl : x_37 = iZ (k2 + 1) := ex_37.trans (iZ_add k2 1)
              refine lv_istore_n (lv' := [(2, .int (iZ (k2 + 1))), (4, .int (iZ 0)), (3, .int (iZ (gz Af ((520 + (6 * k2)) + 4)))), (0, .ref hm), (1, .int (iZ x))]) hx hb dX12_behindEnds_113 rfl hl (by decide) rfl (fun ls hl => ?_)
              refine lv_goto (tgt := 2) hx hb dX12_behindEnds_114 (by decide) ?_
              exact ih1  (k2 + 1) f_34 _ _ _ (by omega) (show 0 ≤ (k2 + 1) ∧ (k2 + 1) ≤ 60 from ⟨by omega, by omega⟩) (show 0 ≤ sumP f_34 80 from (sumP_0 _ _)) (hP.sub [0, 1, 2] rfl) (hD.sub [0, 1, 2] rfl rfl) hS (lv_sub hl [0, 3, 4] rfl)
            ·
              have c_29 := mt (zle (x := iZ (gz Zf3 (gz Af ((520 + (6 * k2)) + 4)))) (y := iZ 0) rfl rfl ⟨by omega, by omega⟩ ⟨by omega, by omega⟩).mpr c_29
              refine lv_iconst (v := iZ 1) hx hb dX12_behindEnds_73 (by decide) ?_
              refine lv_goto (tgt := 78) hx hb dX12_behindEnds_74 (by decide) ?_
              refine lv_istore (lv' := [(4, .int (iZ 1)), (3, .int (iZ (gz Af ((520 + (6 * k2)) + 4)))), (2, .int (iZ k2)), (0, .ref hm), (1, .int (iZ x))]) hx hb dX12_behindEnds_78 hl (by decide) rfl (fun ls hl => ?_)
              refine lv_aload_n hx hb dX12_behindEnds_80 rfl (lv_at hl 3 rfl) ?_
              refine va_get (D := D) (ci := 12) (v := .ref Mz) (C := RX12) (T := TX12) (N := 36) hx hb hts iX12 hown hK hP 0 rfl rfl 31 (by decide) (hts _ qf_X12_62) (fun _ h => h) f31 dX12_behindEnds_81 ?_
              refine lv_iload_n hx hb dX12_behindEnds_84 rfl (lv_at hl 1 rfl) ?_
              refine lv_dup2_11 hx hb dX12_behindEnds_85 rfl rfl ?_
              refine va_iald hx hb hK hP 2 1 rfl rfl (zin (e := (gz Af ((520 + (6 * k2)) + 4))) (n := 80) ⟨by omega, by omega⟩ (by decide)) dX12_behindEnds_86 ?_
              refine lv_topi (fun x_38 ex_38 => ?_)
              obtain rfl : x_38 = iZ (gz Zf3 (gz Af ((520 + (6 * k2)) + 4))) := ex_38.trans (gz_eq ⟨by omega, by omega⟩)
              have h_39 := gz_rg Zf3 (gz Af ((520 + (6 * k2)) + 4))
              refine lv_iload hx hb dX12_behindEnds_87 (lv_at hl 0 rfl) ?_
              refine lv_if_eq (tgt := 96) hx hb dX12_behindEnds_89 (by decide) (fun c => absurd c (by decide)) (fun _ => ?_)
              refine lv_iconst (v := iZ 1) hx hb dX12_behindEnds_92 (by decide) ?_
              refine lv_goto (tgt := 97) hx hb dX12_behindEnds_93 (by decide) ?_
              refine lv_isub hx hb dX12_behindEnds_97 ?_
              refine lv_topi (fun x_41 ex_41 => ?_)
              obtain rfl : x_41 = iZ ((gz Zf3 (gz Af ((520 + (6 * k2)) + 4))) - 1) := ex_41.trans (iZ_sub (gz Zf3 (gz Af ((520 + (6 * k2)) + 4))) 1)
              refine va_iast hx hb hK hP hD hS 2 1 rfl rfl (zin (e := (gz Af ((520 + (6 * k2)) + 4))) (n := 80) ⟨by omega, by omega⟩ (by decide)) dX12_behindEnds_98 (fun H locs hP hD hS => ?_)
              obtain ⟨f_42, hf_42⟩ : ∃ gg9, gg9 = upd Zf3 (iZ (gz Af ((520 + (6 * k2)) + 4))).toNatClampNeg (iZ ((gz Zf3 (gz Af ((520 + (6 * k2)) + 4))) - 1)) := ⟨_, rfl⟩
              rw [← hf_42] at hP hD
              have hS_43 := sumP_up hf_42 ⟨by omega, by omega⟩ ⟨by omega, by omega⟩ 80
              refine lv_iload hx hb dX12_behindEnds_99 (lv_at hl 0 rfl) ?_
              refine lv_if_eq (tgt := 110) hx hb dX12_behindEnds_101 (by decide) (fun c => absurd c (by decide)) (fun _ => ?_)
              refine lv_iload_n hx hb dX12_behindEnds_104 rfl (lv_at hl 1 rfl) ?_
              refine lv_iconst (v := iZ 1) hx hb dX12_behindEnds_105 (by decide) ?_
              refine lv_iadd hx hb dX12_behindEnds_106 ?_
              refine lv_topi (fun x_45 ex_45 => ?_)
              obtain rfl : x_45 = iZ ((gz Af ((520 + (6 * k2)) + 4)) + 1) := ex_45.trans (iZ_add (gz Af ((520 + (6 * k2)) + 4)) 1)
              refine lv_goto (tgt := 113) hx hb dX12_behindEnds_107 (by decide) ?_
              refine lv_istore_n (lv' := [(2, .int (iZ ((gz Af ((520 + (6 * k2)) + 4)) + 1))), (4, .int (iZ 1)), (3, .int (iZ (gz Af ((520 + (6 * k2)) + 4)))), (0, .ref hm), (1, .int (iZ x))]) hx hb dX12_behindEnds_113 rfl hl (by decide) rfl (fun ls hl => ?_)
              refine lv_goto (tgt := 2) hx hb dX12_behindEnds_114 (by decide) ?_
              exact ih1  ((gz Af ((520 + (6 * k2)) + 4)) + 1) f_42 _ _ _ (by omega) (show 0 ≤ ((gz Af ((520 + (6 * k2)) + 4)) + 1) ∧ ((gz Af ((520 + (6 * k2)) + 4)) + 1) ≤ 60 from ⟨by omega, by omega⟩) (show 0 ≤ sumP f_42 80 from (sumP_0 _ _)) (hP.sub [0, 1, 2] rfl) (hD.sub [0, 1, 2] rfl rfl) hS (lv_sub hl [0, 3, 4] rfl)
  exact HL1 (61 * sumP Zf 80 + 62).toNat x Zf _ _ _ (by omega) (show 0 ≤ x ∧ x ≤ 60 from ⟨by omega, by omega⟩) (show 0 ≤ sumP Zf 80 from (sumP_0 _ _)) (hP.sub [0, 1, 2] rfl) (hD.sub [0, 1, 2] rfl rfl) hS (lv_sub hl [0, 1, 2] rfl)
