theorem M0.back {f h : Nat → Int32} (hf : M0 f) (hg : ∀ e : Int, 0 ≤ e → e < 520 → gz h e = gz f e) (h2 : ∀ e : Int, 520 ≤ e → e < 4450 → gz h e = gz f e) : M0 h :=
  M0.like (fun e a b c => by
    rcases b with b | b
    · exact hg e a (by omega)
    · exact h2 e b (by omega)) hf
set_option maxHeartbeats 4000000 in
set_option maxRecDepth 100000 in
theorem q_mean (l : Launch) (D : va_G) (k : Nat → ClassId) (hm : Nat) (Ma : Nat) (Mn : Nat) (Ms : Nat) (My : Nat) (Mt : Nat) (Mp : Nat) (Mx : Nat) (Mo : Nat) (Mk : Nat) (Ml : Nat) (Mb : Nat) (Mh : Nat) (Mc : Nat) (Mz : Nat) (Mr : Nat) (Mq : Nat) (Mst : Int) (Mtd : Int) (Msz : Int) (Mtk : Int) (Mfr : Int) (Men : Int) (Mva : Int) (Mfk : Int) (Mfp : Int) (Mfs : Int) (Mse : Int) (Mlt : Int) (Mdp : Int) (Mct : Int) (Mdr : Int) (Mrs : Int) (Mit : Int) (Mmk : Int) (Mtp : Int64) (Mbt : Int64) (Af : Nat → Int32) (Kf : Nat → Int32) (Lf : Nat → Int32) (Bf : Nat → Int32) (Hf : Nat → Int32) (Zf : Nat → Int32) (Rf : Nat → Int32) (x1 : Int) (x2 : Int) (hM : M0 Af) (rgH : rgI Hf 0 1000000 120) (hdr : 0 ≤ Mdr ∧ Mdr ≤ 65535) (h9x1 : -2147483648 ≤ x1 ∧ x1 < 2147483648) (h9x2 : -2147483648 ≤ x2 ∧ x2 < 2147483648) : WD (σ := ((Nat → Int) × (Nat → Int64) × (Nat → Nat → Int32) × (Nat → Nat → Int64))) l yX12_mean cX12_mean 7 (some .boolean) 10 0 0 D k [.ref hm, .int (iZ x1), .int (iZ x2)] [(hm, .inr (12, [.ref Ma, .ref Mn, .int (iZ Mst), .long Mtp, .long Mbt, .ref Ms, .ref My, .ref Mt, .ref Mp, .ref Mx, .int (iZ Mtd), .int (iZ Msz), .int (iZ Mtk), .int (iZ Mfr), .int (iZ Men), .int (iZ Mva), .int (iZ Mfk), .int (iZ Mfp), .int (iZ Mfs), .int (iZ Mse), .int (iZ Mlt), .ref Mo, .int (iZ Mdp), .int (iZ Mct), .ref Mk, .ref Ml, .ref Mb, .ref Mh, .ref Mc, .int (iZ Mdr), .int (iZ Mrs), .ref Mz, .ref Mr, .ref Mq, .int (iZ Mit), .int (iZ Mmk)])), (Ma, .inl (k 1, 5340, .inl Af)), (Mk, .inl (k 1, 6, .inl Kf)), (Ml, .inl (k 1, 6, .inl Lf)), (Mb, .inl (k 1, 6, .inl Bf)), (Mh, .inl (k 1, 120, .inl Hf)), (Mz, .inl (k 1, 80, .inl Zf)), (Mr, .inl (k 1, 5, .inl Rf))] (fun u => some (.int (iZ (u.1 0)))) (fun u => (M0 (u.2.2.1 0)) ∧ (∀ e : Int, 520 ≤ e → e < 4450 → gz (u.2.2.1 0) e = gz Af e) ∧ (0 ≤ (u.1 2) ∧ (u.1 2) ≤ 65535) ∧ (rgI (u.2.2.1 4) 0 1000000 120)) (fun u => [(hm, .inr (12, [.ref Ma, .ref Mn, .int (iZ (u.1 1)), .long (u.2.1 1), .long (u.2.1 2), .ref Ms, .ref My, .ref Mt, .ref Mp, .ref Mx, .int (iZ Mtd), .int (iZ Msz), .int (iZ Mtk), .int (iZ Mfr), .int (iZ Men), .int (iZ Mva), .int (iZ Mfk), .int (iZ Mfp), .int (iZ Mfs), .int (iZ Mse), .int (iZ Mlt), .ref Mo, .int (iZ Mdp), .int (iZ Mct), .ref Mk, .ref Ml, .ref Mb, .ref Mh, .ref Mc, .int (iZ (u.1 2)), .int (iZ (u.1 3)), .ref Mz, .ref Mr, .ref Mq, .int (iZ Mit), .int (iZ Mmk)])), (Ma, .inl (k 1, 5340, .inl (u.2.2.1 0))), (Mk, .inl (k 1, 6, .inl (u.2.2.1 1))), (Ml, .inl (k 1, 6, .inl (u.2.2.1 2))), (Mb, .inl (k 1, 6, .inl (u.2.2.1 3))), (Mh, .inl (k 1, 120, .inl (u.2.2.1 4))), (Mz, .inl (k 1, 80, .inl (u.2.2.1 5))), (Mr, .inl (k 1, 5, .inl (u.2.2.1 6)))]) := by
  refine MW (by decide) (Nat.le_of_ble_eq_true rfl) (fun p e s m below meth c ls A hx hb hml hr hlocks hin hts hown hKK hP hD hS hA hl => ?_)
  have hK := hKK.1
  have hl : lv_has ls 7 [(0, .ref hm), (1, .int (iZ x1)), (2, .int (iZ x2))] := hl
  obtain ⟨m0, m1, m3, m4, m5, mF, mO, mS⟩ := id hM
  refine lv_iload_n hx hb dX12_mean_0 rfl (lv_at hl 1 rfl) ?_
  refine lv_i2l (v := (iZ x1).toInt64) hx hb dX12_mean_1 rfl ?_
  refine lv_lconst (v := 0) hx hb dX12_mean_2 rfl ?_
  refine lv_ldc2 (own := RX12) (v := 9999) hx hb hown (hts _ qk_X12_399) dX12_mean_3 ?_
  refine CPS (As := [.long ((iZ x1).toInt64), .long 0, .long 9999]) (rest := []) hx hb hml hown hts hKK (hP.sub (ws' := []) [] rfl) (m_isFrom l D k ((iZ x1).toInt64) 0 9999) ci_X12_isFrom qm_X12_295 ⟨Nat.le_of_ble_eq_true rfl, Nat.le_of_ble_eq_true rfl⟩ ⟨Nat.le_of_ble_eq_true rfl, Nat.le_of_ble_eq_true rfl⟩ rfl hl.1 rfl (Nat.le_of_ble_eq_true rfl) dX12_mean_6 (fun z_1 hz_1 => ?_)
  have tt_2_z_1 := tI64 (z := x1) ⟨by omega, by omega⟩
  have tt_3_z_1 := show (0 : Int64).toInt = 0 from (by decide)
  have tt_4_z_1 := show (9999 : Int64).toInt = 9999 from (by decide)
  rcases hz_1 with ⟨qz_1, hz_1⟩ | ⟨qz_1, hz_1⟩
  ·
    subst qz_1
    refine lv_if_eq (tgt := 35) hx hb dX12_mean_9 (by decide) (fun c => absurd c (by decide)) (fun _ => ?_)
    refine lv_iload_n hx hb dX12_mean_12 rfl (lv_at hl 2 rfl) ?_
    refine lv_i2l (v := (iZ x2).toInt64) hx hb dX12_mean_13 rfl ?_
    refine lv_lconst (v := 1) hx hb dX12_mean_14 rfl ?_
    refine lv_ldc2 (own := RX12) (v := 10) hx hb hown (hts _ qk_X12_407) dX12_mean_15 ?_
    refine CPS (As := [.long ((iZ x2).toInt64), .long 1, .long 10]) (rest := []) hx hb hml hown hts hKK (hP.sub (ws' := []) [] rfl) (m_isFrom l D k ((iZ x2).toInt64) 1 10) ci_X12_isFrom qm_X12_295 ⟨Nat.le_of_ble_eq_true rfl, Nat.le_of_ble_eq_true rfl⟩ ⟨Nat.le_of_ble_eq_true rfl, Nat.le_of_ble_eq_true rfl⟩ rfl hl.1 rfl (Nat.le_of_ble_eq_true rfl) dX12_mean_18 (fun z_6 hz_6 => ?_)
    have tt_7_z_6 := tI64 (z := x2) ⟨by omega, by omega⟩
    have tt_8_z_6 := show (1 : Int64).toInt = 1 from (by decide)
    have tt_9_z_6 := show (10 : Int64).toInt = 10 from (by decide)
    rcases hz_6 with ⟨qz_6, hz_6⟩ | ⟨qz_6, hz_6⟩
    ·
      subst qz_6
      refine lv_if_eq (tgt := 35) hx hb dX12_mean_21 (by decide) (fun c => absurd c (by decide)) (fun _ => ?_)
      refine lv_iload_n hx hb dX12_mean_24 rfl (lv_at hl 1 rfl) ?_
      refine lv_iload_n hx hb dX12_mean_25 rfl (lv_at hl 2 rfl) ?_
      refine lv_iadd hx hb dX12_mean_26 ?_
      refine lv_topi (fun x_11 ex_11 => ?_)
      obtain rfl : x_11 = iZ (x1 + x2) := ex_11.trans (iZ_add x1 x2)
      refine lv_iconst (v := iZ 1) hx hb dX12_mean_27 (by decide) ?_
      refine lv_isub hx hb dX12_mean_28 ?_
      refine lv_topi (fun x_12 ex_12 => ?_)
      obtain rfl : x_12 = iZ ((x1 + x2) - 1) := ex_12.trans (iZ_sub (x1 + x2) 1)
      refine lv_sipush (v := iZ 9999) hx hb dX12_mean_29 (by decide) ?_
      refine lv_icmp_le (tgt := 41) hx hb dX12_mean_32 (by decide) (fun c_13 => ?_) (fun c_13 => ?_)
      ·
        have c_13 := (zle (x := iZ ((x1 + x2) - 1)) (y := iZ 9999) rfl rfl ⟨by omega, by omega⟩ ⟨by omega, by omega⟩).mp c_13
        refine lv_aload_n hx hb dX12_mean_41 rfl (lv_at hl 0 rfl) ?_
        refine va_get (D := D) (ci := 12) (v := .ref Ma) (C := RX12) (T := TX12) (N := 36) hx hb hts iX12 hown hK hP 0 rfl rfl 0 (by decide) (hts _ qf_X12_7) (fun _ h => h) rfl dX12_mean_42 ?_
        refine lv_iconst (v := iZ 5) hx hb dX12_mean_45 (by decide) ?_
        refine va_iald hx hb hK hP 1 1 rfl rfl (zin (e := 5) (n := 5340) ⟨by omega, by omega⟩ (by decide)) dX12_mean_46 ?_
        refine lv_topi (fun x_14 ex_14 => ?_)
        obtain rfl : x_14 = iZ (gz Af 5) := ex_14.trans (gz_eq ⟨by omega, by omega⟩)
        have h_15 := gz_rg Af 5
        refine lv_iconst (v := iZ (-1)) hx hb dX12_mean_47 (by decide) ?_
        refine lv_icmp_ne (tgt := 58) hx hb dX12_mean_48 (by decide) (fun c_16 => ?_) (fun c_16 => ?_)
        ·
          have c_16 := mt (zeq (x := iZ (gz Af 5)) (y := iZ (-1)) rfl rfl ⟨by omega, by omega⟩ ⟨by omega, by omega⟩).mpr c_16
          refine lv_iconst (v := iZ 0) hx hb dX12_mean_58 (by decide) ?_
          refine lv_istore_n (lv' := [(3, .int (iZ 0)), (0, .ref hm), (1, .int (iZ x1)), (2, .int (iZ x2))]) hx hb dX12_mean_59 rfl hl (by decide) rfl (fun ls hl => ?_)
          have HL60 : ∀ (fu : Nat) (v3_60 : Int) (Afq60 : Nat → Int32) (H : Heap) (locs : List Loc) (ls : Array Slot), ((519) + 2 - v3_60) < (fu : Int) → ((0 ≤ v3_60 ∧ v3_60 ≤ (519) + 1)) → (∀ e : Int, 0 ≤ e → e < v3_60 → gz Afq60 (4450 + e) = gz Af e) → (∀ e : Int, 0 ≤ e → e < 4450 → gz Afq60 e = gz Af e) → va_P D vwCl [(hm, .inr (12, [.ref Ma, .ref Mn, .int (iZ Mst), .long Mtp, .long Mbt, .ref Ms, .ref My, .ref Mt, .ref Mp, .ref Mx, .int (iZ Mtd), .int (iZ Msz), .int (iZ Mtk), .int (iZ Mfr), .int (iZ Men), .int (iZ Mva), .int (iZ Mfk), .int (iZ Mfp), .int (iZ Mfs), .int (iZ Mse), .int (iZ Mlt), .ref Mo, .int (iZ Mdp), .int (iZ Mct), .ref Mk, .ref Ml, .ref Mb, .ref Mh, .ref Mc, .int (iZ Mdr), .int (iZ Mrs), .ref Mz, .ref Mr, .ref Mq, .int (iZ Mit), .int (iZ Mmk)])), (Ma, .inl (k 1, 5340, .inl Afq60)), (Mk, .inl (k 1, 6, .inl Kf)), (Ml, .inl (k 1, 6, .inl Lf)), (Mb, .inl (k 1, 6, .inl Bf)), (Mh, .inl (k 1, 120, .inl Hf)), (Mz, .inl (k 1, 80, .inl Zf)), (Mr, .inl (k 1, 5, .inl Rf))] H → va_D A [(hm, .inr (12, [.ref Ma, .ref Mn, .int (iZ Mst), .long Mtp, .long Mbt, .ref Ms, .ref My, .ref Mt, .ref Mp, .ref Mx, .int (iZ Mtd), .int (iZ Msz), .int (iZ Mtk), .int (iZ Mfr), .int (iZ Men), .int (iZ Mva), .int (iZ Mfk), .int (iZ Mfp), .int (iZ Mfs), .int (iZ Mse), .int (iZ Mlt), .ref Mo, .int (iZ Mdp), .int (iZ Mct), .ref Mk, .ref Ml, .ref Mb, .ref Mh, .ref Mc, .int (iZ Mdr), .int (iZ Mrs), .ref Mz, .ref Mr, .ref Mq, .int (iZ Mit), .int (iZ Mmk)])), (Ma, .inl (k 1, 5340, .inl Afq60)), (Mk, .inl (k 1, 6, .inl Kf)), (Ml, .inl (k 1, 6, .inl Lf)), (Mb, .inl (k 1, 6, .inl Bf)), (Mh, .inl (k 1, 120, .inl Hf)), (Mz, .inl (k 1, 80, .inl Zf)), (Mr, .inl (k 1, 5, .inl Rf))] → va_S A s.heap H locs → lv_has ls 7 [(3, .int (iZ v3_60)), (0, .ref hm), (1, .int (iZ x1)), (2, .int (iZ x2))] → W p l e (rj 10 0 0) s m [.ref hm, .int (iZ x1), .int (iZ x2)].toArray below meth c H locs 0 0 (MQ below (QW (σ := ((Nat → Int) × (Nat → Int64) × (Nat → Nat → Int32) × (Nat → Nat → Int64))) (fun u => some (.int (iZ (u.1 0)))) (fun u => (M0 (u.2.2.1 0)) ∧ (∀ e : Int, 520 ≤ e → e < 4450 → gz (u.2.2.1 0) e = gz Af e) ∧ (0 ≤ (u.1 2) ∧ (u.1 2) ≤ 65535) ∧ (rgI (u.2.2.1 4) 0 1000000 120)) (fun u => [(hm, .inr (12, [.ref Ma, .ref Mn, .int (iZ (u.1 1)), .long (u.2.1 1), .long (u.2.1 2), .ref Ms, .ref My, .ref Mt, .ref Mp, .ref Mx, .int (iZ Mtd), .int (iZ Msz), .int (iZ Mtk), .int (iZ Mfr), .int (iZ Men), .int (iZ Mva), .int (iZ Mfk), .int (iZ Mfp), .int (iZ Mfs), .int (iZ Mse), .int (iZ Mlt), .ref Mo, .int (iZ Mdp), .int (iZ Mct), .ref Mk, .ref Ml, .ref Mb, .ref Mh, .ref Mc, .int (iZ (u.1 2)), .int (iZ (u.1 3)), .ref Mz, .ref Mr, .ref Mq, .int (iZ Mit), .int (iZ Mmk)])), (Ma, .inl (k 1, 5340, .inl (u.2.2.1 0))), (Mk, .inl (k 1, 6, .inl (u.2.2.1 1))), (Ml, .inl (k 1, 6, .inl (u.2.2.1 2))), (Mb, .inl (k 1, 6, .inl (u.2.2.1 3))), (Mh, .inl (k 1, 120, .inl (u.2.2.1 4))), (Mz, .inl (k 1, 80, .inl (u.2.2.1 5))), (Mr, .inl (k 1, 5, .inl (u.2.2.1 6)))]) D A) [.ref hm, .int (iZ x1), .int (iZ x2)].toArray s 0 0 A) (F0 m 60 ls []) := by
            intro fu
            induction fu with
            | zero => intro v3_60 Afq60 H locs ls hμ60 hi60 hw1 hk1 hP hD hS hl; exact absurd hμ60 (by omega)
            | succ fu ih60 =>
              intro v3_60 Afq60 H locs ls hμ60 hi60 hw1 hk1 hP hD hS hl
              refine lv_iload_n hx hb dX12_mean_60 rfl (lv_at hl 0 rfl) ?_
              refine lv_sipush (v := iZ 520) hx hb dX12_mean_61 (by decide) ?_
              refine lv_icmp_ge (tgt := 89) hx hb dX12_mean_64 (by decide) (fun c_17 => ?_) (fun c_17 => ?_)
              ·
                have c_17 := (zle (x := iZ 520) (y := iZ v3_60) rfl rfl ⟨by omega, by omega⟩ ⟨by omega, by omega⟩).mp c_17
                obtain rfl : v3_60 = 520 := by omega
                have hMw : M0 Afq60 := M0.back hM (fun e h1 h2 => hk1 e h1 (by omega)) (fun e h1 h2 => hk1 e (by omega) h2)
                obtain ⟨m0w, m1w, m3w, m4w, m5w, mFw, mOw, mSw⟩ := id hMw
                refine lv_lconst (v := 0) hx hb dX12_mean_89 rfl ?_
                refine lv_lstore_n (lv' := [(3, .long 0), (0, .ref hm), (1, .int (iZ x1)), (2, .int (iZ x2))]) hx hb dX12_mean_90 rfl hl (by decide) rfl (fun ls hl => ?_)
                refine lv_iconst (v := iZ 0) hx hb dX12_mean_91 (by decide) ?_
                refine lv_istore (lv' := [(5, .int (iZ 0)), (3, .long 0), (0, .ref hm), (1, .int (iZ x1)), (2, .int (iZ x2))]) hx hb dX12_mean_92 hl (by decide) rfl (fun ls hl => ?_)
                have HL94 : ∀ (fu : Nat) (v3_94 : Int64) (v5_94 : Int) (Mdrq94 : Int) (Mrsq94 : Int) (Afq94 : Nat → Int32) (Kfq94 : Nat → Int32) (Lfq94 : Nat → Int32) (Bfq94 : Nat → Int32) (Hfq94 : Nat → Int32) (Zfq94 : Nat → Int32) (Rfq94 : Nat → Int32) (H : Heap) (locs : List Loc) (ls : Array Slot), ((x2) + 2 - v5_94) < (fu : Int) → ((0 ≤ v5_94 ∧ v5_94 ≤ (x2) + 1)) → (M0 Afq94) → (∀ e : Int, 0 ≤ e → e < 520 → gz Afq94 (4450 + e) = gz Af e) → (∀ e : Int, 520 ≤ e → e < 4450 → gz Afq94 e = gz Af e) → (0 ≤ Mdrq94 ∧ Mdrq94 ≤ 65535) → (gz Afq94 0 = gz Af 0) → (rgI Hfq94 0 1000000 120) → va_P D vwCl [(hm, .inr (12, [.ref Ma, .ref Mn, .int (iZ Mst), .long Mtp, .long Mbt, .ref Ms, .ref My, .ref Mt, .ref Mp, .ref Mx, .int (iZ Mtd), .int (iZ Msz), .int (iZ Mtk), .int (iZ Mfr), .int (iZ Men), .int (iZ Mva), .int (iZ Mfk), .int (iZ Mfp), .int (iZ Mfs), .int (iZ Mse), .int (iZ Mlt), .ref Mo, .int (iZ Mdp), .int (iZ Mct), .ref Mk, .ref Ml, .ref Mb, .ref Mh, .ref Mc, .int (iZ Mdrq94), .int (iZ Mrsq94), .ref Mz, .ref Mr, .ref Mq, .int (iZ Mit), .int (iZ Mmk)])), (Ma, .inl (k 1, 5340, .inl Afq94)), (Mk, .inl (k 1, 6, .inl Kfq94)), (Ml, .inl (k 1, 6, .inl Lfq94)), (Mb, .inl (k 1, 6, .inl Bfq94)), (Mh, .inl (k 1, 120, .inl Hfq94)), (Mz, .inl (k 1, 80, .inl Zfq94)), (Mr, .inl (k 1, 5, .inl Rfq94))] H → va_D A [(hm, .inr (12, [.ref Ma, .ref Mn, .int (iZ Mst), .long Mtp, .long Mbt, .ref Ms, .ref My, .ref Mt, .ref Mp, .ref Mx, .int (iZ Mtd), .int (iZ Msz), .int (iZ Mtk), .int (iZ Mfr), .int (iZ Men), .int (iZ Mva), .int (iZ Mfk), .int (iZ Mfp), .int (iZ Mfs), .int (iZ Mse), .int (iZ Mlt), .ref Mo, .int (iZ Mdp), .int (iZ Mct), .ref Mk, .ref Ml, .ref Mb, .ref Mh, .ref Mc, .int (iZ Mdrq94), .int (iZ Mrsq94), .ref Mz, .ref Mr, .ref Mq, .int (iZ Mit), .int (iZ Mmk)])), (Ma, .inl (k 1, 5340, .inl Afq94)), (Mk, .inl (k 1, 6, .inl Kfq94)), (Ml, .inl (k 1, 6, .inl Lfq94)), (Mb, .inl (k 1, 6, .inl Bfq94)), (Mh, .inl (k 1, 120, .inl Hfq94)), (Mz, .inl (k 1, 80, .inl Zfq94)), (Mr, .inl (k 1, 5, .inl Rfq94))] → va_S A s.heap H locs → lv_has ls 7 [(5, .int (iZ v5_94)), (3, .long v3_94), (0, .ref hm), (1, .int (iZ x1)), (2, .int (iZ x2))] → W p l e (rj 10 0 0) s m [.ref hm, .int (iZ x1), .int (iZ x2)].toArray below meth c H locs 0 0 (MQ below (QW (σ := ((Nat → Int) × (Nat → Int64) × (Nat → Nat → Int32) × (Nat → Nat → Int64))) (fun u => some (.int (iZ (u.1 0)))) (fun u => (M0 (u.2.2.1 0)) ∧ (∀ e : Int, 520 ≤ e → e < 4450 → gz (u.2.2.1 0) e = gz Af e) ∧ (0 ≤ (u.1 2) ∧ (u.1 2) ≤ 65535) ∧ (rgI (u.2.2.1 4) 0 1000000 120)) (fun u => [(hm, .inr (12, [.ref Ma, .ref Mn, .int (iZ (u.1 1)), .long (u.2.1 1), .long (u.2.1 2), .ref Ms, .ref My, .ref Mt, .ref Mp, .ref Mx, .int (iZ Mtd), .int (iZ Msz), .int (iZ Mtk), .int (iZ Mfr), .int (iZ Men), .int (iZ Mva), .int (iZ Mfk), .int (iZ Mfp), .int (iZ Mfs), .int (iZ Mse), .int (iZ Mlt), .ref Mo, .int (iZ Mdp), .int (iZ Mct), .ref Mk, .ref Ml, .ref Mb, .ref Mh, .ref Mc, .int (iZ (u.1 2)), .int (iZ (u.1 3)), .ref Mz, .ref Mr, .ref Mq, .int (iZ Mit), .int (iZ Mmk)])), (Ma, .inl (k 1, 5340, .inl (u.2.2.1 0))), (Mk, .inl (k 1, 6, .inl (u.2.2.1 1))), (Ml, .inl (k 1, 6, .inl (u.2.2.1 2))), (Mb, .inl (k 1, 6, .inl (u.2.2.1 3))), (Mh, .inl (k 1, 120, .inl (u.2.2.1 4))), (Mz, .inl (k 1, 80, .inl (u.2.2.1 5))), (Mr, .inl (k 1, 5, .inl (u.2.2.1 6)))]) D A) [.ref hm, .int (iZ x1), .int (iZ x2)].toArray s 0 0 A) (F0 m 94 ls []) := by
                  intro fu
                  induction fu with
                  | zero => intro v3_94 v5_94 Mdrq94 Mrsq94 Afq94 Kfq94 Lfq94 Bfq94 Hfq94 Zfq94 Rfq94 H locs ls hμ94 hi94 hM94 hO1 hO2 hdr2 hF94 rgh2 hP hD hS hl; exact absurd hμ94 (by omega)
                  | succ fu ih94 =>
                    intro v3_94 v5_94 Mdrq94 Mrsq94 Afq94 Kfq94 Lfq94 Bfq94 Hfq94 Zfq94 Rfq94 H locs ls hμ94 hi94 hM94 hO1 hO2 hdr2 hF94 rgh2 hP hD hS hl
                    obtain ⟨m0o, m1o, m3o, m4o, m5o, mFo, mOo, mSo⟩ := id hM94
                    refine lv_iload hx hb dX12_mean_94 (lv_at hl 0 rfl) ?_
                    refine lv_iload_n hx hb dX12_mean_96 rfl (lv_at hl 4 rfl) ?_
                    refine lv_icmp_ge (tgt := 170) hx hb dX12_mean_97 (by decide) (fun c_18 => ?_) (fun c_18 => ?_)
                    ·
                      have c_18 := (zle (x := iZ x2) (y := iZ v5_94) rfl rfl ⟨by omega, by omega⟩ ⟨by omega, by omega⟩).mp c_18
                      refine lv_aload_n hx hb dX12_mean_170 rfl (lv_at hl 2 rfl) ?_
                      refine lv_lload_n hx hb dX12_mean_171 rfl (lv_at hl 1 rfl) ?_
                      refine lv_iload_n hx hb dX12_mean_172 rfl (lv_at hl 4 rfl) ?_
                      refine lv_i2l (v := (iZ x2).toInt64) hx hb dX12_mean_173 rfl ?_
                      refine CWV (As := [.long v3_94, .long ((iZ x2).toInt64)]) (rest := []) (wc := [(hm, .inr (12, [.ref Ma, .ref Mn, .int (iZ Mst), .long Mtp, .long Mbt, .ref Ms, .ref My, .ref Mt, .ref Mp, .ref Mx, .int (iZ Mtd), .int (iZ Msz), .int (iZ Mtk), .int (iZ Mfr), .int (iZ Men), .int (iZ Mva), .int (iZ Mfk), .int (iZ Mfp), .int (iZ Mfs), .int (iZ Mse), .int (iZ Mlt), .ref Mo, .int (iZ Mdp), .int (iZ Mct), .ref Mk, .ref Ml, .ref Mb, .ref Mh, .ref Mc, .int (iZ Mdrq94), .int (iZ Mrsq94), .ref Mz, .ref Mr, .ref Mq, .int (iZ Mit), .int (iZ Mmk)]))]) (wr := [(Ma, .inl (k 1, 5340, .inl Afq94)), (Mk, .inl (k 1, 6, .inl Kfq94)), (Ml, .inl (k 1, 6, .inl Lfq94)), (Mb, .inl (k 1, 6, .inl Bfq94)), (Mh, .inl (k 1, 120, .inl Hfq94)), (Mz, .inl (k 1, 80, .inl Zfq94)), (Mr, .inl (k 1, 5, .inl Rfq94))]) hx hb hml hown hts hKK hP hD hS hA (m_tellsBy l D k hm Ma Mn Ms My Mt Mp Mx Mo Mk Ml Mb Mh Mc Mz Mr Mq Mst Mtd Msz Mtk Mfr Men Mva Mfk Mfp Mfs Mse Mlt Mdp Mct Mdrq94 Mrsq94 Mit Mmk Mtp Mbt v3_94 ((iZ x2).toInt64) (by have t9 := tI64 (z := x2) ⟨by omega, by omega⟩; omega)) ci_X12_tellsBy qm_X12_359 ⟨Nat.le_of_ble_eq_true rfl, Nat.le_of_ble_eq_true rfl⟩ ⟨Nat.le_of_ble_eq_true rfl, Nat.le_of_ble_eq_true rfl⟩ [0] [1, 2, 3, 4, 5, 6, 7] rfl rfl rfl rfl rfl (by decide) 0 rfl rfl rfl hl.1 rfl (Nat.le_of_ble_eq_true rfl) dX12_mean_174 (fun u_19 H locs hφ hP hD hS => ?_)
                      obtain ⟨I_20, L_21, F_22, G_23⟩ := u_19
                      refine W.eq (g2 := F0 m 177 ls [.int (iZ 1)]) rfl ?_
                      exact EWz hx hb hr hlocks hS (fun i => [1, (I_20 1), Mdrq94, Mrsq94].getD i 0, fun i => [0, (L_21 1), (L_21 2)].getD i 0, fun i => [Afq94, Kfq94, Lfq94, Bfq94, Hfq94, Zfq94, Rfq94].getD i (fun _ => 0), fun i => [].getD i (fun _ => 0)) rfl rfl ⟨(show M0 Afq94 from hM94), (show ∀ e : Int, 520 ≤ e → e < 4450 → gz Afq94 e = gz Af e from hO2), (show 0 ≤ Mdrq94 ∧ Mdrq94 ≤ 65535 from (by omega)), (show rgI Hfq94 0 1000000 120 from rgh2)⟩ (hP.sub [7, 0, 1, 2, 3, 4, 5, 6] rfl) (hD.sub [7, 0, 1, 2, 3, 4, 5, 6] rfl rfl) dX12_mean_177
                    ·
                      have c_18 := mt (zle (x := iZ x2) (y := iZ v5_94) rfl rfl ⟨by omega, by omega⟩ ⟨by omega, by omega⟩).mpr c_18
                      refine lv_aload_n hx hb dX12_mean_100 rfl (lv_at hl 2 rfl) ?_
                      refine lv_iload_n hx hb dX12_mean_101 rfl (lv_at hl 3 rfl) ?_
                      refine lv_iload hx hb dX12_mean_102 (lv_at hl 0 rfl) ?_
                      refine lv_iadd hx hb dX12_mean_104 ?_
                      refine lv_topi (fun x_25 ex_25 => ?_)
                      obtain rfl : x_25 = iZ (x1 + v5_94) := ex_25.trans (iZ_add x1 v5_94)
                      refine CWV (As := [.int (iZ (x1 + v5_94))]) (rest := []) (wc := [(hm, .inr (12, [.ref Ma, .ref Mn, .int (iZ Mst), .long Mtp, .long Mbt, .ref Ms, .ref My, .ref Mt, .ref Mp, .ref Mx, .int (iZ Mtd), .int (iZ Msz), .int (iZ Mtk), .int (iZ Mfr), .int (iZ Men), .int (iZ Mva), .int (iZ Mfk), .int (iZ Mfp), .int (iZ Mfs), .int (iZ Mse), .int (iZ Mlt), .ref Mo, .int (iZ Mdp), .int (iZ Mct), .ref Mk, .ref Ml, .ref Mb, .ref Mh, .ref Mc, .int (iZ Mdrq94), .int (iZ Mrsq94), .ref Mz, .ref Mr, .ref Mq, .int (iZ Mit), .int (iZ Mmk)])), (Ma, .inl (k 1, 5340, .inl Afq94)), (Mk, .inl (k 1, 6, .inl Kfq94)), (Ml, .inl (k 1, 6, .inl Lfq94)), (Mb, .inl (k 1, 6, .inl Bfq94)), (Mh, .inl (k 1, 120, .inl Hfq94)), (Mz, .inl (k 1, 80, .inl Zfq94)), (Mr, .inl (k 1, 5, .inl Rfq94))]) (wr := []) hx hb hml hown hts hKK hP hD hS hA (m_lives l D k hm Ma Mn Ms My Mt Mp Mx Mo Mk Ml Mb Mh Mc Mz Mr Mq Mst Mtd Msz Mtk Mfr Men Mva Mfk Mfp Mfs Mse Mlt Mdp Mct Mdrq94 Mrsq94 Mit Mmk Mtp Mbt Afq94 Kfq94 Lfq94 Bfq94 Hfq94 Zfq94 Rfq94 (x1 + v5_94) hM94 ⟨by omega, by omega⟩ rgh2) ci_X12_lives qm_X12_401 ⟨Nat.le_of_ble_eq_true rfl, Nat.le_of_ble_eq_true rfl⟩ ⟨Nat.le_of_ble_eq_true rfl, Nat.le_of_ble_eq_true rfl⟩ [0, 1, 2, 3, 4, 5, 6, 7] [] rfl rfl rfl rfl rfl (by decide) 0 rfl rfl rfl hl.1 rfl (Nat.le_of_ble_eq_true rfl) dX12_mean_105 (fun u_26 H locs hφ hP hD hS => ?_)
                      obtain ⟨I_27, L_28, F_29, G_30⟩ := u_26
                      obtain ⟨p_32, p_33, p_34, p_35, p_36⟩ : (M0 (F_29 0)) ∧ (FR (F_29 0) Afq94) ∧ (0 ≤ (I_27 1) ∧ (I_27 1) ≤ 65535) ∧ (rgI (F_29 4) 0 1000000 120) ∧ (0 ≤ (I_27 2) ∧ (I_27 2) ≤ 200) := hφ
                      obtain ⟨m0m_37, m1m_37, m3m_37, m4m_37, m5m_37, mFm_37, mOm_37, mSm_37⟩ := id p_32
                      have frm_37 := FR.z p_33
                      refine W.eq (g2 := F0 m 108 ls []) rfl ?_
                      refine lv_lload_n hx hb dX12_mean_108 rfl (lv_at hl 1 rfl) ?_
                      refine lv_aload_n hx hb dX12_mean_109 rfl (lv_at hl 2 rfl) ?_
                      refine va_get (D := D) (ci := 12) (v := .ref Ma) (C := RX12) (T := TX12) (N := 36) hx hb hts iX12 hown hK hP 0 rfl rfl 0 (by decide) (hts _ qf_X12_7) (fun _ h => h) rfl dX12_mean_110 ?_
                      refine lv_bipush (v := iZ 118) hx hb dX12_mean_113 (by decide) ?_
                      refine lv_aload_n hx hb dX12_mean_115 rfl (lv_at hl 2 rfl) ?_
                      refine va_get (D := D) (ci := 12) (v := .ref Ma) (C := RX12) (T := TX12) (N := 36) hx hb hts iX12 hown hK hP 0 rfl rfl 0 (by decide) (hts _ qf_X12_7) (fun _ h => h) rfl dX12_mean_116 ?_
                      refine lv_iconst (v := iZ 3) hx hb dX12_mean_119 (by decide) ?_
                      refine va_iald hx hb hK hP 1 1 rfl rfl (zin (e := 3) (n := 5340) ⟨by omega, by omega⟩ (by decide)) dX12_mean_120 ?_
                      refine lv_topi (fun x_38 ex_38 => ?_)
                      obtain rfl : x_38 = iZ (gz (F_29 0) 3) := ex_38.trans (gz_eq ⟨by omega, by omega⟩)
                      have h_39 := gz_rg (F_29 0) 3
                      refine lv_iadd hx hb dX12_mean_121 ?_
                      refine lv_topi (fun x_40 ex_40 => ?_)
                      obtain rfl : x_40 = iZ (118 + (gz (F_29 0) 3)) := ex_40.trans (iZ_add 118 (gz (F_29 0) 3))
                      refine va_iald hx hb hK hP 1 1 rfl rfl (zin (e := (118 + (gz (F_29 0) 3))) (n := 5340) ⟨by omega, by omega⟩ (by decide)) dX12_mean_122 ?_
                      refine lv_topi (fun x_41 ex_41 => ?_)
                      obtain rfl : x_41 = iZ (gz (F_29 0) (118 + (gz (F_29 0) 3))) := ex_41.trans (gz_eq ⟨by omega, by omega⟩)
                      have h_42 := gz_rg (F_29 0) (118 + (gz (F_29 0) 3))
                      refine CPS (As := [.int (iZ (gz (F_29 0) (118 + (gz (F_29 0) 3))))]) (rest := [.long v3_94]) hx hb hml hown hts hKK (hP.sub (ws' := []) [] rfl) (m_bits l D k (gz (F_29 0) (118 + (gz (F_29 0) 3))) ⟨by omega, by omega⟩) ci_X12_bits qm_X12_409 ⟨Nat.le_of_ble_eq_true rfl, Nat.le_of_ble_eq_true rfl⟩ ⟨Nat.le_of_ble_eq_true rfl, Nat.le_of_ble_eq_true rfl⟩ rfl hl.1 rfl (Nat.le_of_ble_eq_true rfl) dX12_mean_123 (fun z_43 hz_43 => ?_)
                      refine lv_i2l (v := (iZ z_43).toInt64) hx hb dX12_mean_126 rfl ?_
                      refine lv_ladd hx hb dX12_mean_127 ?_
                      refine lv_topl (fun y_44 ey_44 => ?_)
                      refine lv_lstore_n (lv' := [(3, .long y_44), (5, .int (iZ v5_94)), (0, .ref hm), (1, .int (iZ x1)), (2, .int (iZ x2))]) hx hb dX12_mean_128 rfl hl (by decide) rfl (fun ls hl => ?_)
                      refine lv_iconst (v := iZ 0) hx hb dX12_mean_129 (by decide) ?_
                      refine lv_istore (lv' := [(6, .int (iZ 0)), (3, .long y_44), (5, .int (iZ v5_94)), (0, .ref hm), (1, .int (iZ x1)), (2, .int (iZ x2))]) hx hb dX12_mean_130 hl (by decide) rfl (fun ls hl => ?_)
                      have HL132 : ∀ (fu : Nat) (v6_132 : Int) (Afq132 : Nat → Int32) (H : Heap) (locs : List Loc) (ls : Array Slot), ((519) + 2 - v6_132) < (fu : Int) → ((0 ≤ v6_132 ∧ v6_132 ≤ (519) + 1)) → (∀ e : Int, 0 ≤ e → e < v6_132 → gz Afq132 e = gz (F_29 0) (4450 + e)) → (∀ e : Int, 520 ≤ e → gz Afq132 e = gz (F_29 0) e) → va_P D vwCl [(hm, .inr (12, [.ref Ma, .ref Mn, .int (iZ Mst), .long Mtp, .long Mbt, .ref Ms, .ref My, .ref Mt, .ref Mp, .ref Mx, .int (iZ Mtd), .int (iZ Msz), .int (iZ Mtk), .int (iZ Mfr), .int (iZ Men), .int (iZ Mva), .int (iZ Mfk), .int (iZ Mfp), .int (iZ Mfs), .int (iZ Mse), .int (iZ Mlt), .ref Mo, .int (iZ Mdp), .int (iZ Mct), .ref Mk, .ref Ml, .ref Mb, .ref Mh, .ref Mc, .int (iZ (I_27 1)), .int (iZ (I_27 2)), .ref Mz, .ref Mr, .ref Mq, .int (iZ Mit), .int (iZ Mmk)])), (Ma, .inl (k 1, 5340, .inl Afq132)), (Mk, .inl (k 1, 6, .inl (F_29 1))), (Ml, .inl (k 1, 6, .inl (F_29 2))), (Mb, .inl (k 1, 6, .inl (F_29 3))), (Mh, .inl (k 1, 120, .inl (F_29 4))), (Mz, .inl (k 1, 80, .inl (F_29 5))), (Mr, .inl (k 1, 5, .inl (F_29 6)))] H → va_D A [(hm, .inr (12, [.ref Ma, .ref Mn, .int (iZ Mst), .long Mtp, .long Mbt, .ref Ms, .ref My, .ref Mt, .ref Mp, .ref Mx, .int (iZ Mtd), .int (iZ Msz), .int (iZ Mtk), .int (iZ Mfr), .int (iZ Men), .int (iZ Mva), .int (iZ Mfk), .int (iZ Mfp), .int (iZ Mfs), .int (iZ Mse), .int (iZ Mlt), .ref Mo, .int (iZ Mdp), .int (iZ Mct), .ref Mk, .ref Ml, .ref Mb, .ref Mh, .ref Mc, .int (iZ (I_27 1)), .int (iZ (I_27 2)), .ref Mz, .ref Mr, .ref Mq, .int (iZ Mit), .int (iZ Mmk)])), (Ma, .inl (k 1, 5340, .inl Afq132)), (Mk, .inl (k 1, 6, .inl (F_29 1))), (Ml, .inl (k 1, 6, .inl (F_29 2))), (Mb, .inl (k 1, 6, .inl (F_29 3))), (Mh, .inl (k 1, 120, .inl (F_29 4))), (Mz, .inl (k 1, 80, .inl (F_29 5))), (Mr, .inl (k 1, 5, .inl (F_29 6)))] → va_S A s.heap H locs → lv_has ls 7 [(6, .int (iZ v6_132)), (3, .long y_44), (5, .int (iZ v5_94)), (0, .ref hm), (1, .int (iZ x1)), (2, .int (iZ x2))] → W p l e (rj 10 0 0) s m [.ref hm, .int (iZ x1), .int (iZ x2)].toArray below meth c H locs 0 0 (MQ below (QW (σ := ((Nat → Int) × (Nat → Int64) × (Nat → Nat → Int32) × (Nat → Nat → Int64))) (fun u => some (.int (iZ (u.1 0)))) (fun u => (M0 (u.2.2.1 0)) ∧ (∀ e : Int, 520 ≤ e → e < 4450 → gz (u.2.2.1 0) e = gz Af e) ∧ (0 ≤ (u.1 2) ∧ (u.1 2) ≤ 65535) ∧ (rgI (u.2.2.1 4) 0 1000000 120)) (fun u => [(hm, .inr (12, [.ref Ma, .ref Mn, .int (iZ (u.1 1)), .long (u.2.1 1), .long (u.2.1 2), .ref Ms, .ref My, .ref Mt, .ref Mp, .ref Mx, .int (iZ Mtd), .int (iZ Msz), .int (iZ Mtk), .int (iZ Mfr), .int (iZ Men), .int (iZ Mva), .int (iZ Mfk), .int (iZ Mfp), .int (iZ Mfs), .int (iZ Mse), .int (iZ Mlt), .ref Mo, .int (iZ Mdp), .int (iZ Mct), .ref Mk, .ref Ml, .ref Mb, .ref Mh, .ref Mc, .int (iZ (u.1 2)), .int (iZ (u.1 3)), .ref Mz, .ref Mr, .ref Mq, .int (iZ Mit), .int (iZ Mmk)])), (Ma, .inl (k 1, 5340, .inl (u.2.2.1 0))), (Mk, .inl (k 1, 6, .inl (u.2.2.1 1))), (Ml, .inl (k 1, 6, .inl (u.2.2.1 2))), (Mb, .inl (k 1, 6, .inl (u.2.2.1 3))), (Mh, .inl (k 1, 120, .inl (u.2.2.1 4))), (Mz, .inl (k 1, 80, .inl (u.2.2.1 5))), (Mr, .inl (k 1, 5, .inl (u.2.2.1 6)))]) D A) [.ref hm, .int (iZ x1), .int (iZ x2)].toArray s 0 0 A) (F0 m 132 ls []) := by
                        intro fu
                        induction fu with
                        | zero => intro v6_132 Afq132 H locs ls hμ132 hi132 hcb1 hcb2 hP hD hS hl; exact absurd hμ132 (by omega)
                        | succ fu ih132 =>
                          intro v6_132 Afq132 H locs ls hμ132 hi132 hcb1 hcb2 hP hD hS hl
                          refine lv_iload hx hb dX12_mean_132 (lv_at hl 0 rfl) ?_
                          refine lv_sipush (v := iZ 520) hx hb dX12_mean_134 (by decide) ?_
                          refine lv_icmp_ge (tgt := 164) hx hb dX12_mean_137 (by decide) (fun c_45 => ?_) (fun c_45 => ?_)
                          ·
                            have c_45 := (zle (x := iZ 520) (y := iZ v6_132) rfl rfl ⟨by omega, by omega⟩ ⟨by omega, by omega⟩).mp c_45
                            obtain rfl : v6_132 = 520 := by omega
                            have hMb : M0 Afq132 := M0.back hM (fun e h1 h2 => by have := hcb1 e h1 h2; have := hO1 e h1 h2; have := p_33.1 (4450 + e) (by omega); omega) (fun e h1 h2 => by have := hcb2 e h1; have := hO2 e h1 h2; have := p_33.1 e (by omega); omega)
                            have hz0 : gz Afq132 0 = gz Af 0 := by have := hcb1 0 (by omega) (by omega); have := hO1 0 (by omega) (by omega); have := p_33.1 (4450 + 0) (by omega); omega
                            refine lv_iinc (v := iZ (v5_94 + 1)) (lv' := [(5, .int (iZ (v5_94 + 1))), (6, .int (iZ 520)), (3, .long y_44), (0, .ref hm), (1, .int (iZ x1)), (2, .int (iZ x2))]) hx hb dX12_mean_164 hl (k := 2) rfl (iZ_add v5_94 1) (by decide) rfl (fun ls hl => ?_)
                            refine lv_goto (tgt := 94) hx hb dX12_mean_167 (by decide) ?_
                            exact ih94  y_44 (v5_94 + 1) (I_27 1) (I_27 2) Afq132 (F_29 1) (F_29 2) (F_29 3) (F_29 4) (F_29 5) (F_29 6) _ _ _ (by omega) (show (0 ≤ (v5_94 + 1) ∧ (v5_94 + 1) ≤ (x2) + 1) from ⟨by omega, by omega⟩) (show M0 Afq132 from hMb) (show ∀ e : Int, 0 ≤ e → e < 520 → gz Afq132 (4450 + e) = gz Af e from (fun e h1 h2 => by have := hcb2 (4450 + e) (by omega); have := hO1 e h1 h2; have := p_33.1 (4450 + e) (by omega); omega)) (show ∀ e : Int, 520 ≤ e → e < 4450 → gz Afq132 e = gz Af e from (fun e h1 h2 => by have := hcb2 e (by omega); have := hO2 e h1 h2; have := p_33.1 e (by omega); omega)) (show 0 ≤ (I_27 1) ∧ (I_27 1) ≤ 65535 from ⟨by omega, by omega⟩) (show gz Afq132 0 = gz Af 0 from (by omega)) (show rgI (F_29 4) 0 1000000 120 from p_35) (hP.sub [0, 1, 2, 3, 4, 5, 6, 7] rfl) (hD.sub [0, 1, 2, 3, 4, 5, 6, 7] rfl rfl) hS (lv_sub hl [0, 2, 3, 4, 5] rfl)
                          ·
                            have c_45 := mt (zle (x := iZ 520) (y := iZ v6_132) rfl rfl ⟨by omega, by omega⟩ ⟨by omega, by omega⟩).mpr c_45
                            refine lv_aload_n hx hb dX12_mean_140 rfl (lv_at hl 3 rfl) ?_
                            refine va_get (D := D) (ci := 12) (v := .ref Ma) (C := RX12) (T := TX12) (N := 36) hx hb hts iX12 hown hK hP 0 rfl rfl 0 (by decide) (hts _ qf_X12_7) (fun _ h => h) rfl dX12_mean_141 ?_
                            refine lv_iload hx hb dX12_mean_144 (lv_at hl 0 rfl) ?_
                            refine lv_aload_n hx hb dX12_mean_146 rfl (lv_at hl 3 rfl) ?_
                            refine va_get (D := D) (ci := 12) (v := .ref Ma) (C := RX12) (T := TX12) (N := 36) hx hb hts iX12 hown hK hP 0 rfl rfl 0 (by decide) (hts _ qf_X12_7) (fun _ h => h) rfl dX12_mean_147 ?_
                            refine lv_sipush (v := iZ 4450) hx hb dX12_mean_150 (by decide) ?_
                            refine lv_iload hx hb dX12_mean_153 (lv_at hl 0 rfl) ?_
                            refine lv_iadd hx hb dX12_mean_155 ?_
                            refine lv_topi (fun x_46 ex_46 => ?_)
                            obtain rfl : x_46 = iZ (4450 + v6_132) := ex_46.trans (iZ_add 4450 v6_132)
                            refine va_iald hx hb hK hP 1 1 rfl rfl (zin (e := (4450 + v6_132)) (n := 5340) ⟨by omega, by omega⟩ (by decide)) dX12_mean_156 ?_
                            refine lv_topi (fun x_47 ex_47 => ?_)
                            obtain rfl : x_47 = iZ (gz Afq132 (4450 + v6_132)) := ex_47.trans (gz_eq ⟨by omega, by omega⟩)
                            have h_48 := gz_rg Afq132 (4450 + v6_132)
                            refine va_iast hx hb hK hP hD hS 1 1 rfl rfl (zin (e := v6_132) (n := 5340) ⟨by omega, by omega⟩ (by decide)) dX12_mean_157 (fun H locs hP hD hS => ?_)
                            obtain ⟨f_49, hf_49⟩ : ∃ gg9, gg9 = upd Afq132 (iZ v6_132).toNatClampNeg (iZ (gz Afq132 (4450 + v6_132))) := ⟨_, rfl⟩
                            rw [← hf_49] at hP hD
                            refine lv_iinc (v := iZ (v6_132 + 1)) (lv' := [(6, .int (iZ (v6_132 + 1))), (3, .long y_44), (5, .int (iZ v5_94)), (0, .ref hm), (1, .int (iZ x1)), (2, .int (iZ x2))]) hx hb dX12_mean_158 hl (k := 0) rfl (iZ_add v6_132 1) (by decide) rfl (fun ls hl => ?_)
                            refine lv_goto (tgt := 132) hx hb dX12_mean_161 (by decide) ?_
                            exact ih132  (v6_132 + 1) f_49 _ _ _ (by omega) (show (0 ≤ (v6_132 + 1) ∧ (v6_132 + 1) ≤ (519) + 1) from ⟨by omega, by omega⟩) (show ∀ e : Int, 0 ≤ e → e < (v6_132 + 1) → gz f_49 e = gz (F_29 0) (4450 + e) from (fun e h1 h2 => by have c1 := gz_upc (j := e) hf_49 ⟨by omega, by omega⟩ ⟨by omega, by omega⟩ (by omega); rcases Int.lt_or_eq_of_le (show e ≤ v6_132 by omega) with h3 | h3; have := hcb1 e h1 h3; omega; rw [h3] at c1 ⊢; have c2 := hcb2 (4450 + v6_132) (by omega); omega)) (show ∀ e : Int, 520 ≤ e → gz f_49 e = gz (F_29 0) e from (fun e h1 => by have c1 := gz_upc (j := e) hf_49 ⟨by omega, by omega⟩ ⟨by omega, by omega⟩ (by omega); have := hcb2 e h1; omega)) (hP.sub [0, 1, 2, 3, 4, 5, 6, 7] rfl) (hD.sub [0, 1, 2, 3, 4, 5, 6, 7] rfl rfl) hS (lv_sub hl [0, 1, 2, 3, 4, 5] rfl)
                      exact HL132 523 0 (F_29 0) _ _ _ (by omega) (show (0 ≤ 0 ∧ 0 ≤ (519) + 1) from ⟨by omega, by omega⟩) (show ∀ e : Int, 0 ≤ e → e < 0 → gz (F_29 0) e = gz (F_29 0) (4450 + e) from (fun e h1 h2 => absurd h1 (by omega))) (show ∀ e : Int, 520 ≤ e → gz (F_29 0) e = gz (F_29 0) e from (fun e h1 => rfl)) (hP.sub [0, 1, 2, 3, 4, 5, 6, 7] rfl) (hD.sub [0, 1, 2, 3, 4, 5, 6, 7] rfl rfl) hS (lv_sub hl [0, 1, 2, 3, 4, 5] rfl)
                exact HL94 14 0 0 Mdr Mrs Afq60 Kf Lf Bf Hf Zf Rf _ _ _ (by omega) (show (0 ≤ 0 ∧ 0 ≤ (x2) + 1) from ⟨by omega, by omega⟩) (show M0 Afq60 from hMw) (show ∀ e : Int, 0 ≤ e → e < 520 → gz Afq60 (4450 + e) = gz Af e from (fun e h1 h2 => hw1 e h1 h2)) (show ∀ e : Int, 520 ≤ e → e < 4450 → gz Afq60 e = gz Af e from (fun e h1 h2 => hk1 e (by omega) h2)) (show 0 ≤ Mdr ∧ Mdr ≤ 65535 from ⟨by omega, by omega⟩) (show gz Afq60 0 = gz Af 0 from (by have := hk1 0 (by omega) (by omega); omega)) (show rgI Hf 0 1000000 120 from rgH) (hP.sub [0, 1, 2, 3, 4, 5, 6, 7] rfl) (hD.sub [0, 1, 2, 3, 4, 5, 6, 7] rfl rfl) hS (lv_sub hl [0, 1, 2, 3, 4] rfl)
              ·
                have c_17 := mt (zle (x := iZ 520) (y := iZ v3_60) rfl rfl ⟨by omega, by omega⟩ ⟨by omega, by omega⟩).mpr c_17
                refine lv_aload_n hx hb dX12_mean_67 rfl (lv_at hl 1 rfl) ?_
                refine va_get (D := D) (ci := 12) (v := .ref Ma) (C := RX12) (T := TX12) (N := 36) hx hb hts iX12 hown hK hP 0 rfl rfl 0 (by decide) (hts _ qf_X12_7) (fun _ h => h) rfl dX12_mean_68 ?_
                refine lv_sipush (v := iZ 4450) hx hb dX12_mean_71 (by decide) ?_
                refine lv_iload_n hx hb dX12_mean_74 rfl (lv_at hl 0 rfl) ?_
                refine lv_iadd hx hb dX12_mean_75 ?_
                refine lv_topi (fun x_50 ex_50 => ?_)
                obtain rfl : x_50 = iZ (4450 + v3_60) := ex_50.trans (iZ_add 4450 v3_60)
                refine lv_aload_n hx hb dX12_mean_76 rfl (lv_at hl 1 rfl) ?_
                refine va_get (D := D) (ci := 12) (v := .ref Ma) (C := RX12) (T := TX12) (N := 36) hx hb hts iX12 hown hK hP 0 rfl rfl 0 (by decide) (hts _ qf_X12_7) (fun _ h => h) rfl dX12_mean_77 ?_
                refine lv_iload_n hx hb dX12_mean_80 rfl (lv_at hl 0 rfl) ?_
                refine va_iald hx hb hK hP 1 1 rfl rfl (zin (e := v3_60) (n := 5340) ⟨by omega, by omega⟩ (by decide)) dX12_mean_81 ?_
                refine lv_topi (fun x_51 ex_51 => ?_)
                obtain rfl : x_51 = iZ (gz Afq60 v3_60) := ex_51.trans (gz_eq ⟨by omega, by omega⟩)
                have h_52 := gz_rg Afq60 v3_60
                refine va_iast hx hb hK hP hD hS 1 1 rfl rfl (zin (e := (4450 + v3_60)) (n := 5340) ⟨by omega, by omega⟩ (by decide)) dX12_mean_82 (fun H locs hP hD hS => ?_)
                obtain ⟨f_53, hf_53⟩ : ∃ gg9, gg9 = upd Afq60 (iZ (4450 + v3_60)).toNatClampNeg (iZ (gz Afq60 v3_60)) := ⟨_, rfl⟩
                rw [← hf_53] at hP hD
                refine lv_iinc (v := iZ (v3_60 + 1)) (lv' := [(3, .int (iZ (v3_60 + 1))), (0, .ref hm), (1, .int (iZ x1)), (2, .int (iZ x2))]) hx hb dX12_mean_83 hl (k := 0) rfl (iZ_add v3_60 1) (by decide) rfl (fun ls hl => ?_)
                refine lv_goto (tgt := 60) hx hb dX12_mean_86 (by decide) ?_
                exact ih60  (v3_60 + 1) f_53 _ _ _ (by omega) (show (0 ≤ (v3_60 + 1) ∧ (v3_60 + 1) ≤ (519) + 1) from ⟨by omega, by omega⟩) (show ∀ e : Int, 0 ≤ e → e < (v3_60 + 1) → gz f_53 (4450 + e) = gz Af e from (fun e h1 h2 => by have c1 := gz_upc (j := 4450 + e) hf_53 ⟨by omega, by omega⟩ ⟨by omega, by omega⟩ (by omega); rcases Int.lt_or_eq_of_le (show e ≤ v3_60 by omega) with h3 | h3; have := hw1 e h1 h3; omega; rw [h3] at c1 ⊢; have c2 := hk1 v3_60 (by omega) (by omega); omega)) (show ∀ e : Int, 0 ≤ e → e < 4450 → gz f_53 e = gz Af e from (fun e h1 h2 => by have c1 := gz_upc (j := e) hf_53 ⟨by omega, by omega⟩ ⟨by omega, by omega⟩ (by omega); have := hk1 e h1 h2; omega)) (hP.sub [0, 1, 2, 3, 4, 5, 6, 7] rfl) (hD.sub [0, 1, 2, 3, 4, 5, 6, 7] rfl rfl) hS (lv_sub hl [0, 1, 2, 3] rfl)
          exact HL60 523 0 Af _ _ _ (by omega) (show (0 ≤ 0 ∧ 0 ≤ (519) + 1) from ⟨by omega, by omega⟩) (show ∀ e : Int, 0 ≤ e → e < 0 → gz Af (4450 + e) = gz Af e from (fun e h1 h2 => absurd h1 (by omega))) (show ∀ e : Int, 0 ≤ e → e < 4450 → gz Af e = gz Af e from (fun e h1 h2 => rfl)) (hP.sub [0, 1, 2, 3, 4, 5, 6, 7] rfl) (hD.sub [0, 1, 2, 3, 4, 5, 6, 7] rfl rfl) hS (lv_sub hl [0, 1, 2, 3] rfl)
        ·
          have c_16 := (zeq (x := iZ (gz Af 5)) (y := iZ (-1)) rfl rfl ⟨by omega, by omega⟩ ⟨by omega, by omega⟩).mp c_16
          refine lv_aload_n hx hb dX12_mean_51 rfl (lv_at hl 0 rfl) ?_
          refine lv_bipush (v := iZ 6) hx hb dX12_mean_52 (by decide) ?_
          refine CWV (As := [.int (iZ 6)]) (rest := []) (wc := [(hm, .inr (12, [.ref Ma, .ref Mn, .int (iZ Mst), .long Mtp, .long Mbt, .ref Ms, .ref My, .ref Mt, .ref Mp, .ref Mx, .int (iZ Mtd), .int (iZ Msz), .int (iZ Mtk), .int (iZ Mfr), .int (iZ Men), .int (iZ Mva), .int (iZ Mfk), .int (iZ Mfp), .int (iZ Mfs), .int (iZ Mse), .int (iZ Mlt), .ref Mo, .int (iZ Mdp), .int (iZ Mct), .ref Mk, .ref Ml, .ref Mb, .ref Mh, .ref Mc, .int (iZ Mdr), .int (iZ Mrs), .ref Mz, .ref Mr, .ref Mq, .int (iZ Mit), .int (iZ Mmk)]))]) (wr := [(Ma, .inl (k 1, 5340, .inl Af)), (Mk, .inl (k 1, 6, .inl Kf)), (Ml, .inl (k 1, 6, .inl Lf)), (Mb, .inl (k 1, 6, .inl Bf)), (Mh, .inl (k 1, 120, .inl Hf)), (Mz, .inl (k 1, 80, .inl Zf)), (Mr, .inl (k 1, 5, .inl Rf))]) hx hb hml hown hts hKK hP hD hS hA (m_isN l D k hm Ma Mn Ms My Mt Mp Mx Mo Mk Ml Mb Mh Mc Mz Mr Mq Mst Mtd Msz Mtk Mfr Men Mva Mfk Mfp Mfs Mse Mlt Mdp Mct Mdr Mrs Mit Mmk Mtp Mbt 6 ⟨by omega, by omega⟩ (by omega)) ci_X12_is qm_X12_89 ⟨Nat.le_of_ble_eq_true rfl, Nat.le_of_ble_eq_true rfl⟩ ⟨Nat.le_of_ble_eq_true rfl, Nat.le_of_ble_eq_true rfl⟩ [0] [1, 2, 3, 4, 5, 6, 7] rfl rfl rfl rfl rfl (by decide) 0 rfl rfl rfl hl.1 rfl (Nat.le_of_ble_eq_true rfl) dX12_mean_54 (fun u_54 H locs hφ hP hD hS => ?_)
          obtain ⟨I_55, L_56, F_57, G_58⟩ := u_54
          refine W.eq (g2 := F0 m 57 ls [.int (iZ 0)]) rfl ?_
          exact EWz hx hb hr hlocks hS (fun i => [0, 6, Mdr, Mrs].getD i 0, fun i => [0, Mtp, Mbt].getD i 0, fun i => [Af, Kf, Lf, Bf, Hf, Zf, Rf].getD i (fun _ => 0), fun i => [].getD i (fun _ => 0)) rfl rfl ⟨(show M0 Af from hM), (show ∀ e : Int, 520 ≤ e → e < 4450 → gz Af e = gz Af e from (fun e h1 h2 => rfl)), (show 0 ≤ Mdr ∧ Mdr ≤ 65535 from (by omega)), (show rgI Hf 0 1000000 120 from rgH)⟩ (hP.sub [7, 0, 1, 2, 3, 4, 5, 6] rfl) (hD.sub [7, 0, 1, 2, 3, 4, 5, 6] rfl rfl) dX12_mean_57
      ·
        have c_13 := mt (zle (x := iZ ((x1 + x2) - 1)) (y := iZ 9999) rfl rfl ⟨by omega, by omega⟩ ⟨by omega, by omega⟩).mpr c_13
        refine lv_aload_n hx hb dX12_mean_35 rfl (lv_at hl 0 rfl) ?_
        refine lv_iconst (v := iZ 1) hx hb dX12_mean_36 (by decide) ?_
        refine CWV (As := [.int (iZ 1)]) (rest := []) (wc := [(hm, .inr (12, [.ref Ma, .ref Mn, .int (iZ Mst), .long Mtp, .long Mbt, .ref Ms, .ref My, .ref Mt, .ref Mp, .ref Mx, .int (iZ Mtd), .int (iZ Msz), .int (iZ Mtk), .int (iZ Mfr), .int (iZ Men), .int (iZ Mva), .int (iZ Mfk), .int (iZ Mfp), .int (iZ Mfs), .int (iZ Mse), .int (iZ Mlt), .ref Mo, .int (iZ Mdp), .int (iZ Mct), .ref Mk, .ref Ml, .ref Mb, .ref Mh, .ref Mc, .int (iZ Mdr), .int (iZ Mrs), .ref Mz, .ref Mr, .ref Mq, .int (iZ Mit), .int (iZ Mmk)]))]) (wr := [(Ma, .inl (k 1, 5340, .inl Af)), (Mk, .inl (k 1, 6, .inl Kf)), (Ml, .inl (k 1, 6, .inl Lf)), (Mb, .inl (k 1, 6, .inl Bf)), (Mh, .inl (k 1, 120, .inl Hf)), (Mz, .inl (k 1, 80, .inl Zf)), (Mr, .inl (k 1, 5, .inl Rf))]) hx hb hml hown hts hKK hP hD hS hA (m_isN l D k hm Ma Mn Ms My Mt Mp Mx Mo Mk Ml Mb Mh Mc Mz Mr Mq Mst Mtd Msz Mtk Mfr Men Mva Mfk Mfp Mfs Mse Mlt Mdp Mct Mdr Mrs Mit Mmk Mtp Mbt 1 ⟨by omega, by omega⟩ (by omega)) ci_X12_is qm_X12_89 ⟨Nat.le_of_ble_eq_true rfl, Nat.le_of_ble_eq_true rfl⟩ ⟨Nat.le_of_ble_eq_true rfl, Nat.le_of_ble_eq_true rfl⟩ [0] [1, 2, 3, 4, 5, 6, 7] rfl rfl rfl rfl rfl (by decide) 0 rfl rfl rfl hl.1 rfl (Nat.le_of_ble_eq_true rfl) dX12_mean_37 (fun u_60 H locs hφ hP hD hS => ?_)
        obtain ⟨I_61, L_62, F_63, G_64⟩ := u_60
        refine W.eq (g2 := F0 m 40 ls [.int (iZ 0)]) rfl ?_
        exact EWz hx hb hr hlocks hS (fun i => [0, 1, Mdr, Mrs].getD i 0, fun i => [0, Mtp, Mbt].getD i 0, fun i => [Af, Kf, Lf, Bf, Hf, Zf, Rf].getD i (fun _ => 0), fun i => [].getD i (fun _ => 0)) rfl rfl ⟨(show M0 Af from hM), (show ∀ e : Int, 520 ≤ e → e < 4450 → gz Af e = gz Af e from (fun e h1 h2 => rfl)), (show 0 ≤ Mdr ∧ Mdr ≤ 65535 from (by omega)), (show rgI Hf 0 1000000 120 from rgH)⟩ (hP.sub [7, 0, 1, 2, 3, 4, 5, 6] rfl) (hD.sub [7, 0, 1, 2, 3, 4, 5, 6] rfl rfl) dX12_mean_40
    ·
      subst qz_6
      refine lv_if_eq (tgt := 35) hx hb dX12_mean_21 (by decide) (fun _ => ?_) (fun c => absurd (by decide) c)
      refine lv_aload_n hx hb dX12_mean_35 rfl (lv_at hl 0 rfl) ?_
      refine lv_iconst (v := iZ 1) hx hb dX12_mean_36 (by decide) ?_
      refine CWV (As := [.int (iZ 1)]) (rest := []) (wc := [(hm, .inr (12, [.ref Ma, .ref Mn, .int (iZ Mst), .long Mtp, .long Mbt, .ref Ms, .ref My, .ref Mt, .ref Mp, .ref Mx, .int (iZ Mtd), .int (iZ Msz), .int (iZ Mtk), .int (iZ Mfr), .int (iZ Men), .int (iZ Mva), .int (iZ Mfk), .int (iZ Mfp), .int (iZ Mfs), .int (iZ Mse), .int (iZ Mlt), .ref Mo, .int (iZ Mdp), .int (iZ Mct), .ref Mk, .ref Ml, .ref Mb, .ref Mh, .ref Mc, .int (iZ Mdr), .int (iZ Mrs), .ref Mz, .ref Mr, .ref Mq, .int (iZ Mit), .int (iZ Mmk)]))]) (wr := [(Ma, .inl (k 1, 5340, .inl Af)), (Mk, .inl (k 1, 6, .inl Kf)), (Ml, .inl (k 1, 6, .inl Lf)), (Mb, .inl (k 1, 6, .inl Bf)), (Mh, .inl (k 1, 120, .inl Hf)), (Mz, .inl (k 1, 80, .inl Zf)), (Mr, .inl (k 1, 5, .inl Rf))]) hx hb hml hown hts hKK hP hD hS hA (m_isN l D k hm Ma Mn Ms My Mt Mp Mx Mo Mk Ml Mb Mh Mc Mz Mr Mq Mst Mtd Msz Mtk Mfr Men Mva Mfk Mfp Mfs Mse Mlt Mdp Mct Mdr Mrs Mit Mmk Mtp Mbt 1 ⟨by omega, by omega⟩ (by omega)) ci_X12_is qm_X12_89 ⟨Nat.le_of_ble_eq_true rfl, Nat.le_of_ble_eq_true rfl⟩ ⟨Nat.le_of_ble_eq_true rfl, Nat.le_of_ble_eq_true rfl⟩ [0] [1, 2, 3, 4, 5, 6, 7] rfl rfl rfl rfl rfl (by decide) 0 rfl rfl rfl hl.1 rfl (Nat.le_of_ble_eq_true rfl) dX12_mean_37 (fun u_67 H locs hφ hP hD hS => ?_)
      obtain ⟨I_68, L_69, F_70, G_71⟩ := u_67
      refine W.eq (g2 := F0 m 40 ls [.int (iZ 0)]) rfl ?_
      exact EWz hx hb hr hlocks hS (fun i => [0, 1, Mdr, Mrs].getD i 0, fun i => [0, Mtp, Mbt].getD i 0, fun i => [Af, Kf, Lf, Bf, Hf, Zf, Rf].getD i (fun _ => 0), fun i => [].getD i (fun _ => 0)) rfl rfl ⟨(show M0 Af from hM), (show ∀ e : Int, 520 ≤ e → e < 4450 → gz Af e = gz Af e from (fun e h1 h2 => rfl)), (show 0 ≤ Mdr ∧ Mdr ≤ 65535 from (by omega)), (show rgI Hf 0 1000000 120 from rgH)⟩ (hP.sub [7, 0, 1, 2, 3, 4, 5, 6] rfl) (hD.sub [7, 0, 1, 2, 3, 4, 5, 6] rfl rfl) dX12_mean_40
  ·
    subst qz_1
    refine lv_if_eq (tgt := 35) hx hb dX12_mean_9 (by decide) (fun _ => ?_) (fun c => absurd (by decide) c)
    refine lv_aload_n hx hb dX12_mean_35 rfl (lv_at hl 0 rfl) ?_
    refine lv_iconst (v := iZ 1) hx hb dX12_mean_36 (by decide) ?_
    refine CWV (As := [.int (iZ 1)]) (rest := []) (wc := [(hm, .inr (12, [.ref Ma, .ref Mn, .int (iZ Mst), .long Mtp, .long Mbt, .ref Ms, .ref My, .ref Mt, .ref Mp, .ref Mx, .int (iZ Mtd), .int (iZ Msz), .int (iZ Mtk), .int (iZ Mfr), .int (iZ Men), .int (iZ Mva), .int (iZ Mfk), .int (iZ Mfp), .int (iZ Mfs), .int (iZ Mse), .int (iZ Mlt), .ref Mo, .int (iZ Mdp), .int (iZ Mct), .ref Mk, .ref Ml, .ref Mb, .ref Mh, .ref Mc, .int (iZ Mdr), .int (iZ Mrs), .ref Mz, .ref Mr, .ref Mq, .int (iZ Mit), .int (iZ Mmk)]))]) (wr := [(Ma, .inl (k 1, 5340, .inl Af)), (Mk, .inl (k 1, 6, .inl Kf)), (Ml, .inl (k 1, 6, .inl Lf)), (Mb, .inl (k 1, 6, .inl Bf)), (Mh, .inl (k 1, 120, .inl Hf)), (Mz, .inl (k 1, 80, .inl Zf)), (Mr, .inl (k 1, 5, .inl Rf))]) hx hb hml hown hts hKK hP hD hS hA (m_isN l D k hm Ma Mn Ms My Mt Mp Mx Mo Mk Ml Mb Mh Mc Mz Mr Mq Mst Mtd Msz Mtk Mfr Men Mva Mfk Mfp Mfs Mse Mlt Mdp Mct Mdr Mrs Mit Mmk Mtp Mbt 1 ⟨by omega, by omega⟩ (by omega)) ci_X12_is qm_X12_89 ⟨Nat.le_of_ble_eq_true rfl, Nat.le_of_ble_eq_true rfl⟩ ⟨Nat.le_of_ble_eq_true rfl, Nat.le_of_ble_eq_true rfl⟩ [0] [1, 2, 3, 4, 5, 6, 7] rfl rfl rfl rfl rfl (by decide) 0 rfl rfl rfl hl.1 rfl (Nat.le_of_ble_eq_true rfl) dX12_mean_37 (fun u_74 H locs hφ hP hD hS => ?_)
    obtain ⟨I_75, L_76, F_77, G_78⟩ := u_74
    refine W.eq (g2 := F0 m 40 ls [.int (iZ 0)]) rfl ?_
    exact EWz hx hb hr hlocks hS (fun i => [0, 1, Mdr, Mrs].getD i 0, fun i => [0, Mtp, Mbt].getD i 0, fun i => [Af, Kf, Lf, Bf, Hf, Zf, Rf].getD i (fun _ => 0), fun i => [].getD i (fun _ => 0)) rfl rfl ⟨(show M0 Af from hM), (show ∀ e : Int, 520 ≤ e → e < 4450 → gz Af e = gz Af e from (fun e h1 h2 => rfl)), (show 0 ≤ Mdr ∧ Mdr ≤ 65535 from (by omega)), (show rgI Hf 0 1000000 120 from rgH)⟩ (hP.sub [7, 0, 1, 2, 3, 4, 5, 6] rfl) (hD.sub [7, 0, 1, 2, 3, 4, 5, 6] rfl rfl) dX12_mean_40
