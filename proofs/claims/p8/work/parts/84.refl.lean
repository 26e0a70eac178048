set_option maxHeartbeats 4000000 in
set_option maxRecDepth 100000 in
theorem m_lives (l : Launch) (D : va_G) (k : Nat → ClassId) (hm : Nat) (Ma : Nat) (Mn : Nat) (Ms : Nat) (My : Nat) (Mt : Nat) (Mp : Nat) (Mx : Nat) (Mo : Nat) (Mk : Nat) (Ml : Nat) (Mb : Nat) (Mh : Nat) (Mc : Nat) (Mz : Nat) (Mr : Nat) (Mq : Nat) (Mst : Int) (Mtd : Int) (Msz : Int) (Mtk : Int) (Mfr : Int) (Men : Int) (Mva : Int) (Mfk : Int) (Mfp : Int) (Mfs : Int) (Mse : Int) (Mlt : Int) (Mdp : Int) (Mct : Int) (Mdr : Int) (Mrs : Int) (Mit : Int) (Mmk : Int) (Mtp : Int64) (Mbt : Int64) (Af : Nat → Int32) (Kf : Nat → Int32) (Lf : Nat → Int32) (Bf : Nat → Int32) (Hf : Nat → Int32) (Zf : Nat → Int32) (Rf : Nat → Int32) (x : Int) (hM : M0 Af) (h9x : 0 ≤ x ∧ x ≤ 65535) (rgH : rgI Hf 0 1000000 120) : WD (σ := ((Nat → Int) × (Nat → Int64) × (Nat → Nat → Int32) × (Nat → Nat → Int64))) l yX12_lives cX12_lives 4 none 9 0 0 D k [.ref hm, .int (iZ x)] [(hm, .inr (12, [.ref Ma, .ref Mn, .int (iZ Mst), .long Mtp, .long Mbt, .ref Ms, .ref My, .ref Mt, .ref Mp, .ref Mx, .int (iZ Mtd), .int (iZ Msz), .int (iZ Mtk), .int (iZ Mfr), .int (iZ Men), .int (iZ Mva), .int (iZ Mfk), .int (iZ Mfp), .int (iZ Mfs), .int (iZ Mse), .int (iZ Mlt), .ref Mo, .int (iZ Mdp), .int (iZ Mct), .ref Mk, .ref Ml, .ref Mb, .ref Mh, .ref Mc, .int (iZ Mdr), .int (iZ Mrs), .ref Mz, .ref Mr, .ref Mq, .int (iZ Mit), .int (iZ Mmk)])), (Ma, .inl (k 1, 5340, .inl Af)), (Mk, .inl (k 1, 6, .inl Kf)), (Ml, .inl (k 1, 6, .inl Lf)), (Mb, .inl (k 1, 6, .inl Bf)), (Mh, .inl (k 1, 120, .inl Hf)), (Mz, .inl (k 1, 80, .inl Zf)), (Mr, .inl (k 1, 5, .inl Rf))] (fun _ => none) (fun u => (M0 (u.2.2.1 0)) ∧ (FR (u.2.2.1 0) Af) ∧ (0 ≤ (u.1 1) ∧ (u.1 1) ≤ 65535) ∧ (rgI (u.2.2.1 4) 0 1000000 120) ∧ (0 ≤ (u.1 2) ∧ (u.1 2) ≤ 200)) (fun u => [(hm, .inr (12, [.ref Ma, .ref Mn, .int (iZ Mst), .long Mtp, .long Mbt, .ref Ms, .ref My, .ref Mt, .ref Mp, .ref Mx, .int (iZ Mtd), .int (iZ Msz), .int (iZ Mtk), .int (iZ Mfr), .int (iZ Men), .int (iZ Mva), .int (iZ Mfk), .int (iZ Mfp), .int (iZ Mfs), .int (iZ Mse), .int (iZ Mlt), .ref Mo, .int (iZ Mdp), .int (iZ Mct), .ref Mk, .ref Ml, .ref Mb, .ref Mh, .ref Mc, .int (iZ (u.1 1)), .int (iZ (u.1 2)), .ref Mz, .ref Mr, .ref Mq, .int (iZ Mit), .int (iZ Mmk)])), (Ma, .inl (k 1, 5340, .inl (u.2.2.1 0))), (Mk, .inl (k 1, 6, .inl (u.2.2.1 1))), (Ml, .inl (k 1, 6, .inl (u.2.2.1 2))), (Mb, .inl (k 1, 6, .inl (u.2.2.1 3))), (Mh, .inl (k 1, 120, .inl (u.2.2.1 4))), (Mz, .inl (k 1, 80, .inl (u.2.2.1 5))), (Mr, .inl (k 1, 5, .inl (u.2.2.1 6)))]) := by
  refine MW (by decide) (Nat.le_of_ble_eq_true rfl) (fun p e s m below meth c ls A hx hb hml hr hlocks hin hts hown hKK hP hD hS hA hl => ?_)
  have hK := hKK.1
  have hl : lv_has ls 4 [(0, .ref hm), (1, .int (iZ x))] := hl
  obtain ⟨m0, m1, m3, m4, m5, mF, mO, mS⟩ := id hM
  refine lv_aload_n hx hb dX12_lives_0 rfl (lv_at hl 0 rfl) ?_
  refine lv_iload_n hx hb dX12_lives_1 rfl (lv_at hl 1 rfl) ?_
  refine va_put (D := D) (ci := 12) (v := .int (iZ x)) (ty := .int) (C := RX12) (T := TX12) (N := 36) hx hb hts iX12 tyX12 tyX12_ok nmX12 hown hK hP hD hS 0 rfl rfl 29 (by decide) (hts _ qf_X12_380) (fun _ h => h) rfl (by decide +kernel) rfl rfl (Nat.le_of_ble_eq_true rfl) dX12_lives_2 (fun H locs hP hD hS => ?_)
  refine lv_aload_n hx hb dX12_lives_5 rfl (lv_at hl 0 rfl) ?_
  refine lv_iconst (v := iZ 0) hx hb dX12_lives_6 (by decide) ?_
  refine va_put (D := D) (ci := 12) (v := .int (iZ 0)) (ty := .int) (C := RX12) (T := TX12) (N := 36) hx hb hts iX12 tyX12 tyX12_ok nmX12 hown hK hP hD hS 0 rfl rfl 30 (by decide) (hts _ qf_X12_387) (fun _ h => h) rfl (by decide +kernel) rfl rfl (Nat.le_of_ble_eq_true rfl) dX12_lives_7 (fun H locs hP hD hS => ?_)
  refine lv_iconst (v := iZ 0) hx hb dX12_lives_10 (by decide) ?_
  refine lv_istore_n (lv' := [(2, .int (iZ 0)), (0, .ref hm), (1, .int (iZ x))]) hx hb dX12_lives_11 rfl hl (by decide) rfl (fun ls hl => ?_)
  have HL12 : ∀ (fu : Nat) (v2_12 : Int) (Rfq12 : Nat → Int32) (H : Heap) (locs : List Loc) (ls : Array Slot), ((4) + 2 - v2_12) < (fu : Int) → ((0 ≤ v2_12 ∧ v2_12 ≤ (4) + 1)) → va_P D vwCl [(hm, .inr (12, [.ref Ma, .ref Mn, .int (iZ Mst), .long Mtp, .long Mbt, .ref Ms, .ref My, .ref Mt, .ref Mp, .ref Mx, .int (iZ Mtd), .int (iZ Msz), .int (iZ Mtk), .int (iZ Mfr), .int (iZ Men), .int (iZ Mva), .int (iZ Mfk), .int (iZ Mfp), .int (iZ Mfs), .int (iZ Mse), .int (iZ Mlt), .ref Mo, .int (iZ Mdp), .int (iZ Mct), .ref Mk, .ref Ml, .ref Mb, .ref Mh, .ref Mc, .int (iZ x), .int (iZ 0), .ref Mz, .ref Mr, .ref Mq, .int (iZ Mit), .int (iZ Mmk)])), (Ma, .inl (k 1, 5340, .inl Af)), (Mk, .inl (k 1, 6, .inl Kf)), (Ml, .inl (k 1, 6, .inl Lf)), (Mb, .inl (k 1, 6, .inl Bf)), (Mh, .inl (k 1, 120, .inl Hf)), (Mz, .inl (k 1, 80, .inl Zf)), (Mr, .inl (k 1, 5, .inl Rfq12))] H → va_D A [(hm, .inr (12, [.ref Ma, .ref Mn, .int (iZ Mst), .long Mtp, .long Mbt, .ref Ms, .ref My, .ref Mt, .ref Mp, .ref Mx, .int (iZ Mtd), .int (iZ Msz), .int (iZ Mtk), .int (iZ Mfr), .int (iZ Men), .int (iZ Mva), .int (iZ Mfk), .int (iZ Mfp), .int (iZ Mfs), .int (iZ Mse), .int (iZ Mlt), .ref Mo, .int (iZ Mdp), .int (iZ Mct), .ref Mk, .ref Ml, .ref Mb, .ref Mh, .ref Mc, .int (iZ x), .int (iZ 0), .ref Mz, .ref Mr, .ref Mq, .int (iZ Mit), .int (iZ Mmk)])), (Ma, .inl (k 1, 5340, .inl Af)), (Mk, .inl (k 1, 6, .inl Kf)), (Ml, .inl (k 1, 6, .inl Lf)), (Mb, .inl (k 1, 6, .inl Bf)), (Mh, .inl (k 1, 120, .inl Hf)), (Mz, .inl (k 1, 80, .inl Zf)), (Mr, .inl (k 1, 5, .inl Rfq12))] → va_S A s.heap H locs → lv_has ls 4 [(2, .int (iZ v2_12)), (0, .ref hm), (1, .int (iZ x))] → W p l e (rj 9 0 0) s m [.ref hm, .int (iZ x)].toArray below meth c H locs 0 0 (MQ below (QW (σ := ((Nat → Int) × (Nat → Int64) × (Nat → Nat → Int32) × (Nat → Nat → Int64))) (fun _ => none) (fun u => (M0 (u.2.2.1 0)) ∧ (FR (u.2.2.1 0) Af) ∧ (0 ≤ (u.1 1) ∧ (u.1 1) ≤ 65535) ∧ (rgI (u.2.2.1 4) 0 1000000 120) ∧ (0 ≤ (u.1 2) ∧ (u.1 2) ≤ 200)) (fun u => [(hm, .inr (12, [.ref Ma, .ref Mn, .int (iZ Mst), .long Mtp, .long Mbt, .ref Ms, .ref My, .ref Mt, .ref Mp, .ref Mx, .int (iZ Mtd), .int (iZ Msz), .int (iZ Mtk), .int (iZ Mfr), .int (iZ Men), .int (iZ Mva), .int (iZ Mfk), .int (iZ Mfp), .int (iZ Mfs), .int (iZ Mse), .int (iZ Mlt), .ref Mo, .int (iZ Mdp), .int (iZ Mct), .ref Mk, .ref Ml, .ref Mb, .ref Mh, .ref Mc, .int (iZ (u.1 1)), .int (iZ (u.1 2)), .ref Mz, .ref Mr, .ref Mq, .int (iZ Mit), .int (iZ Mmk)])), (Ma, .inl (k 1, 5340, .inl (u.2.2.1 0))), (Mk, .inl (k 1, 6, .inl (u.2.2.1 1))), (Ml, .inl (k 1, 6, .inl (u.2.2.1 2))), (Mb, .inl (k 1, 6, .inl (u.2.2.1 3))), (Mh, .inl (k 1, 120, .inl (u.2.2.1 4))), (Mz, .inl (k 1, 80, .inl (u.2.2.1 5))), (Mr, .inl (k 1, 5, .inl (u.2.2.1 6)))]) D A) [.ref hm, .int (iZ x)].toArray s 0 0 A) (F0 m 12 ls []) := by
    intro fu
    induction fu with
    | zero => intro v2_12 Rfq12 H locs ls hμ12 hi12 hP hD hS hl; exact absurd hμ12 (by omega)
    | succ fu ih12 =>
      intro v2_12 Rfq12 H locs ls hμ12 hi12 hP hD hS hl
      refine lv_iload_n hx hb dX12_lives_12 rfl (lv_at hl 0 rfl) ?_
      refine lv_iconst (v := iZ 5) hx hb dX12_lives_13 (by decide) ?_
      refine lv_icmp_ge (tgt := 30) hx hb dX12_lives_14 (by decide) (fun c_1 => ?_) (fun c_1 => ?_)
      ·
        have c_1 := (zle (x := iZ 5) (y := iZ v2_12) rfl rfl ⟨by omega, by omega⟩ ⟨by omega, by omega⟩).mp c_1
        refine lv_iconst (v := iZ 0) hx hb dX12_lives_30 (by decide) ?_
        refine lv_istore_n (lv' := [(2, .int (iZ 0)), (0, .ref hm), (1, .int (iZ x))]) hx hb dX12_lives_31 rfl hl (by decide) rfl (fun ls hl => ?_)
        have HL32 : ∀ (fu : Nat) (v2_32 : Int) (Mdrq32 : Int) (Mrsq32 : Int) (Afq32 : Nat → Int32) (Kfq32 : Nat → Int32) (Lfq32 : Nat → Int32) (Bfq32 : Nat → Int32) (Hfq32 : Nat → Int32) (Zfq32 : Nat → Int32) (Rfq32 : Nat → Int32) (H : Heap) (locs : List Loc) (ls : Array Slot), (201 - Mrsq32) < (fu : Int) → ((0 ≤ v2_32 ∧ v2_32 ≤ (60) + 1)) → (0 ≤ Mrsq32 ∧ Mrsq32 ≤ 200) → (0 ≤ Mdrq32 ∧ Mdrq32 ≤ 65535) → (rgI Hfq32 0 1000000 120) → (M0 Afq32) → (FR Afq32 Af) → va_P D vwCl [(hm, .inr (12, [.ref Ma, .ref Mn, .int (iZ Mst), .long Mtp, .long Mbt, .ref Ms, .ref My, .ref Mt, .ref Mp, .ref Mx, .int (iZ Mtd), .int (iZ Msz), .int (iZ Mtk), .int (iZ Mfr), .int (iZ Men), .int (iZ Mva), .int (iZ Mfk), .int (iZ Mfp), .int (iZ Mfs), .int (iZ Mse), .int (iZ Mlt), .ref Mo, .int (iZ Mdp), .int (iZ Mct), .ref Mk, .ref Ml, .ref Mb, .ref Mh, .ref Mc, .int (iZ Mdrq32), .int (iZ Mrsq32), .ref Mz, .ref Mr, .ref Mq, .int (iZ Mit), .int (iZ Mmk)])), (Ma, .inl (k 1, 5340, .inl Afq32)), (Mk, .inl (k 1, 6, .inl Kfq32)), (Ml, .inl (k 1, 6, .inl Lfq32)), (Mb, .inl (k 1, 6, .inl Bfq32)), (Mh, .inl (k 1, 120, .inl Hfq32)), (Mz, .inl (k 1, 80, .inl Zfq32)), (Mr, .inl (k 1, 5, .inl Rfq32))] H → va_D A [(hm, .inr (12, [.ref Ma, .ref Mn, .int (iZ Mst), .long Mtp, .long Mbt, .ref Ms, .ref My, .ref Mt, .ref Mp, .ref Mx, .int (iZ Mtd), .int (iZ Msz), .int (iZ Mtk), .int (iZ Mfr), .int (iZ Men), .int (iZ Mva), .int (iZ Mfk), .int (iZ Mfp), .int (iZ Mfs), .int (iZ Mse), .int (iZ Mlt), .ref Mo, .int (iZ Mdp), .int (iZ Mct), .ref Mk, .ref Ml, .ref Mb, .ref Mh, .ref Mc, .int (iZ Mdrq32), .int (iZ Mrsq32), .ref Mz, .ref Mr, .ref Mq, .int (iZ Mit), .int (iZ Mmk)])), (Ma, .inl (k 1, 5340, .inl Afq32)), (Mk, .inl (k 1, 6, .inl Kfq32)), (Ml, .inl (k 1, 6, .inl Lfq32)), (Mb, .inl (k 1, 6, .inl Bfq32)), (Mh, .inl (k 1, 120, .inl Hfq32)), (Mz, .inl (k 1, 80, .inl Zfq32)), (Mr, .inl (k 1, 5, .inl Rfq32))] → va_S A s.heap H locs → lv_has ls 4 [(2, .int (iZ v2_32)), (0, .ref hm), (1, .int (iZ x))] → W p l e (rj 9 0 0) s m [.ref hm, .int (iZ x)].toArray below meth c H locs 0 0 (MQ below (QW (σ := ((Nat → Int) × (Nat → Int64) × (Nat → Nat → Int32) × (Nat → Nat → Int64))) (fun _ => none) (fun u => (M0 (u.2.2.1 0)) ∧ (FR (u.2.2.1 0) Af) ∧ (0 ≤ (u.1 1) ∧ (u.1 1) ≤ 65535) ∧ (rgI (u.2.2.1 4) 0 1000000 120) ∧ (0 ≤ (u.1 2) ∧ (u.1 2) ≤ 200)) (fun u => [(hm, .inr (12, [.ref Ma, .ref Mn, .int (iZ Mst), .long Mtp, .long Mbt, .ref Ms, .ref My, .ref Mt, .ref Mp, .ref Mx, .int (iZ Mtd), .int (iZ Msz), .int (iZ Mtk), .int (iZ Mfr), .int (iZ Men), .int (iZ Mva), .int (iZ Mfk), .int (iZ Mfp), .int (iZ Mfs), .int (iZ Mse), .int (iZ Mlt), .ref Mo, .int (iZ Mdp), .int (iZ Mct), .ref Mk, .ref Ml, .ref Mb, .ref Mh, .ref Mc, .int (iZ (u.1 1)), .int (iZ (u.1 2)), .ref Mz, .ref Mr, .ref Mq, .int (iZ Mit), .int (iZ Mmk)])), (Ma, .inl (k 1, 5340, .inl (u.2.2.1 0))), (Mk, .inl (k 1, 6, .inl (u.2.2.1 1))), (Ml, .inl (k 1, 6, .inl (u.2.2.1 2))), (Mb, .inl (k 1, 6, .inl (u.2.2.1 3))), (Mh, .inl (k 1, 120, .inl (u.2.2.1 4))), (Mz, .inl (k 1, 80, .inl (u.2.2.1 5))), (Mr, .inl (k 1, 5, .inl (u.2.2.1 6)))]) D A) [.ref hm, .int (iZ x)].toArray s 0 0 A) (F0 m 32 ls []) := by
          intro fu
          induction fu with
          | zero => intro v2_32 Mdrq32 Mrsq32 Afq32 Kfq32 Lfq32 Bfq32 Hfq32 Zfq32 Rfq32 H locs ls hμ32 hi32 hrs2 hdr2 rgh2 hM32 hF32 hP hD hS hl; exact absurd hμ32 (by omega)
          | succ fu ih32 =>
            intro v2_32 Mdrq32 Mrsq32 Afq32 Kfq32 Lfq32 Bfq32 Hfq32 Zfq32 Rfq32 H locs ls hμ32 hi32 hrs2 hdr2 rgh2 hM32 hF32 hP hD hS hl
            obtain ⟨m0l32, m1l32, m3l32, m4l32, m5l32, mFl32, mOl32, mSl32⟩ := id hM32
            have frl32 := FR.z hF32
            refine lv_iload_n hx hb dX12_lives_32 rfl (lv_at hl 0 rfl) ?_
            refine lv_aload_n hx hb dX12_lives_33 rfl (lv_at hl 1 rfl) ?_
            refine va_get (D := D) (ci := 12) (v := .ref Ma) (C := RX12) (T := TX12) (N := 36) hx hb hts iX12 hown hK hP 0 rfl rfl 0 (by decide) (hts _ qf_X12_7) (fun _ h => h) rfl dX12_lives_34 ?_
            refine lv_iconst (v := iZ 5) hx hb dX12_lives_37 (by decide) ?_
            refine va_iald hx hb hK hP 1 1 rfl rfl (zin (e := 5) (n := 5340) ⟨by omega, by omega⟩ (by decide)) dX12_lives_38 ?_
            refine lv_topi (fun x_2 ex_2 => ?_)
            obtain rfl : x_2 = iZ (gz Afq32 5) := ex_2.trans (gz_eq ⟨by omega, by omega⟩)
            have h_3 := gz_rg Afq32 5
            refine lv_icmp_ge (tgt := 184) hx hb dX12_lives_39 (by decide) (fun c_4 => ?_) (fun c_4 => ?_)
            ·
              have c_4 := (zle (x := iZ (gz Afq32 5)) (y := iZ v2_32) rfl rfl ⟨by omega, by omega⟩ ⟨by omega, by omega⟩).mp c_4
              exact EWv hx hb hr hlocks hS (fun i => [0, Mdrq32, Mrsq32].getD i 0, fun i => [0].getD i 0, fun i => [Afq32, Kfq32, Lfq32, Bfq32, Hfq32, Zfq32, Rfq32].getD i (fun _ => 0), fun i => [].getD i (fun _ => 0)) rfl ⟨(show M0 Afq32 from hM32), (show FR Afq32 Af from hF32), (show 0 ≤ Mdrq32 ∧ Mdrq32 ≤ 65535 from (by omega)), (show rgI Hfq32 0 1000000 120 from rgh2), (show 0 ≤ Mrsq32 ∧ Mrsq32 ≤ 200 from (by omega))⟩ (hP.sub [0, 1, 2, 3, 4, 5, 6, 7] rfl) (hD.sub [0, 1, 2, 3, 4, 5, 6, 7] rfl rfl) dX12_lives_184
            ·
              have c_4 := mt (zle (x := iZ (gz Afq32 5)) (y := iZ v2_32) rfl rfl ⟨by omega, by omega⟩ ⟨by omega, by omega⟩).mpr c_4
              refine lv_aload_n hx hb dX12_lives_42 rfl (lv_at hl 1 rfl) ?_
              refine va_get (D := D) (ci := 12) (v := .int (iZ Mrsq32)) (C := RX12) (T := TX12) (N := 36) hx hb hts iX12 hown hK hP 0 rfl rfl 30 (by decide) (hts _ qf_X12_387) (fun _ h => h) rfl dX12_lives_43 ?_
              refine lv_sipush (v := iZ 200) hx hb dX12_lives_46 (by decide) ?_
              refine lv_icmp_ne (tgt := 60) hx hb dX12_lives_49 (by decide) (fun c_5 => ?_) (fun c_5 => ?_)
              ·
                have c_5 := mt (zeq (x := iZ Mrsq32) (y := iZ 200) rfl rfl ⟨by omega, by omega⟩ ⟨by omega, by omega⟩).mpr c_5
                refine lv_sipush (v := iZ 520) hx hb dX12_lives_60 (by decide) ?_
                refine lv_bipush (v := iZ 6) hx hb dX12_lives_63 (by decide) ?_
                refine lv_iload_n hx hb dX12_lives_65 rfl (lv_at hl 0 rfl) ?_
                refine lv_imul hx hb dX12_lives_66 ?_
                refine lv_topi (fun x_6 ex_6 => ?_)
                obtain rfl : x_6 = iZ (6 * v2_32) := ex_6.trans (iZ_mul 6 v2_32)
                refine lv_iadd hx hb dX12_lives_67 ?_
                refine lv_topi (fun x_7 ex_7 => ?_)
                obtain rfl : x_7 = iZ (520 + (6 * v2_32)) := ex_7.trans (iZ_add 520 (6 * v2_32))
                refine lv_istore_n (lv' := [(3, .int (iZ (520 + (6 * v2_32)))), (2, .int (iZ v2_32)), (0, .ref hm), (1, .int (iZ x))]) hx hb dX12_lives_68 rfl hl (by decide) rfl (fun ls hl => ?_)
                refine lv_aload_n hx hb dX12_lives_69 rfl (lv_at hl 2 rfl) ?_
                refine lv_dup hx hb dX12_lives_70 rfl ?_
                refine va_get (D := D) (ci := 12) (v := .int (iZ Mrsq32)) (C := RX12) (T := TX12) (N := 36) hx hb hts iX12 hown hK hP 0 rfl rfl 30 (by decide) (hts _ qf_X12_387) (fun _ h => h) rfl dX12_lives_71 ?_
                refine lv_iconst (v := iZ 1) hx hb dX12_lives_74 (by decide) ?_
                refine lv_iadd hx hb dX12_lives_75 ?_
                refine lv_topi (fun x_8 ex_8 => ?_)
                obtain rfl : x_8 = iZ (Mrsq32 + 1) := ex_8.trans (iZ_add Mrsq32 1)
                refine va_put (D := D) (ci := 12) (v := .int (iZ (Mrsq32 + 1))) (ty := .int) (C := RX12) (T := TX12) (N := 36) hx hb hts iX12 tyX12 tyX12_ok nmX12 hown hK hP hD hS 0 rfl rfl 30 (by decide) (hts _ qf_X12_387) (fun _ h => h) rfl (by decide +kernel) rfl rfl (Nat.le_of_ble_eq_true rfl) dX12_lives_76 (fun H locs hP hD hS => ?_)
                refine lv_aload_n hx hb dX12_lives_79 rfl (lv_at hl 2 rfl) ?_
                refine va_get (D := D) (ci := 12) (v := .ref Ma) (C := RX12) (T := TX12) (N := 36) hx hb hts iX12 hown hK hP 0 rfl rfl 0 (by decide) (hts _ qf_X12_7) (fun _ h => h) rfl dX12_lives_80 ?_
                refine lv_iload_n hx hb dX12_lives_83 rfl (lv_at hl 0 rfl) ?_
                refine va_iald hx hb hK hP 1 1 rfl rfl (zin (e := (520 + (6 * v2_32))) (n := 5340) ⟨by omega, by omega⟩ (by decide)) dX12_lives_84 ?_
                refine lv_topi (fun x_9 ex_9 => ?_)
                obtain rfl : x_9 = iZ (gz Afq32 (520 + (6 * v2_32))) := ex_9.trans (gz_eq ⟨by omega, by omega⟩)
                have h_10 := gz_rg Afq32 (520 + (6 * v2_32))
                refine lv_bipush (v := iZ 22) hx hb dX12_lives_85 (by decide) ?_
                refine lv_icmp_ne (tgt := 91) hx hb dX12_lives_87 (by decide) (fun c_11 => ?_) (fun c_11 => ?_)
                ·
                  have c_11 := mt (zeq (x := iZ (gz Afq32 (520 + (6 * v2_32)))) (y := iZ 22) rfl rfl ⟨by omega, by omega⟩ ⟨by omega, by omega⟩).mpr c_11
                  refine lv_aload_n hx hb dX12_lives_91 rfl (lv_at hl 2 rfl) ?_
                  refine va_get (D := D) (ci := 12) (v := .ref Mr) (C := RX12) (T := TX12) (N := 36) hx hb hts iX12 hown hK hP 0 rfl rfl 32 (by decide) (hts _ qf_X12_65) (fun _ h => h) rfl dX12_lives_92 ?_
                  refine lv_iconst (v := iZ 0) hx hb dX12_lives_95 (by decide) ?_
                  refine lv_dup2_11 hx hb dX12_lives_96 rfl rfl ?_
                  refine va_iald hx hb hK hP 7 1 rfl rfl (zin (e := 0) (n := 5) ⟨by omega, by omega⟩ (by decide)) dX12_lives_97 ?_
                  refine lv_topi (fun x_12 ex_12 => ?_)
                  obtain rfl : x_12 = iZ (gz Rfq32 0) := ex_12.trans (gz_eq ⟨by omega, by omega⟩)
                  have h_13 := gz_rg Rfq32 0
                  refine lv_aload_n hx hb dX12_lives_98 rfl (lv_at hl 2 rfl) ?_
                  refine lv_iload_n hx hb dX12_lives_99 rfl (lv_at hl 0 rfl) ?_
                  refine CWV (As := [.int (iZ (520 + (6 * v2_32)))]) (rest := [.int (iZ (gz Rfq32 0)), .int (iZ 0), .ref Mr]) (wc := [(hm, .inr (12, [.ref Ma, .ref Mn, .int (iZ Mst), .long Mtp, .long Mbt, .ref Ms, .ref My, .ref Mt, .ref Mp, .ref Mx, .int (iZ Mtd), .int (iZ Msz), .int (iZ Mtk), .int (iZ Mfr), .int (iZ Men), .int (iZ Mva), .int (iZ Mfk), .int (iZ Mfp), .int (iZ Mfs), .int (iZ Mse), .int (iZ Mlt), .ref Mo, .int (iZ Mdp), .int (iZ Mct), .ref Mk, .ref Ml, .ref Mb, .ref Mh, .ref Mc, .int (iZ Mdrq32), .int (iZ (Mrsq32 + 1)), .ref Mz, .ref Mr, .ref Mq, .int (iZ Mit), .int (iZ Mmk)])), (Ma, .inl (k 1, 5340, .inl Afq32)), (Mr, .inl (k 1, 5, .inl Rfq32))]) (wr := [(Mk, .inl (k 1, 6, .inl Kfq32)), (Ml, .inl (k 1, 6, .inl Lfq32)), (Mb, .inl (k 1, 6, .inl Bfq32)), (Mh, .inl (k 1, 120, .inl Hfq32)), (Mz, .inl (k 1, 80, .inl Zfq32))]) hx hb hml hown hts hKK hP hD hS hA (m_does l D k hm Ma Mn Ms My Mt Mp Mx Mo Mk Ml Mb Mh Mc Mz Mr Mq Mst Mtd Msz Mtk Mfr Men Mva Mfk Mfp Mfs Mse Mlt Mdp Mct Mdrq32 (Mrsq32 + 1) Mit Mmk Mtp Mbt Afq32 Rfq32 (520 + (6 * v2_32)) hM32 ⟨⟨by omega, by omega⟩, by omega⟩ ⟨by omega, by omega⟩) ci_X12_does qm_X12_390 ⟨Nat.le_of_ble_eq_true rfl, Nat.le_of_ble_eq_true rfl⟩ ⟨Nat.le_of_ble_eq_true rfl, Nat.le_of_ble_eq_true rfl⟩ [0, 1, 7] [2, 3, 4, 5, 6] rfl rfl rfl rfl rfl (by decide) 0 rfl rfl rfl hl.1 rfl (Nat.le_of_ble_eq_true rfl) dX12_lives_100 (fun u_14 H locs hφ hP hD hS => ?_)
                  obtain ⟨I_15, L_16, F_17, G_18⟩ := u_14
                  obtain ⟨p_20, p_21, p_22, p_23⟩ : (M0 (F_17 0)) ∧ (FR (F_17 0) Afq32) ∧ (0 ≤ (I_15 1) ∧ (I_15 1) ≤ 65535) ∧ ((I_15 0) = 0 ∨ (I_15 0) = 1) := hφ
                  obtain ⟨m0m_24, m1m_24, m3m_24, m4m_24, m5m_24, mFm_24, mOm_24, mSm_24⟩ := id p_20
                  have frm_24 := FR.z p_21
                  refine W.eq (g2 := F0 m 103 ls [.int (iZ (I_15 0)), .int (iZ (gz Rfq32 0)), .int (iZ 0), .ref Mr]) rfl ?_
                  rcases (show ((I_15 0) = 0) ∨ ((I_15 0) = 1) from (by omega)) with s_25 | s_25
                  ·
                    rw [s_25]
                    refine lv_if_eq (tgt := 110) hx hb dX12_lives_103 (by decide) (fun _ => ?_) (fun c => absurd (by decide) c)
                    refine lv_iconst (v := iZ 1) hx hb dX12_lives_110 (by decide) ?_
                    refine lv_iadd hx hb dX12_lives_111 ?_
                    refine lv_topi (fun x_27 ex_27 => ?_)
                    obtain rfl : x_27 = iZ ((gz Rfq32 0) + 1) := ex_27.trans (iZ_add (gz Rfq32 0) 1)
                    refine va_iast hx hb hK hP hD hS 7 1 rfl rfl (zin (e := 0) (n := 5) ⟨by omega, by omega⟩ (by decide)) dX12_lives_112 (fun H locs hP hD hS => ?_)
                    obtain ⟨f_28, hf_28⟩ : ∃ gg9, gg9 = upd (F_17 1) (iZ 0).toNatClampNeg (iZ ((gz Rfq32 0) + 1)) := ⟨_, rfl⟩
                    rw [← hf_28] at hP hD
                    refine lv_aload_n hx hb dX12_lives_113 rfl (lv_at hl 2 rfl) ?_
                    refine va_get (D := D) (ci := 12) (v := .ref Ma) (C := RX12) (T := TX12) (N := 36) hx hb hts iX12 hown hK hP 5 rfl rfl 0 (by decide) (hts _ qf_X12_7) (fun _ h => h) rfl dX12_lives_114 ?_
                    refine lv_iload_n hx hb dX12_lives_117 rfl (lv_at hl 0 rfl) ?_
                    refine va_iald hx hb hK hP 6 1 rfl rfl (zin (e := (520 + (6 * v2_32))) (n := 5340) ⟨by omega, by omega⟩ (by decide)) dX12_lives_118 ?_
                    refine lv_topi (fun x_29 ex_29 => ?_)
                    obtain rfl : x_29 = iZ (gz (F_17 0) (520 + (6 * v2_32))) := ex_29.trans (gz_eq ⟨by omega, by omega⟩)
                    have h_30 := gz_rg (F_17 0) (520 + (6 * v2_32))
                    refine lv_bipush (v := iZ 20) hx hb dX12_lives_119 (by decide) ?_
                    refine lv_icmp_ne (tgt := 140) hx hb dX12_lives_121 (by decide) (fun c_31 => ?_) (fun c_31 => ?_)
                    ·
                      have c_31 := mt (zeq (x := iZ (gz (F_17 0) (520 + (6 * v2_32)))) (y := iZ 20) rfl rfl ⟨by omega, by omega⟩ ⟨by omega, by omega⟩).mpr c_31
                      refine lv_aload_n hx hb dX12_lives_140 rfl (lv_at hl 2 rfl) ?_
                      refine lv_aload_n hx hb dX12_lives_141 rfl (lv_at hl 2 rfl) ?_
                      refine va_get (D := D) (ci := 12) (v := .ref Ma) (C := RX12) (T := TX12) (N := 36) hx hb hts iX12 hown hK hP 5 rfl rfl 0 (by decide) (hts _ qf_X12_7) (fun _ h => h) rfl dX12_lives_142 ?_
                      refine lv_iload_n hx hb dX12_lives_145 rfl (lv_at hl 0 rfl) ?_
                      refine va_iald hx hb hK hP 6 1 rfl rfl (zin (e := (520 + (6 * v2_32))) (n := 5340) ⟨by omega, by omega⟩ (by decide)) dX12_lives_146 ?_
                      refine lv_topi (fun x_32 ex_32 => ?_)
                      obtain rfl : x_32 = iZ (gz (F_17 0) (520 + (6 * v2_32))) := ex_32.trans (gz_eq ⟨by omega, by omega⟩)
                      have h_33 := gz_rg (F_17 0) (520 + (6 * v2_32))
                      refine lv_sipush (v := iZ 1900) hx hb dX12_lives_147 (by decide) ?_
                      refine lv_icmp_lt (tgt := 174) hx hb dX12_lives_150 (by decide) (fun c_34 => ?_) (fun c_34 => ?_)
                      ·
                        have c_34 := (zlt (x := iZ (gz (F_17 0) (520 + (6 * v2_32)))) (y := iZ 1900) rfl rfl ⟨by omega, by omega⟩ ⟨by omega, by omega⟩).mp c_34
                        refine lv_iload_n hx hb dX12_lives_174 rfl (lv_at hl 1 rfl) ?_
                        refine lv_iconst (v := iZ 1) hx hb dX12_lives_175 (by decide) ?_
                        refine lv_iadd hx hb dX12_lives_176 ?_
                        refine lv_topi (fun x_35 ex_35 => ?_)
                        obtain rfl : x_35 = iZ (v2_32 + 1) := ex_35.trans (iZ_add v2_32 1)
                        refine CWV (As := [.int (iZ (v2_32 + 1))]) (rest := []) (wc := [(hm, .inr (12, [.ref Ma, .ref Mn, .int (iZ Mst), .long Mtp, .long Mbt, .ref Ms, .ref My, .ref Mt, .ref Mp, .ref Mx, .int (iZ Mtd), .int (iZ Msz), .int (iZ Mtk), .int (iZ Mfr), .int (iZ Men), .int (iZ Mva), .int (iZ Mfk), .int (iZ Mfp), .int (iZ Mfs), .int (iZ Mse), .int (iZ Mlt), .ref Mo, .int (iZ Mdp), .int (iZ Mct), .ref Mk, .ref Ml, .ref Mb, .ref Mh, .ref Mc, .int (iZ (I_15 1)), .int (iZ (Mrsq32 + 1)), .ref Mz, .ref Mr, .ref Mq, .int (iZ Mit), .int (iZ Mmk)])), (Ma, .inl (k 1, 5340, .inl (F_17 0))), (Mz, .inl (k 1, 80, .inl Zfq32))]) (wr := [(Mk, .inl (k 1, 6, .inl Kfq32)), (Ml, .inl (k 1, 6, .inl Lfq32)), (Mb, .inl (k 1, 6, .inl Bfq32)), (Mh, .inl (k 1, 120, .inl Hfq32)), (Mr, .inl (k 1, 5, .inl f_28))]) hx hb hml hown hts hKK hP hD hS hA (m_behindEnds l D k ([.ref Ma, .ref Mn, .int (iZ Mst), .long Mtp, .long Mbt, .ref Ms, .ref My, .ref Mt, .ref Mp, .ref Mx, .int (iZ Mtd), .int (iZ Msz), .int (iZ Mtk), .int (iZ Mfr), .int (iZ Men), .int (iZ Mva), .int (iZ Mfk), .int (iZ Mfp), .int (iZ Mfs), .int (iZ Mse), .int (iZ Mlt), .ref Mo, .int (iZ Mdp), .int (iZ Mct), .ref Mk, .ref Ml, .ref Mb, .ref Mh, .ref Mc, .int (iZ (I_15 1)), .int (iZ (Mrsq32 + 1)), .ref Mz, .ref Mr, .ref Mq, .int (iZ Mit), .int (iZ Mmk)]) hm Ma Mz (F_17 0) Zfq32 (v2_32 + 1) rfl rfl p_20 ⟨by omega, by omega⟩) ci_X12_behindEnds qm_X12_396 ⟨Nat.le_of_ble_eq_true rfl, Nat.le_of_ble_eq_true rfl⟩ ⟨Nat.le_of_ble_eq_true rfl, Nat.le_of_ble_eq_true rfl⟩ [5, 6, 4] [0, 1, 2, 3, 7] rfl rfl rfl rfl rfl (by decide) 0 rfl rfl rfl hl.1 rfl (Nat.le_of_ble_eq_true rfl) dX12_lives_177 (fun u_36 H locs hφ hP hD hS => ?_)
                        obtain ⟨I_37, L_38, F_39, G_40⟩ := u_36
                        have p_42 : 0 ≤ (I_37 0) ∧ (I_37 0) ≤ 60 := hφ
                        refine W.eq (g2 := F0 m 180 ls [.int (iZ (I_37 0))]) rfl ?_
                        refine lv_istore_n (lv' := [(2, .int (iZ (I_37 0))), (3, .int (iZ (520 + (6 * v2_32)))), (0, .ref hm), (1, .int (iZ x))]) hx hb dX12_lives_180 rfl hl (by decide) rfl (fun ls hl => ?_)
                        refine lv_goto (tgt := 32) hx hb dX12_lives_181 (by decide) ?_
                        exact ih32  (I_37 0) (I_15 1) (Mrsq32 + 1) (F_17 0) Kfq32 Lfq32 Bfq32 Hfq32 (F_39 0) f_28 _ _ _ (by omega) (show (0 ≤ (I_37 0) ∧ (I_37 0) ≤ (60) + 1) from ⟨by omega, by omega⟩) (show 0 ≤ (Mrsq32 + 1) ∧ (Mrsq32 + 1) ≤ 200 from ⟨by omega, by omega⟩) (show 0 ≤ (I_15 1) ∧ (I_15 1) ≤ 65535 from ⟨by omega, by omega⟩) (show rgI Hfq32 0 1000000 120 from rgh2) (show M0 (F_17 0) from p_20) (show FR (F_17 0) Af from (FR.tr p_21 hF32)) (hP.sub [5, 6, 0, 1, 2, 3, 7, 4] rfl) (hD.sub [5, 6, 0, 1, 2, 3, 7, 4] rfl rfl) hS (lv_sub hl [0, 2, 3] rfl)
                      ·
                        have c_34 := mt (zlt (x := iZ (gz (F_17 0) (520 + (6 * v2_32)))) (y := iZ 1900) rfl rfl ⟨by omega, by omega⟩ ⟨by omega, by omega⟩).mpr c_34
                        refine lv_aload_n hx hb dX12_lives_153 rfl (lv_at hl 2 rfl) ?_
                        refine lv_iload_n hx hb dX12_lives_154 rfl (lv_at hl 0 rfl) ?_
                        refine CWV (As := [.int (iZ (520 + (6 * v2_32)))]) (rest := [.ref hm]) (wc := [(hm, .inr (12, [.ref Ma, .ref Mn, .int (iZ Mst), .long Mtp, .long Mbt, .ref Ms, .ref My, .ref Mt, .ref Mp, .ref Mx, .int (iZ Mtd), .int (iZ Msz), .int (iZ Mtk), .int (iZ Mfr), .int (iZ Men), .int (iZ Mva), .int (iZ Mfk), .int (iZ Mfp), .int (iZ Mfs), .int (iZ Mse), .int (iZ Mlt), .ref Mo, .int (iZ Mdp), .int (iZ Mct), .ref Mk, .ref Ml, .ref Mb, .ref Mh, .ref Mc, .int (iZ (I_15 1)), .int (iZ (Mrsq32 + 1)), .ref Mz, .ref Mr, .ref Mq, .int (iZ Mit), .int (iZ Mmk)])), (Ma, .inl (k 1, 5340, .inl (F_17 0))), (Mk, .inl (k 1, 6, .inl Kfq32)), (Ml, .inl (k 1, 6, .inl Lfq32)), (Mb, .inl (k 1, 6, .inl Bfq32)), (Mh, .inl (k 1, 120, .inl Hfq32))]) (wr := [(Mz, .inl (k 1, 80, .inl Zfq32)), (Mr, .inl (k 1, 5, .inl f_28))]) hx hb hml hown hts hKK hP hD hS hA (m_holds l D k hm Ma Mn Ms My Mt Mp Mx Mo Mk Ml Mb Mh Mc Mz Mr Mq Mst Mtd Msz Mtk Mfr Men Mva Mfk Mfp Mfs Mse Mlt Mdp Mct (I_15 1) (Mrsq32 + 1) Mit Mmk Mtp Mbt (F_17 0) Kfq32 Lfq32 Bfq32 Hfq32 (520 + (6 * v2_32)) p_20 ⟨⟨by omega, by omega⟩, by omega⟩ rgh2 (by omega)) ci_X12_holds qm_X12_393 ⟨Nat.le_of_ble_eq_true rfl, Nat.le_of_ble_eq_true rfl⟩ ⟨Nat.le_of_ble_eq_true rfl, Nat.le_of_ble_eq_true rfl⟩ [5, 6, 0, 1, 2, 3] [4, 7] rfl rfl rfl rfl rfl (by decide) 0 rfl rfl rfl hl.1 rfl (Nat.le_of_ble_eq_true rfl) dX12_lives_155 (fun u_43 H locs hφ hP hD hS => ?_)
                        obtain ⟨I_44, L_45, F_46, G_47⟩ := u_43
                        obtain ⟨p_49, p_50⟩ : (rgI (F_46 3) 0 1000000 120) ∧ ((I_44 0) = 0 ∨ (I_44 0) = 1) := hφ
                        refine W.eq (g2 := F0 m 158 ls [.int (iZ (I_44 0)), .ref hm]) rfl ?_
                        rcases (show ((I_44 0) = 0) ∨ ((I_44 0) = 1) from (by omega)) with s_51 | s_51
                        ·
                          rw [s_51]
                          refine lv_if_ne (tgt := 174) hx hb dX12_lives_158 (by decide) (fun c => absurd (by decide) c) (fun _ => ?_)
                          have hst := mSm_24 v2_32 (by omega) (by omega)
                          refine lv_aload_n hx hb dX12_lives_161 rfl (lv_at hl 2 rfl) ?_
                          refine va_get (D := D) (ci := 12) (v := .ref Ma) (C := RX12) (T := TX12) (N := 36) hx hb hts iX12 hown hK hP 2 rfl rfl 0 (by decide) (hts _ qf_X12_7) (fun _ h => h) rfl dX12_lives_162 ?_
                          refine lv_iload_n hx hb dX12_lives_165 rfl (lv_at hl 0 rfl) ?_
                          refine lv_iconst (v := iZ 4) hx hb dX12_lives_166 (by decide) ?_
                          refine lv_iadd hx hb dX12_lives_167 ?_
                          refine lv_topi (fun x_53 ex_53 => ?_)
                          obtain rfl : x_53 = iZ ((520 + (6 * v2_32)) + 4) := ex_53.trans (iZ_add (520 + (6 * v2_32)) 4)
                          refine va_iald hx hb hK hP 3 1 rfl rfl (zin (e := ((520 + (6 * v2_32)) + 4)) (n := 5340) ⟨by omega, by omega⟩ (by decide)) dX12_lives_168 ?_
                          refine lv_topi (fun x_54 ex_54 => ?_)
                          obtain rfl : x_54 = iZ (gz (F_17 0) ((520 + (6 * v2_32)) + 4)) := ex_54.trans (gz_eq ⟨by omega, by omega⟩)
                          have h_55 := gz_rg (F_17 0) ((520 + (6 * v2_32)) + 4)
                          refine lv_iconst (v := iZ 1) hx hb dX12_lives_169 (by decide) ?_
                          refine lv_iadd hx hb dX12_lives_170 ?_
                          refine lv_topi (fun x_56 ex_56 => ?_)
                          obtain rfl : x_56 = iZ ((gz (F_17 0) ((520 + (6 * v2_32)) + 4)) + 1) := ex_56.trans (iZ_add (gz (F_17 0) ((520 + (6 * v2_32)) + 4)) 1)
                          refine lv_goto (tgt := 177) hx hb dX12_lives_171 (by decide) ?_
                          refine CWV (As := [.int (iZ ((gz (F_17 0) ((520 + (6 * v2_32)) + 4)) + 1))]) (rest := []) (wc := [(hm, .inr (12, [.ref Ma, .ref Mn, .int (iZ Mst), .long Mtp, .long Mbt, .ref Ms, .ref My, .ref Mt, .ref Mp, .ref Mx, .int (iZ Mtd), .int (iZ Msz), .int (iZ Mtk), .int (iZ Mfr), .int (iZ Men), .int (iZ Mva), .int (iZ Mfk), .int (iZ Mfp), .int (iZ Mfs), .int (iZ Mse), .int (iZ Mlt), .ref Mo, .int (iZ Mdp), .int (iZ Mct), .ref Mk, .ref Ml, .ref Mb, .ref Mh, .ref Mc, .int (iZ (I_15 1)), .int (iZ (Mrsq32 + 1)), .ref Mz, .ref Mr, .ref Mq, .int (iZ Mit), .int (iZ Mmk)])), (Ma, .inl (k 1, 5340, .inl (F_17 0))), (Mz, .inl (k 1, 80, .inl Zfq32))]) (wr := [(Mr, .inl (k 1, 5, .inl f_28)), (Mk, .inl (k 1, 6, .inl (F_46 0))), (Ml, .inl (k 1, 6, .inl (F_46 1))), (Mb, .inl (k 1, 6, .inl (F_46 2))), (Mh, .inl (k 1, 120, .inl (F_46 3)))]) hx hb hml hown hts hKK hP hD hS hA (m_behindEnds l D k ([.ref Ma, .ref Mn, .int (iZ Mst), .long Mtp, .long Mbt, .ref Ms, .ref My, .ref Mt, .ref Mp, .ref Mx, .int (iZ Mtd), .int (iZ Msz), .int (iZ Mtk), .int (iZ Mfr), .int (iZ Men), .int (iZ Mva), .int (iZ Mfk), .int (iZ Mfp), .int (iZ Mfs), .int (iZ Mse), .int (iZ Mlt), .ref Mo, .int (iZ Mdp), .int (iZ Mct), .ref Mk, .ref Ml, .ref Mb, .ref Mh, .ref Mc, .int (iZ (I_15 1)), .int (iZ (Mrsq32 + 1)), .ref Mz, .ref Mr, .ref Mq, .int (iZ Mit), .int (iZ Mmk)]) hm Ma Mz (F_17 0) Zfq32 ((gz (F_17 0) ((520 + (6 * v2_32)) + 4)) + 1) rfl rfl p_20 ⟨by omega, by omega⟩) ci_X12_behindEnds qm_X12_396 ⟨Nat.le_of_ble_eq_true rfl, Nat.le_of_ble_eq_true rfl⟩ ⟨Nat.le_of_ble_eq_true rfl, Nat.le_of_ble_eq_true rfl⟩ [2, 3, 0] [1, 4, 5, 6, 7] rfl rfl rfl rfl rfl (by decide) 0 rfl rfl rfl hl.1 rfl (Nat.le_of_ble_eq_true rfl) dX12_lives_177 (fun u_57 H locs hφ hP hD hS => ?_)
                          obtain ⟨I_58, L_59, F_60, G_61⟩ := u_57
                          have p_63 : 0 ≤ (I_58 0) ∧ (I_58 0) ≤ 60 := hφ
                          refine W.eq (g2 := F0 m 180 ls [.int (iZ (I_58 0))]) rfl ?_
                          refine lv_istore_n (lv' := [(2, .int (iZ (I_58 0))), (3, .int (iZ (520 + (6 * v2_32)))), (0, .ref hm), (1, .int (iZ x))]) hx hb dX12_lives_180 rfl hl (by decide) rfl (fun ls hl => ?_)
                          refine lv_goto (tgt := 32) hx hb dX12_lives_181 (by decide) ?_
                          exact ih32  (I_58 0) (I_15 1) (Mrsq32 + 1) (F_17 0) (F_46 0) (F_46 1) (F_46 2) (F_46 3) (F_60 0) f_28 _ _ _ (by omega) (show (0 ≤ (I_58 0) ∧ (I_58 0) ≤ (60) + 1) from ⟨by omega, by omega⟩) (show 0 ≤ (Mrsq32 + 1) ∧ (Mrsq32 + 1) ≤ 200 from ⟨by omega, by omega⟩) (show 0 ≤ (I_15 1) ∧ (I_15 1) ≤ 65535 from ⟨by omega, by omega⟩) (show rgI (F_46 3) 0 1000000 120 from p_49) (show M0 (F_17 0) from p_20) (show FR (F_17 0) Af from (FR.tr p_21 hF32)) (hP.sub [5, 6, 1, 2, 3, 4, 7, 0] rfl) (hD.sub [5, 6, 1, 2, 3, 4, 7, 0] rfl rfl) hS (lv_sub hl [0, 2, 3] rfl)
                        ·
                          rw [s_51]
                          refine lv_if_ne (tgt := 174) hx hb dX12_lives_158 (by decide) (fun _ => ?_) (fun c => absurd c (by decide))
                          refine lv_iload_n hx hb dX12_lives_174 rfl (lv_at hl 1 rfl) ?_
                          refine lv_iconst (v := iZ 1) hx hb dX12_lives_175 (by decide) ?_
                          refine lv_iadd hx hb dX12_lives_176 ?_
                          refine lv_topi (fun x_65 ex_65 => ?_)
                          obtain rfl : x_65 = iZ (v2_32 + 1) := ex_65.trans (iZ_add v2_32 1)
                          refine CWV (As := [.int (iZ (v2_32 + 1))]) (rest := []) (wc := [(hm, .inr (12, [.ref Ma, .ref Mn, .int (iZ Mst), .long Mtp, .long Mbt, .ref Ms, .ref My, .ref Mt, .ref Mp, .ref Mx, .int (iZ Mtd), .int (iZ Msz), .int (iZ Mtk), .int (iZ Mfr), .int (iZ Men), .int (iZ Mva), .int (iZ Mfk), .int (iZ Mfp), .int (iZ Mfs), .int (iZ Mse), .int (iZ Mlt), .ref Mo, .int (iZ Mdp), .int (iZ Mct), .ref Mk, .ref Ml, .ref Mb, .ref Mh, .ref Mc, .int (iZ (I_15 1)), .int (iZ (Mrsq32 + 1)), .ref Mz, .ref Mr, .ref Mq, .int (iZ Mit), .int (iZ Mmk)])), (Ma, .inl (k 1, 5340, .inl (F_17 0))), (Mz, .inl (k 1, 80, .inl Zfq32))]) (wr := [(Mr, .inl (k 1, 5, .inl f_28)), (Mk, .inl (k 1, 6, .inl (F_46 0))), (Ml, .inl (k 1, 6, .inl (F_46 1))), (Mb, .inl (k 1, 6, .inl (F_46 2))), (Mh, .inl (k 1, 120, .inl (F_46 3)))]) hx hb hml hown hts hKK hP hD hS hA (m_behindEnds l D k ([.ref Ma, .ref Mn, .int (iZ Mst), .long Mtp, .long Mbt, .ref Ms, .ref My, .ref Mt, .ref Mp, .ref Mx, .int (iZ Mtd), .int (iZ Msz), .int (iZ Mtk), .int (iZ Mfr), .int (iZ Men), .int (iZ Mva), .int (iZ Mfk), .int (iZ Mfp), .int (iZ Mfs), .int (iZ Mse), .int (iZ Mlt), .ref Mo, .int (iZ Mdp), .int (iZ Mct), .ref Mk, .ref Ml, .ref Mb, .ref Mh, .ref Mc, .int (iZ (I_15 1)), .int (iZ (Mrsq32 + 1)), .ref Mz, .ref Mr, .ref Mq, .int (iZ Mit), .int (iZ Mmk)]) hm Ma Mz (F_17 0) Zfq32 (v2_32 + 1) rfl rfl p_20 ⟨by omega, by omega⟩) ci_X12_behindEnds qm_X12_396 ⟨Nat.le_of_ble_eq_true rfl, Nat.le_of_ble_eq_true rfl⟩ ⟨Nat.le_of_ble_eq_true rfl, Nat.le_of_ble_eq_true rfl⟩ [2, 3, 0] [1, 4, 5, 6, 7] rfl rfl rfl rfl rfl (by decide) 0 rfl rfl rfl hl.1 rfl (Nat.le_of_ble_eq_true rfl) dX12_lives_177 (fun u_66 H locs hφ hP hD hS => ?_)
                          obtain ⟨I_67, L_68, F_69, G_70⟩ := u_66
                          have p_72 : 0 ≤ (I_67 0) ∧ (I_67 0) ≤ 60 := hφ
                          refine W.eq (g2 := F0 m 180 ls [.int (iZ (I_67 0))]) rfl ?_
                          refine lv_istore_n (lv' := [(2, .int (iZ (I_67 0))), (3, .int (iZ (520 + (6 * v2_32)))), (0, .ref hm), (1, .int (iZ x))]) hx hb dX12_lives_180 rfl hl (by decide) rfl (fun ls hl => ?_)
                          refine lv_goto (tgt := 32) hx hb dX12_lives_181 (by decide) ?_
                          exact ih32  (I_67 0) (I_15 1) (Mrsq32 + 1) (F_17 0) (F_46 0) (F_46 1) (F_46 2) (F_46 3) (F_69 0) f_28 _ _ _ (by omega) (show (0 ≤ (I_67 0) ∧ (I_67 0) ≤ (60) + 1) from ⟨by omega, by omega⟩) (show 0 ≤ (Mrsq32 + 1) ∧ (Mrsq32 + 1) ≤ 200 from ⟨by omega, by omega⟩) (show 0 ≤ (I_15 1) ∧ (I_15 1) ≤ 65535 from ⟨by omega, by omega⟩) (show rgI (F_46 3) 0 1000000 120 from p_49) (show M0 (F_17 0) from p_20) (show FR (F_17 0) Af from (FR.tr p_21 hF32)) (hP.sub [5, 6, 1, 2, 3, 4, 7, 0] rfl) (hD.sub [5, 6, 1, 2, 3, 4, 7, 0] rfl rfl) hS (lv_sub hl [0, 2, 3] rfl)
                    ·
                      have c_31 := (zeq (x := iZ (gz (F_17 0) (520 + (6 * v2_32)))) (y := iZ 20) rfl rfl ⟨by omega, by omega⟩ ⟨by omega, by omega⟩).mp c_31
                      refine lv_aload_n hx hb dX12_lives_124 rfl (lv_at hl 2 rfl) ?_
                      refine va_get (D := D) (ci := 12) (v := .ref Mz) (C := RX12) (T := TX12) (N := 36) hx hb hts iX12 hown hK hP 5 rfl rfl 31 (by decide) (hts _ qf_X12_62) (fun _ h => h) rfl dX12_lives_125 ?_
                      refine lv_iload_n hx hb dX12_lives_128 rfl (lv_at hl 1 rfl) ?_
                      refine lv_aload_n hx hb dX12_lives_129 rfl (lv_at hl 2 rfl) ?_
                      refine va_get (D := D) (ci := 12) (v := .ref Ma) (C := RX12) (T := TX12) (N := 36) hx hb hts iX12 hown hK hP 5 rfl rfl 0 (by decide) (hts _ qf_X12_7) (fun _ h => h) rfl dX12_lives_130 ?_
                      refine lv_iload_n hx hb dX12_lives_133 rfl (lv_at hl 0 rfl) ?_
                      refine lv_iconst (v := iZ 1) hx hb dX12_lives_134 (by decide) ?_
                      refine lv_iadd hx hb dX12_lives_135 ?_
                      refine lv_topi (fun x_73 ex_73 => ?_)
                      obtain rfl : x_73 = iZ ((520 + (6 * v2_32)) + 1) := ex_73.trans (iZ_add (520 + (6 * v2_32)) 1)
                      refine va_iald hx hb hK hP 6 1 rfl rfl (zin (e := ((520 + (6 * v2_32)) + 1)) (n := 5340) ⟨by omega, by omega⟩ (by decide)) dX12_lives_136 ?_
                      refine lv_topi (fun x_74 ex_74 => ?_)
                      obtain rfl : x_74 = iZ (gz (F_17 0) ((520 + (6 * v2_32)) + 1)) := ex_74.trans (gz_eq ⟨by omega, by omega⟩)
                      have h_75 := gz_rg (F_17 0) ((520 + (6 * v2_32)) + 1)
                      refine lv_iconst (v := iZ 1) hx hb dX12_lives_137 (by decide) ?_
                      refine lv_isub hx hb dX12_lives_138 ?_
                      refine lv_topi (fun x_76 ex_76 => ?_)
                      obtain rfl : x_76 = iZ ((gz (F_17 0) ((520 + (6 * v2_32)) + 1)) - 1) := ex_76.trans (iZ_sub (gz (F_17 0) ((520 + (6 * v2_32)) + 1)) 1)
                      refine va_iast hx hb hK hP hD hS 4 1 rfl rfl (zin (e := v2_32) (n := 80) ⟨by omega, by omega⟩ (by decide)) dX12_lives_139 (fun H locs hP hD hS => ?_)
                      obtain ⟨f_77, hf_77⟩ : ∃ gg9, gg9 = upd Zfq32 (iZ v2_32).toNatClampNeg (iZ ((gz (F_17 0) ((520 + (6 * v2_32)) + 1)) - 1)) := ⟨_, rfl⟩
                      rw [← hf_77] at hP hD
                      refine lv_aload_n hx hb dX12_lives_140 rfl (lv_at hl 2 rfl) ?_
                      refine lv_aload_n hx hb dX12_lives_141 rfl (lv_at hl 2 rfl) ?_
                      refine va_get (D := D) (ci := 12) (v := .ref Ma) (C := RX12) (T := TX12) (N := 36) hx hb hts iX12 hown hK hP 5 rfl rfl 0 (by decide) (hts _ qf_X12_7) (fun _ h => h) rfl dX12_lives_142 ?_
                      refine lv_iload_n hx hb dX12_lives_145 rfl (lv_at hl 0 rfl) ?_
                      refine va_iald hx hb hK hP 6 1 rfl rfl (zin (e := (520 + (6 * v2_32))) (n := 5340) ⟨by omega, by omega⟩ (by decide)) dX12_lives_146 ?_
                      refine lv_topi (fun x_78 ex_78 => ?_)
                      obtain rfl : x_78 = iZ (gz (F_17 0) (520 + (6 * v2_32))) := ex_78.trans (gz_eq ⟨by omega, by omega⟩)
                      have h_79 := gz_rg (F_17 0) (520 + (6 * v2_32))
                      refine lv_sipush (v := iZ 1900) hx hb dX12_lives_147 (by decide) ?_
                      refine lv_icmp_lt (tgt := 174) hx hb dX12_lives_150 (by decide) (fun c_80 => ?_) (fun c_80 => ?_)
                      ·
                        have c_80 := (zlt (x := iZ (gz (F_17 0) (520 + (6 * v2_32)))) (y := iZ 1900) rfl rfl ⟨by omega, by omega⟩ ⟨by omega, by omega⟩).mp c_80
                        refine lv_iload_n hx hb dX12_lives_174 rfl (lv_at hl 1 rfl) ?_
                        refine lv_iconst (v := iZ 1) hx hb dX12_lives_175 (by decide) ?_
                        refine lv_iadd hx hb dX12_lives_176 ?_
                        refine lv_topi (fun x_81 ex_81 => ?_)
                        obtain rfl : x_81 = iZ (v2_32 + 1) := ex_81.trans (iZ_add v2_32 1)
                        refine CWV (As := [.int (iZ (v2_32 + 1))]) (rest := []) (wc := [(hm, .inr (12, [.ref Ma, .ref Mn, .int (iZ Mst), .long Mtp, .long Mbt, .ref Ms, .ref My, .ref Mt, .ref Mp, .ref Mx, .int (iZ Mtd), .int (iZ Msz), .int (iZ Mtk), .int (iZ Mfr), .int (iZ Men), .int (iZ Mva), .int (iZ Mfk), .int (iZ Mfp), .int (iZ Mfs), .int (iZ Mse), .int (iZ Mlt), .ref Mo, .int (iZ Mdp), .int (iZ Mct), .ref Mk, .ref Ml, .ref Mb, .ref Mh, .ref Mc, .int (iZ (I_15 1)), .int (iZ (Mrsq32 + 1)), .ref Mz, .ref Mr, .ref Mq, .int (iZ Mit), .int (iZ Mmk)])), (Ma, .inl (k 1, 5340, .inl (F_17 0))), (Mz, .inl (k 1, 80, .inl f_77))]) (wr := [(Mk, .inl (k 1, 6, .inl Kfq32)), (Ml, .inl (k 1, 6, .inl Lfq32)), (Mb, .inl (k 1, 6, .inl Bfq32)), (Mh, .inl (k 1, 120, .inl Hfq32)), (Mr, .inl (k 1, 5, .inl f_28))]) hx hb hml hown hts hKK hP hD hS hA (m_behindEnds l D k ([.ref Ma, .ref Mn, .int (iZ Mst), .long Mtp, .long Mbt, .ref Ms, .ref My, .ref Mt, .ref Mp, .ref Mx, .int (iZ Mtd), .int (iZ Msz), .int (iZ Mtk), .int (iZ Mfr), .int (iZ Men), .int (iZ Mva), .int (iZ Mfk), .int (iZ Mfp), .int (iZ Mfs), .int (iZ Mse), .int (iZ Mlt), .ref Mo, .int (iZ Mdp), .int (iZ Mct), .ref Mk, .ref Ml, .ref Mb, .ref Mh, .ref Mc, .int (iZ (I_15 1)), .int (iZ (Mrsq32 + 1)), .ref Mz, .ref Mr, .ref Mq, .int (iZ Mit), .int (iZ Mmk)]) hm Ma Mz (F_17 0) f_77 (v2_32 + 1) rfl rfl p_20 ⟨by omega, by omega⟩) ci_X12_behindEnds qm_X12_396 ⟨Nat.le_of_ble_eq_true rfl, Nat.le_of_ble_eq_true rfl⟩ ⟨Nat.le_of_ble_eq_true rfl, Nat.le_of_ble_eq_true rfl⟩ [5, 6, 4] [0, 1, 2, 3, 7] rfl rfl rfl rfl rfl (by decide) 0 rfl rfl rfl hl.1 rfl (Nat.le_of_ble_eq_true rfl) dX12_lives_177 (fun u_82 H locs hφ hP hD hS => ?_)
                        obtain ⟨I_83, L_84, F_85, G_86⟩ := u_82
                        have p_88 : 0 ≤ (I_83 0) ∧ (I_83 0) ≤ 60 := hφ
                        refine W.eq (g2 := F0 m 180 ls [.int (iZ (I_83 0))]) rfl ?_
                        refine lv_istore_n (lv' := [(2, .int (iZ (I_83 0))), (3, .int (iZ (520 + (6 * v2_32)))), (0, .ref hm), (1, .int (iZ x))]) hx hb dX12_lives_180 rfl hl (by decide) rfl (fun ls hl => ?_)
                        refine lv_goto (tgt := 32) hx hb dX12_lives_181 (by decide) ?_
                        exact ih32  (I_83 0) (I_15 1) (Mrsq32 + 1) (F_17 0) Kfq32 Lfq32 Bfq32 Hfq32 (F_85 0) f_28 _ _ _ (by omega) (show (0 ≤ (I_83 0) ∧ (I_83 0) ≤ (60) + 1) from ⟨by omega, by omega⟩) (show 0 ≤ (Mrsq32 + 1) ∧ (Mrsq32 + 1) ≤ 200 from ⟨by omega, by omega⟩) (show 0 ≤ (I_15 1) ∧ (I_15 1) ≤ 65535 from ⟨by omega, by omega⟩) (show rgI Hfq32 0 1000000 120 from rgh2) (show M0 (F_17 0) from p_20) (show FR (F_17 0) Af from (FR.tr p_21 hF32)) (hP.sub [5, 6, 0, 1, 2, 3, 7, 4] rfl) (hD.sub [5, 6, 0, 1, 2, 3, 7, 4] rfl rfl) hS (lv_sub hl [0, 2, 3] rfl)
                      ·
                        have c_80 := mt (zlt (x := iZ (gz (F_17 0) (520 + (6 * v2_32)))) (y := iZ 1900) rfl rfl ⟨by omega, by omega⟩ ⟨by omega, by omega⟩).mpr c_80
                        refine lv_aload_n hx hb dX12_lives_153 rfl (lv_at hl 2 rfl) ?_
                        refine lv_iload_n hx hb dX12_lives_154 rfl (lv_at hl 0 rfl) ?_
                        refine CWV (As := [.int (iZ (520 + (6 * v2_32)))]) (rest := [.ref hm]) (wc := [(hm, .inr (12, [.ref Ma, .ref Mn, .int (iZ Mst), .long Mtp, .long Mbt, .ref Ms, .ref My, .ref Mt, .ref Mp, .ref Mx, .int (iZ Mtd), .int (iZ Msz), .int (iZ Mtk), .int (iZ Mfr), .int (iZ Men), .int (iZ Mva), .int (iZ Mfk), .int (iZ Mfp), .int (iZ Mfs), .int (iZ Mse), .int (iZ Mlt), .ref Mo, .int (iZ Mdp), .int (iZ Mct), .ref Mk, .ref Ml, .ref Mb, .ref Mh, .ref Mc, .int (iZ (I_15 1)), .int (iZ (Mrsq32 + 1)), .ref Mz, .ref Mr, .ref Mq, .int (iZ Mit), .int (iZ Mmk)])), (Ma, .inl (k 1, 5340, .inl (F_17 0))), (Mk, .inl (k 1, 6, .inl Kfq32)), (Ml, .inl (k 1, 6, .inl Lfq32)), (Mb, .inl (k 1, 6, .inl Bfq32)), (Mh, .inl (k 1, 120, .inl Hfq32))]) (wr := [(Mz, .inl (k 1, 80, .inl f_77)), (Mr, .inl (k 1, 5, .inl f_28))]) hx hb hml hown hts hKK hP hD hS hA (m_holds l D k hm Ma Mn Ms My Mt Mp Mx Mo Mk Ml Mb Mh Mc Mz Mr Mq Mst Mtd Msz Mtk Mfr Men Mva Mfk Mfp Mfs Mse Mlt Mdp Mct (I_15 1) (Mrsq32 + 1) Mit Mmk Mtp Mbt (F_17 0) Kfq32 Lfq32 Bfq32 Hfq32 (520 + (6 * v2_32)) p_20 ⟨⟨by omega, by omega⟩, by omega⟩ rgh2 (by omega)) ci_X12_holds qm_X12_393 ⟨Nat.le_of_ble_eq_true rfl, Nat.le_of_ble_eq_true rfl⟩ ⟨Nat.le_of_ble_eq_true rfl, Nat.le_of_ble_eq_true rfl⟩ [5, 6, 0, 1, 2, 3] [4, 7] rfl rfl rfl rfl rfl (by decide) 0 rfl rfl rfl hl.1 rfl (Nat.le_of_ble_eq_true rfl) dX12_lives_155 (fun u_89 H locs hφ hP hD hS => ?_)
                        obtain ⟨I_90, L_91, F_92, G_93⟩ := u_89
                        obtain ⟨p_95, p_96⟩ : (rgI (F_92 3) 0 1000000 120) ∧ ((I_90 0) = 0 ∨ (I_90 0) = 1) := hφ
                        refine W.eq (g2 := F0 m 158 ls [.int (iZ (I_90 0)), .ref hm]) rfl ?_
                        rcases (show ((I_90 0) = 0) ∨ ((I_90 0) = 1) from (by omega)) with s_97 | s_97
                        ·
                          rw [s_97]
                          refine lv_if_ne (tgt := 174) hx hb dX12_lives_158 (by decide) (fun c => absurd (by decide) c) (fun _ => ?_)
                          have hst := mSm_24 v2_32 (by omega) (by omega)
                          refine lv_aload_n hx hb dX12_lives_161 rfl (lv_at hl 2 rfl) ?_
                          refine va_get (D := D) (ci := 12) (v := .ref Ma) (C := RX12) (T := TX12) (N := 36) hx hb hts iX12 hown hK hP 2 rfl rfl 0 (by decide) (hts _ qf_X12_7) (fun _ h => h) rfl dX12_lives_162 ?_
                          refine lv_iload_n hx hb dX12_lives_165 rfl (lv_at hl 0 rfl) ?_
                          refine lv_iconst (v := iZ 4) hx hb dX12_lives_166 (by decide) ?_
                          refine lv_iadd hx hb dX12_lives_167 ?_
                          refine lv_topi (fun x_99 ex_99 => ?_)
                          obtain rfl : x_99 = iZ ((520 + (6 * v2_32)) + 4) := ex_99.trans (iZ_add (520 + (6 * v2_32)) 4)
                          refine va_iald hx hb hK hP 3 1 rfl rfl (zin (e := ((520 + (6 * v2_32)) + 4)) (n := 5340) ⟨by omega, by omega⟩ (by decide)) dX12_lives_168 ?_
                          refine lv_topi (fun x_100 ex_100 => ?_)
                          obtain rfl : x_100 = iZ (gz (F_17 0) ((520 + (6 * v2_32)) + 4)) := ex_100.trans (gz_eq ⟨by omega, by omega⟩)
                          have h_101 := gz_rg (F_17 0) ((520 + (6 * v2_32)) + 4)
                          refine lv_iconst (v := iZ 1) hx hb dX12_lives_169 (by decide) ?_
                          refine lv_iadd hx hb dX12_lives_170 ?_
                          refine lv_topi (fun x_102 ex_102 => ?_)
                          obtain rfl : x_102 = iZ ((gz (F_17 0) ((520 + (6 * v2_32)) + 4)) + 1) := ex_102.trans (iZ_add (gz (F_17 0) ((520 + (6 * v2_32)) + 4)) 1)
                          refine lv_goto (tgt := 177) hx hb dX12_lives_171 (by decide) ?_
                          refine CWV (As := [.int (iZ ((gz (F_17 0) ((520 + (6 * v2_32)) + 4)) + 1))]) (rest := []) (wc := [(hm, .inr (12, [.ref Ma, .ref Mn, .int (iZ Mst), .long Mtp, .long Mbt, .ref Ms, .ref My, .ref Mt, .ref Mp, .ref Mx, .int (iZ Mtd), .int (iZ Msz), .int (iZ Mtk), .int (iZ Mfr), .int (iZ Men), .int (iZ Mva), .int (iZ Mfk), .int (iZ Mfp), .int (iZ Mfs), .int (iZ Mse), .int (iZ Mlt), .ref Mo, .int (iZ Mdp), .int (iZ Mct), .ref Mk, .ref Ml, .ref Mb, .ref Mh, .ref Mc, .int (iZ (I_15 1)), .int (iZ (Mrsq32 + 1)), .ref Mz, .ref Mr, .ref Mq, .int (iZ Mit), .int (iZ Mmk)])), (Ma, .inl (k 1, 5340, .inl (F_17 0))), (Mz, .inl (k 1, 80, .inl f_77))]) (wr := [(Mr, .inl (k 1, 5, .inl f_28)), (Mk, .inl (k 1, 6, .inl (F_92 0))), (Ml, .inl (k 1, 6, .inl (F_92 1))), (Mb, .inl (k 1, 6, .inl (F_92 2))), (Mh, .inl (k 1, 120, .inl (F_92 3)))]) hx hb hml hown hts hKK hP hD hS hA (m_behindEnds l D k ([.ref Ma, .ref Mn, .int (iZ Mst), .long Mtp, .long Mbt, .ref Ms, .ref My, .ref Mt, .ref Mp, .ref Mx, .int (iZ Mtd), .int (iZ Msz), .int (iZ Mtk), .int (iZ Mfr), .int (iZ Men), .int (iZ Mva), .int (iZ Mfk), .int (iZ Mfp), .int (iZ Mfs), .int (iZ Mse), .int (iZ Mlt), .ref Mo, .int (iZ Mdp), .int (iZ Mct), .ref Mk, .ref Ml, .ref Mb, .ref Mh, .ref Mc, .int (iZ (I_15 1)), .int (iZ (Mrsq32 + 1)), .ref Mz, .ref Mr, .ref Mq, .int (iZ Mit), .int (iZ Mmk)]) hm Ma Mz (F_17 0) f_77 ((gz (F_17 0) ((520 + (6 * v2_32)) + 4)) + 1) rfl rfl p_20 ⟨by omega, by omega⟩) ci_X12_behindEnds qm_X12_396 ⟨Nat.le_of_ble_eq_true rfl, Nat.le_of_ble_eq_true rfl⟩ ⟨Nat.le_of_ble_eq_true rfl, Nat.le_of_ble_eq_true rfl⟩ [2, 3, 0] [1, 4, 5, 6, 7] rfl rfl rfl rfl rfl (by decide) 0 rfl rfl rfl hl.1 rfl (Nat.le_of_ble_eq_true rfl) dX12_lives_177 (fun u_103 H locs hφ hP hD hS => ?_)
                          obtain ⟨I_104, L_105, F_106, G_107⟩ := u_103
                          have p_109 : 0 ≤ (I_104 0) ∧ (I_104 0) ≤ 60 := hφ
                          refine W.eq (g2 := F0 m 180 ls [.int (iZ (I_104 0))]) rfl ?_
                          refine lv_istore_n (lv' := [(2, .int (iZ (I_104 0))), (3, .int (iZ (520 + (6 * v2_32)))), (0, .ref hm), (1, .int (iZ x))]) hx hb dX12_lives_180 rfl hl (by decide) rfl (fun ls hl => ?_)
                          refine lv_goto (tgt := 32) hx hb dX12_lives_181 (by decide) ?_
                          exact ih32  (I_104 0) (I_15 1) (Mrsq32 + 1) (F_17 0) (F_92 0) (F_92 1) (F_92 2) (F_92 3) (F_106 0) f_28 _ _ _ (by omega) (show (0 ≤ (I_104 0) ∧ (I_104 0) ≤ (60) + 1) from ⟨by omega, by omega⟩) (show 0 ≤ (Mrsq32 + 1) ∧ (Mrsq32 + 1) ≤ 200 from ⟨by omega, by omega⟩) (show 0 ≤ (I_15 1) ∧ (I_15 1) ≤ 65535 from ⟨by omega, by omega⟩) (show rgI (F_92 3) 0 1000000 120 from p_95) (show M0 (F_17 0) from p_20) (show FR (F_17 0) Af from (FR.tr p_21 hF32)) (hP.sub [5, 6, 1, 2, 3, 4, 7, 0] rfl) (hD.sub [5, 6, 1, 2, 3, 4, 7, 0] rfl rfl) hS (lv_sub hl [0, 2, 3] rfl)
                        ·
                          rw [s_97]
                          refine lv_if_ne (tgt := 174) hx hb dX12_lives_158 (by decide) (fun _ => ?_) (fun c => absurd c (by decide))
                          refine lv_iload_n hx hb dX12_lives_174 rfl (lv_at hl 1 rfl) ?_
                          refine lv_iconst (v := iZ 1) hx hb dX12_lives_175 (by decide) ?_
                          refine lv_iadd hx hb dX12_lives_176 ?_
                          refine lv_topi (fun x_111 ex_111 => ?_)
                          obtain rfl : x_111 = iZ (v2_32 + 1) := ex_111.trans (iZ_add v2_32 1)
                          refine CWV (As := [.int (iZ (v2_32 + 1))]) (rest := []) (wc := [(hm, .inr (12, [.ref Ma, .ref Mn, .int (iZ Mst), .long Mtp, .long Mbt, .ref Ms, .ref My, .ref Mt, .ref Mp, .ref Mx, .int (iZ Mtd), .int (iZ Msz), .int (iZ Mtk), .int (iZ Mfr), .int (iZ Men), .int (iZ Mva), .int (iZ Mfk), .int (iZ Mfp), .int (iZ Mfs), .int (iZ Mse), .int (iZ Mlt), .ref Mo, .int (iZ Mdp), .int (iZ Mct), .ref Mk, .ref Ml, .ref Mb, .ref Mh, .ref Mc, .int (iZ (I_15 1)), .int (iZ (Mrsq32 + 1)), .ref Mz, .ref Mr, .ref Mq, .int (iZ Mit), .int (iZ Mmk)])), (Ma, .inl (k 1, 5340, .inl (F_17 0))), (Mz, .inl (k 1, 80, .inl f_77))]) (wr := [(Mr, .inl (k 1, 5, .inl f_28)), (Mk, .inl (k 1, 6, .inl (F_92 0))), (Ml, .inl (k 1, 6, .inl (F_92 1))), (Mb, .inl (k 1, 6, .inl (F_92 2))), (Mh, .inl (k 1, 120, .inl (F_92 3)))]) hx hb hml hown hts hKK hP hD hS hA (m_behindEnds l D k ([.ref Ma, .ref Mn, .int (iZ Mst), .long Mtp, .long Mbt, .ref Ms, .ref My, .ref Mt, .ref Mp, .ref Mx, .int (iZ Mtd), .int (iZ Msz), .int (iZ Mtk), .int (iZ Mfr), .int (iZ Men), .int (iZ Mva), .int (iZ Mfk), .int (iZ Mfp), .int (iZ Mfs), .int (iZ Mse), .int (iZ Mlt), .ref Mo, .int (iZ Mdp), .int (iZ Mct), .ref Mk, .ref Ml, .ref Mb, .ref Mh, .ref Mc, .int (iZ (I_15 1)), .int (iZ (Mrsq32 + 1)), .ref Mz, .ref Mr, .ref Mq, .int (iZ Mit), .int (iZ Mmk)]) hm Ma Mz (F_17 0) f_77 (v2_32 + 1) rfl rfl p_20 ⟨by omega, by omega⟩) ci_X12_behindEnds qm_X12_396 ⟨Nat.le_of_ble_eq_true rfl, Nat.le_of_ble_eq_true rfl⟩ ⟨Nat.le_of_ble_eq_true rfl, Nat.le_of_ble_eq_true rfl⟩ [2, 3, 0] [1, 4, 5, 6, 7] rfl rfl rfl rfl rfl (by decide) 0 rfl rfl rfl hl.1 rfl (Nat.le_of_ble_eq_true rfl) dX12_lives_177 (fun u_112 H locs hφ hP hD hS => ?_)
                          obtain ⟨I_113, L_114, F_115, G_116⟩ := u_112
                          have p_118 : 0 ≤ (I_113 0) ∧ (I_113 0) ≤ 60 := hφ
                          refine W.eq (g2 := F0 m 180 ls [.int (iZ (I_113 0))]) rfl ?_
                          refine lv_istore_n (lv' := [(2, .int (iZ (I_113 0))), (3, .int (iZ (520 + (6 * v2_32)))), (0, .ref hm), (1, .int (iZ x))]) hx hb dX12_lives_180 rfl hl (by decide) rfl (fun ls hl => ?_)
                          refine lv_goto (tgt := 32) hx hb dX12_lives_181 (by decide) ?_
                          exact ih32  (I_113 0) (I_15 1) (Mrsq32 + 1) (F_17 0) (F_92 0) (F_92 1) (F_92 2) (F_92 3) (F_115 0) f_28 _ _ _ (by omega) (show (0 ≤ (I_113 0) ∧ (I_113 0) ≤ (60) + 1) from ⟨by omega, by omega⟩) (show 0 ≤ (Mrsq32 + 1) ∧ (Mrsq32 + 1) ≤ 200 from ⟨by omega, by omega⟩) (show 0 ≤ (I_15 1) ∧ (I_15 1) ≤ 65535 from ⟨by omega, by omega⟩) (show rgI (F_92 3) 0 1000000 120 from p_95) (show M0 (F_17 0) from p_20) (show FR (F_17 0) Af from (FR.tr p_21 hF32)) (hP.sub [5, 6, 1, 2, 3, 4, 7, 0] rfl) (hD.sub [5, 6, 1, 2, 3, 4, 7, 0] rfl rfl) hS (lv_sub hl [0, 2, 3] rfl)
                  ·
                    rw [s_25]
                    refine lv_if_eq (tgt := 110) hx hb dX12_lives_103 (by decide) (fun c => absurd c (by decide)) (fun _ => ?_)
                    refine lv_iconst (v := iZ 0) hx hb dX12_lives_106 (by decide) ?_
                    refine lv_goto (tgt := 111) hx hb dX12_lives_107 (by decide) ?_
                    refine lv_iadd hx hb dX12_lives_111 ?_
                    refine lv_topi (fun x_120 ex_120 => ?_)
                    obtain rfl : x_120 = iZ ((gz Rfq32 0) + 0) := ex_120.trans (iZ_add (gz Rfq32 0) 0)
                    refine va_iast hx hb hK hP hD hS 7 1 rfl rfl (zin (e := 0) (n := 5) ⟨by omega, by omega⟩ (by decide)) dX12_lives_112 (fun H locs hP hD hS => ?_)
                    obtain ⟨f_121, hf_121⟩ : ∃ gg9, gg9 = upd (F_17 1) (iZ 0).toNatClampNeg (iZ ((gz Rfq32 0) + 0)) := ⟨_, rfl⟩
                    rw [← hf_121] at hP hD
                    refine lv_aload_n hx hb dX12_lives_113 rfl (lv_at hl 2 rfl) ?_
                    refine va_get (D := D) (ci := 12) (v := .ref Ma) (C := RX12) (T := TX12) (N := 36) hx hb hts iX12 hown hK hP 5 rfl rfl 0 (by decide) (hts _ qf_X12_7) (fun _ h => h) rfl dX12_lives_114 ?_
                    refine lv_iload_n hx hb dX12_lives_117 rfl (lv_at hl 0 rfl) ?_
                    refine va_iald hx hb hK hP 6 1 rfl rfl (zin (e := (520 + (6 * v2_32))) (n := 5340) ⟨by omega, by omega⟩ (by decide)) dX12_lives_118 ?_
                    refine lv_topi (fun x_122 ex_122 => ?_)
                    obtain rfl : x_122 = iZ (gz (F_17 0) (520 + (6 * v2_32))) := ex_122.trans (gz_eq ⟨by omega, by omega⟩)
                    have h_123 := gz_rg (F_17 0) (520 + (6 * v2_32))
                    refine lv_bipush (v := iZ 20) hx hb dX12_lives_119 (by decide) ?_
                    refine lv_icmp_ne (tgt := 140) hx hb dX12_lives_121 (by decide) (fun c_124 => ?_) (fun c_124 => ?_)
                    ·
                      have c_124 := mt (zeq (x := iZ (gz (F_17 0) (520 + (6 * v2_32)))) (y := iZ 20) rfl rfl ⟨by omega, by omega⟩ ⟨by omega, by omega⟩).mpr c_124
                      refine lv_aload_n hx hb dX12_lives_140 rfl (lv_at hl 2 rfl) ?_
                      refine lv_aload_n hx hb dX12_lives_141 rfl (lv_at hl 2 rfl) ?_
                      refine va_get (D := D) (ci := 12) (v := .ref Ma) (C := RX12) (T := TX12) (N := 36) hx hb hts iX12 hown hK hP 5 rfl rfl 0 (by decide) (hts _ qf_X12_7) (fun _ h => h) rfl dX12_lives_142 ?_
                      refine lv_iload_n hx hb dX12_lives_145 rfl (lv_at hl 0 rfl) ?_
                      refine va_iald hx hb hK hP 6 1 rfl rfl (zin (e := (520 + (6 * v2_32))) (n := 5340) ⟨by omega, by omega⟩ (by decide)) dX12_lives_146 ?_
                      refine lv_topi (fun x_125 ex_125 => ?_)
                      obtain rfl : x_125 = iZ (gz (F_17 0) (520 + (6 * v2_32))) := ex_125.trans (gz_eq ⟨by omega, by omega⟩)
                      have h_126 := gz_rg (F_17 0) (520 + (6 * v2_32))
                      refine lv_sipush (v := iZ 1900) hx hb dX12_lives_147 (by decide) ?_
                      refine lv_icmp_lt (tgt := 174) hx hb dX12_lives_150 (by decide) (fun c_127 => ?_) (fun c_127 => ?_)
                      ·
                        have c_127 := (zlt (x := iZ (gz (F_17 0) (520 + (6 * v2_32)))) (y := iZ 1900) rfl rfl ⟨by omega, by omega⟩ ⟨by omega, by omega⟩).mp c_127
                        refine lv_iload_n hx hb dX12_lives_174 rfl (lv_at hl 1 rfl) ?_
                        refine lv_iconst (v := iZ 1) hx hb dX12_lives_175 (by decide) ?_
                        refine lv_iadd hx hb dX12_lives_176 ?_
                        refine lv_topi (fun x_128 ex_128 => ?_)
                        obtain rfl : x_128 = iZ (v2_32 + 1) := ex_128.trans (iZ_add v2_32 1)
                        refine CWV (As := [.int (iZ (v2_32 + 1))]) (rest := []) (wc := [(hm, .inr (12, [.ref Ma, .ref Mn, .int (iZ Mst), .long Mtp, .long Mbt, .ref Ms, .ref My, .ref Mt, .ref Mp, .ref Mx, .int (iZ Mtd), .int (iZ Msz), .int (iZ Mtk), .int (iZ Mfr), .int (iZ Men), .int (iZ Mva), .int (iZ Mfk), .int (iZ Mfp), .int (iZ Mfs), .int (iZ Mse), .int (iZ Mlt), .ref Mo, .int (iZ Mdp), .int (iZ Mct), .ref Mk, .ref Ml, .ref Mb, .ref Mh, .ref Mc, .int (iZ (I_15 1)), .int (iZ (Mrsq32 + 1)), .ref Mz, .ref Mr, .ref Mq, .int (iZ Mit), .int (iZ Mmk)])), (Ma, .inl (k 1, 5340, .inl (F_17 0))), (Mz, .inl (k 1, 80, .inl Zfq32))]) (wr := [(Mk, .inl (k 1, 6, .inl Kfq32)), (Ml, .inl (k 1, 6, .inl Lfq32)), (Mb, .inl (k 1, 6, .inl Bfq32)), (Mh, .inl (k 1, 120, .inl Hfq32)), (Mr, .inl (k 1, 5, .inl f_121))]) hx hb hml hown hts hKK hP hD hS hA (m_behindEnds l D k ([.ref Ma, .ref Mn, .int (iZ Mst), .long Mtp, .long Mbt, .ref Ms, .ref My, .ref Mt, .ref Mp, .ref Mx, .int (iZ Mtd), .int (iZ Msz), .int (iZ Mtk), .int (iZ Mfr), .int (iZ Men), .int (iZ Mva), .int (iZ Mfk), .int (iZ Mfp), .int (iZ Mfs), .int (iZ Mse), .int (iZ Mlt), .ref Mo, .int (iZ Mdp), .int (iZ Mct), .ref Mk, .ref Ml, .ref Mb, .ref Mh, .ref Mc, .int (iZ (I_15 1)), .int (iZ (Mrsq32 + 1)), .ref Mz, .ref Mr, .ref Mq, .int (iZ Mit), .int (iZ Mmk)]) hm Ma Mz (F_17 0) Zfq32 (v2_32 + 1) rfl rfl p_20 ⟨by omega, by omega⟩) ci_X12_behindEnds qm_X12_396 ⟨Nat.le_of_ble_eq_true rfl, Nat.le_of_ble_eq_true rfl⟩ ⟨Nat.le_of_ble_eq_true rfl, Nat.le_of_ble_eq_true rfl⟩ [5, 6, 4] [0, 1, 2, 3, 7] rfl rfl rfl rfl rfl (by decide) 0 rfl rfl rfl hl.1 rfl (Nat.le_of_ble_eq_true rfl) dX12_lives_177 (fun u_129 H locs hφ hP hD hS => ?_)
                        obtain ⟨I_130, L_131, F_132, G_133⟩ := u_129
                        have p_135 : 0 ≤ (I_130 0) ∧ (I_130 0) ≤ 60 := hφ
                        refine W.eq (g2 := F0 m 180 ls [.int (iZ (I_130 0))]) rfl ?_
                        refine lv_istore_n (lv' := [(2, .int (iZ (I_130 0))), (3, .int (iZ (520 + (6 * v2_32)))), (0, .ref hm), (1, .int (iZ x))]) hx hb dX12_lives_180 rfl hl (by decide) rfl (fun ls hl => ?_)
                        refine lv_goto (tgt := 32) hx hb dX12_lives_181 (by decide) ?_
                        exact ih32  (I_130 0) (I_15 1) (Mrsq32 + 1) (F_17 0) Kfq32 Lfq32 Bfq32 Hfq32 (F_132 0) f_121 _ _ _ (by omega) (show (0 ≤ (I_130 0) ∧ (I_130 0) ≤ (60) + 1) from ⟨by omega, by omega⟩) (show 0 ≤ (Mrsq32 + 1) ∧ (Mrsq32 + 1) ≤ 200 from ⟨by omega, by omega⟩) (show 0 ≤ (I_15 1) ∧ (I_15 1) ≤ 65535 from ⟨by omega, by omega⟩) (show rgI Hfq32 0 1000000 120 from rgh2) (show M0 (F_17 0) from p_20) (show FR (F_17 0) Af from (FR.tr p_21 hF32)) (hP.sub [5, 6, 0, 1, 2, 3, 7, 4] rfl) (hD.sub [5, 6, 0, 1, 2, 3, 7, 4] rfl rfl) hS (lv_sub hl [0, 2, 3] rfl)
                      ·
                        have c_127 := mt (zlt (x := iZ (gz (F_17 0) (520 + (6 * v2_32)))) (y := iZ 1900) rfl rfl ⟨by omega, by omega⟩ ⟨by omega, by omega⟩).mpr c_127
                        refine lv_aload_n hx hb dX12_lives_153 rfl (lv_at hl 2 rfl) ?_
                        refine lv_iload_n hx hb dX12_lives_154 rfl (lv_at hl 0 rfl) ?_
                        refine CWV (As := [.int (iZ (520 + (6 * v2_32)))]) (rest := [.ref hm]) (wc := [(hm, .inr (12, [.ref Ma, .ref Mn, .int (iZ Mst), .long Mtp, .long Mbt, .ref Ms, .ref My, .ref Mt, .ref Mp, .ref Mx, .int (iZ Mtd), .int (iZ Msz), .int (iZ Mtk), .int (iZ Mfr), .int (iZ Men), .int (iZ Mva), .int (iZ Mfk), .int (iZ Mfp), .int (iZ Mfs), .int (iZ Mse), .int (iZ Mlt), .ref Mo, .int (iZ Mdp), .int (iZ Mct), .ref Mk, .ref Ml, .ref Mb, .ref Mh, .ref Mc, .int (iZ (I_15 1)), .int (iZ (Mrsq32 + 1)), .ref Mz, .ref Mr, .ref Mq, .int (iZ Mit), .int (iZ Mmk)])), (Ma, .inl (k 1, 5340, .inl (F_17 0))), (Mk, .inl (k 1, 6, .inl Kfq32)), (Ml, .inl (k 1, 6, .inl Lfq32)), (Mb, .inl (k 1, 6, .inl Bfq32)), (Mh, .inl (k 1, 120, .inl Hfq32))]) (wr := [(Mz, .inl (k 1, 80, .inl Zfq32)), (Mr, .inl (k 1, 5, .inl f_121))]) hx hb hml hown hts hKK hP hD hS hA (m_holds l D k hm Ma Mn Ms My Mt Mp Mx Mo Mk Ml Mb Mh Mc Mz Mr Mq Mst Mtd Msz Mtk Mfr Men Mva Mfk Mfp Mfs Mse Mlt Mdp Mct (I_15 1) (Mrsq32 + 1) Mit Mmk Mtp Mbt (F_17 0) Kfq32 Lfq32 Bfq32 Hfq32 (520 + (6 * v2_32)) p_20 ⟨⟨by omega, by omega⟩, by omega⟩ rgh2 (by omega)) ci_X12_holds qm_X12_393 ⟨Nat.le_of_ble_eq_true rfl, Nat.le_of_ble_eq_true rfl⟩ ⟨Nat.le_of_ble_eq_true rfl, Nat.le_of_ble_eq_true rfl⟩ [5, 6, 0, 1, 2, 3] [4, 7] rfl rfl rfl rfl rfl (by decide) 0 rfl rfl rfl hl.1 rfl (Nat.le_of_ble_eq_true rfl) dX12_lives_155 (fun u_136 H locs hφ hP hD hS => ?_)
                        obtain ⟨I_137, L_138, F_139, G_140⟩ := u_136
                        obtain ⟨p_142, p_143⟩ : (rgI (F_139 3) 0 1000000 120) ∧ ((I_137 0) = 0 ∨ (I_137 0) = 1) := hφ
                        refine W.eq (g2 := F0 m 158 ls [.int (iZ (I_137 0)), .ref hm]) rfl ?_
                        rcases (show ((I_137 0) = 0) ∨ ((I_137 0) = 1) from (by omega)) with s_144 | s_144
                        ·
                          rw [s_144]
                          refine lv_if_ne (tgt := 174) hx hb dX12_lives_158 (by decide) (fun c => absurd (by decide) c) (fun _ => ?_)
                          have hst := mSm_24 v2_32 (by omega) (by omega)
                          refine lv_aload_n hx hb dX12_lives_161 rfl (lv_at hl 2 rfl) ?_
                          refine va_get (D := D) (ci := 12) (v := .ref Ma) (C := RX12) (T := TX12) (N := 36) hx hb hts iX12 hown hK hP 2 rfl rfl 0 (by decide) (hts _ qf_X12_7) (fun _ h => h) rfl dX12_lives_162 ?_
                          refine lv_iload_n hx hb dX12_lives_165 rfl (lv_at hl 0 rfl) ?_
                          refine lv_iconst (v := iZ 4) hx hb dX12_lives_166 (by decide) ?_
                          refine lv_iadd hx hb dX12_lives_167 ?_
                          refine lv_topi (fun x_146 ex_146 => ?_)
                          obtain rfl : x_146 = iZ ((520 + (6 * v2_32)) + 4) := ex_146.trans (iZ_add (520 + (6 * v2_32)) 4)
                          refine va_iald hx hb hK hP 3 1 rfl rfl (zin (e := ((520 + (6 * v2_32)) + 4)) (n := 5340) ⟨by omega, by omega⟩ (by decide)) dX12_lives_168 ?_
                          refine lv_topi (fun x_147 ex_147 => ?_)
                          obtain rfl : x_147 = iZ (gz (F_17 0) ((520 + (6 * v2_32)) + 4)) := ex_147.trans (gz_eq ⟨by omega, by omega⟩)
                          have h_148 := gz_rg (F_17 0) ((520 + (6 * v2_32)) + 4)
                          refine lv_iconst (v := iZ 1) hx hb dX12_lives_169 (by decide) ?_
                          refine lv_iadd hx hb dX12_lives_170 ?_
                          refine lv_topi (fun x_149 ex_149 => ?_)
                          obtain rfl : x_149 = iZ ((gz (F_17 0) ((520 + (6 * v2_32)) + 4)) + 1) := ex_149.trans (iZ_add (gz (F_17 0) ((520 + (6 * v2_32)) + 4)) 1)
                          refine lv_goto (tgt := 177) hx hb dX12_lives_171 (by decide) ?_
                          refine CWV (As := [.int (iZ ((gz (F_17 0) ((520 + (6 * v2_32)) + 4)) + 1))]) (rest := []) (wc := [(hm, .inr (12, [.ref Ma, .ref Mn, .int (iZ Mst), .long Mtp, .long Mbt, .ref Ms, .ref My, .ref Mt, .ref Mp, .ref Mx, .int (iZ Mtd), .int (iZ Msz), .int (iZ Mtk), .int (iZ Mfr), .int (iZ Men), .int (iZ Mva), .int (iZ Mfk), .int (iZ Mfp), .int (iZ Mfs), .int (iZ Mse), .int (iZ Mlt), .ref Mo, .int (iZ Mdp), .int (iZ Mct), .ref Mk, .ref Ml, .ref Mb, .ref Mh, .ref Mc, .int (iZ (I_15 1)), .int (iZ (Mrsq32 + 1)), .ref Mz, .ref Mr, .ref Mq, .int (iZ Mit), .int (iZ Mmk)])), (Ma, .inl (k 1, 5340, .inl (F_17 0))), (Mz, .inl (k 1, 80, .inl Zfq32))]) (wr := [(Mr, .inl (k 1, 5, .inl f_121)), (Mk, .inl (k 1, 6, .inl (F_139 0))), (Ml, .inl (k 1, 6, .inl (F_139 1))), (Mb, .inl (k 1, 6, .inl (F_139 2))), (Mh, .inl (k 1, 120, .inl (F_139 3)))]) hx hb hml hown hts hKK hP hD hS hA (m_behindEnds l D k ([.ref Ma, .ref Mn, .int (iZ Mst), .long Mtp, .long Mbt, .ref Ms, .ref My, .ref Mt, .ref Mp, .ref Mx, .int (iZ Mtd), .int (iZ Msz), .int (iZ Mtk), .int (iZ Mfr), .int (iZ Men), .int (iZ Mva), .int (iZ Mfk), .int (iZ Mfp), .int (iZ Mfs), .int (iZ Mse), .int (iZ Mlt), .ref Mo, .int (iZ Mdp), .int (iZ Mct), .ref Mk, .ref Ml, .ref Mb, .ref Mh, .ref Mc, .int (iZ (I_15 1)), .int (iZ (Mrsq32 + 1)), .ref Mz, .ref Mr, .ref Mq, .int (iZ Mit), .int (iZ Mmk)]) hm Ma Mz (F_17 0) Zfq32 ((gz (F_17 0) ((520 + (6 * v2_32)) + 4)) + 1) rfl rfl p_20 ⟨by omega, by omega⟩) ci_X12_behindEnds qm_X12_396 ⟨Nat.le_of_ble_eq_true rfl, Nat.le_of_ble_eq_true rfl⟩ ⟨Nat.le_of_ble_eq_true rfl, Nat.le_of_ble_eq_true rfl⟩ [2, 3, 0] [1, 4, 5, 6, 7] rfl rfl rfl rfl rfl (by decide) 0 rfl rfl rfl hl.1 rfl (Nat.le_of_ble_eq_true rfl) dX12_lives_177 (fun u_150 H locs hφ hP hD hS => ?_)
                          obtain ⟨I_151, L_152, F_153, G_154⟩ := u_150
                          have p_156 : 0 ≤ (I_151 0) ∧ (I_151 0) ≤ 60 := hφ
                          refine W.eq (g2 := F0 m 180 ls [.int (iZ (I_151 0))]) rfl ?_
                          refine lv_istore_n (lv' := [(2, .int (iZ (I_151 0))), (3, .int (iZ (520 + (6 * v2_32)))), (0, .ref hm), (1, .int (iZ x))]) hx hb dX12_lives_180 rfl hl (by decide) rfl (fun ls hl => ?_)
                          refine lv_goto (tgt := 32) hx hb dX12_lives_181 (by decide) ?_
                          exact ih32  (I_151 0) (I_15 1) (Mrsq32 + 1) (F_17 0) (F_139 0) (F_139 1) (F_139 2) (F_139 3) (F_153 0) f_121 _ _ _ (by omega) (show (0 ≤ (I_151 0) ∧ (I_151 0) ≤ (60) + 1) from ⟨by omega, by omega⟩) (show 0 ≤ (Mrsq32 + 1) ∧ (Mrsq32 + 1) ≤ 200 from ⟨by omega, by omega⟩) (show 0 ≤ (I_15 1) ∧ (I_15 1) ≤ 65535 from ⟨by omega, by omega⟩) (show rgI (F_139 3) 0 1000000 120 from p_142) (show M0 (F_17 0) from p_20) (show FR (F_17 0) Af from (FR.tr p_21 hF32)) (hP.sub [5, 6, 1, 2, 3, 4, 7, 0] rfl) (hD.sub [5, 6, 1, 2, 3, 4, 7, 0] rfl rfl) hS (lv_sub hl [0, 2, 3] rfl)
                        ·
                          rw [s_144]
                          refine lv_if_ne (tgt := 174) hx hb dX12_lives_158 (by decide) (fun _ => ?_) (fun c => absurd c (by decide))
                          refine lv_iload_n hx hb dX12_lives_174 rfl (lv_at hl 1 rfl) ?_
                          refine lv_iconst (v := iZ 1) hx hb dX12_lives_175 (by decide) ?_
                          refine lv_iadd hx hb dX12_lives_176 ?_
                          refine lv_topi (fun x_158 ex_158 => ?_)
                          obtain rfl : x_158 = iZ (v2_32 + 1) := ex_158.trans (iZ_add v2_32 1)
                          refine CWV (As := [.int (iZ (v2_32 + 1))]) (rest := []) (wc := [(hm, .inr (12, [.ref Ma, .ref Mn, .int (iZ Mst), .long Mtp, .long Mbt, .ref Ms, .ref My, .ref Mt, .ref Mp, .ref Mx, .int (iZ Mtd), .int (iZ Msz), .int (iZ Mtk), .int (iZ Mfr), .int (iZ Men), .int (iZ Mva), .int (iZ Mfk), .int (iZ Mfp), .int (iZ Mfs), .int (iZ Mse), .int (iZ Mlt), .ref Mo, .int (iZ Mdp), .int (iZ Mct), .ref Mk, .ref Ml, .ref Mb, .ref Mh, .ref Mc, .int (iZ (I_15 1)), .int (iZ (Mrsq32 + 1)), .ref Mz, .ref Mr, .ref Mq, .int (iZ Mit), .int (iZ Mmk)])), (Ma, .inl (k 1, 5340, .inl (F_17 0))), (Mz, .inl (k 1, 80, .inl Zfq32))]) (wr := [(Mr, .inl (k 1, 5, .inl f_121)), (Mk, .inl (k 1, 6, .inl (F_139 0))), (Ml, .inl (k 1, 6, .inl (F_139 1))), (Mb, .inl (k 1, 6, .inl (F_139 2))), (Mh, .inl (k 1, 120, .inl (F_139 3)))]) hx hb hml hown hts hKK hP hD hS hA (m_behindEnds l D k ([.ref Ma, .ref Mn, .int (iZ Mst), .long Mtp, .long Mbt, .ref Ms, .ref My, .ref Mt, .ref Mp, .ref Mx, .int (iZ Mtd), .int (iZ Msz), .int (iZ Mtk), .int (iZ Mfr), .int (iZ Men), .int (iZ Mva), .int (iZ Mfk), .int (iZ Mfp), .int (iZ Mfs), .int (iZ Mse), .int (iZ Mlt), .ref Mo, .int (iZ Mdp), .int (iZ Mct), .ref Mk, .ref Ml, .ref Mb, .ref Mh, .ref Mc, .int (iZ (I_15 1)), .int (iZ (Mrsq32 + 1)), .ref Mz, .ref Mr, .ref Mq, .int (iZ Mit), .int (iZ Mmk)]) hm Ma Mz (F_17 0) Zfq32 (v2_32 + 1) rfl rfl p_20 ⟨by omega, by omega⟩) ci_X12_behindEnds qm_X12_396 ⟨Nat.le_of_ble_eq_true rfl, Nat.le_of_ble_eq_true rfl⟩ ⟨Nat.le_of_ble_eq_true rfl, Nat.le_of_ble_eq_true rfl⟩ [2, 3, 0] [1, 4, 5, 6, 7] rfl rfl rfl rfl rfl (by decide) 0 rfl rfl rfl hl.1 rfl (Nat.le_of_ble_eq_true rfl) dX12_lives_177 (fun u_159 H locs hφ hP hD hS => ?_)
                          obtain ⟨I_160, L_161, F_162, G_163⟩ := u_159
                          have p_165 : 0 ≤ (I_160 0) ∧ (I_160 0) ≤ 60 := hφ
                          refine W.eq (g2 := F0 m 180 ls [.int (iZ (I_160 0))]) rfl ?_
                          refine lv_istore_n (lv' := [(2, .int (iZ (I_160 0))), (3, .int (iZ (520 + (6 * v2_32)))), (0, .ref hm), (1, .int (iZ x))]) hx hb dX12_lives_180 rfl hl (by decide) rfl (fun ls hl => ?_)
                          refine lv_goto (tgt := 32) hx hb dX12_lives_181 (by decide) ?_
                          exact ih32  (I_160 0) (I_15 1) (Mrsq32 + 1) (F_17 0) (F_139 0) (F_139 1) (F_139 2) (F_139 3) (F_162 0) f_121 _ _ _ (by omega) (show (0 ≤ (I_160 0) ∧ (I_160 0) ≤ (60) + 1) from ⟨by omega, by omega⟩) (show 0 ≤ (Mrsq32 + 1) ∧ (Mrsq32 + 1) ≤ 200 from ⟨by omega, by omega⟩) (show 0 ≤ (I_15 1) ∧ (I_15 1) ≤ 65535 from ⟨by omega, by omega⟩) (show rgI (F_139 3) 0 1000000 120 from p_142) (show M0 (F_17 0) from p_20) (show FR (F_17 0) Af from (FR.tr p_21 hF32)) (hP.sub [5, 6, 1, 2, 3, 4, 7, 0] rfl) (hD.sub [5, 6, 1, 2, 3, 4, 7, 0] rfl rfl) hS (lv_sub hl [0, 2, 3] rfl)
                    ·
                      have c_124 := (zeq (x := iZ (gz (F_17 0) (520 + (6 * v2_32)))) (y := iZ 20) rfl rfl ⟨by omega, by omega⟩ ⟨by omega, by omega⟩).mp c_124
                      refine lv_aload_n hx hb dX12_lives_124 rfl (lv_at hl 2 rfl) ?_
                      refine va_get (D := D) (ci := 12) (v := .ref Mz) (C := RX12) (T := TX12) (N := 36) hx hb hts iX12 hown hK hP 5 rfl rfl 31 (by decide) (hts _ qf_X12_62) (fun _ h => h) rfl dX12_lives_125 ?_
                      refine lv_iload_n hx hb dX12_lives_128 rfl (lv_at hl 1 rfl) ?_
                      refine lv_aload_n hx hb dX12_lives_129 rfl (lv_at hl 2 rfl) ?_
                      refine va_get (D := D) (ci := 12) (v := .ref Ma) (C := RX12) (T := TX12) (N := 36) hx hb hts iX12 hown hK hP 5 rfl rfl 0 (by decide) (hts _ qf_X12_7) (fun _ h => h) rfl dX12_lives_130 ?_
                      refine lv_iload_n hx hb dX12_lives_133 rfl (lv_at hl 0 rfl) ?_
                      refine lv_iconst (v := iZ 1) hx hb dX12_lives_134 (by decide) ?_
                      refine lv_iadd hx hb dX12_lives_135 ?_
                      refine lv_topi (fun x_166 ex_166 => ?_)
                      obtain rfl : x_166 = iZ ((520 + (6 * v2_32)) + 1) := ex_166.trans (iZ_add (520 + (6 * v2_32)) 1)
                      refine va_iald hx hb hK hP 6 1 rfl rfl (zin (e := ((520 + (6 * v2_32)) + 1)) (n := 5340) ⟨by omega, by omega⟩ (by decide)) dX12_lives_136 ?_
                      refine lv_topi (fun x_167 ex_167 => ?_)
                      obtain rfl : x_167 = iZ (gz (F_17 0) ((520 + (6 * v2_32)) + 1)) := ex_167.trans (gz_eq ⟨by omega, by omega⟩)
                      have h_168 := gz_rg (F_17 0) ((520 + (6 * v2_32)) + 1)
                      refine lv_iconst (v := iZ 1) hx hb dX12_lives_137 (by decide) ?_
                      refine lv_isub hx hb dX12_lives_138 ?_
                      refine lv_topi (fun x_169 ex_169 => ?_)
                      obtain rfl : x_169 = iZ ((gz (F_17 0) ((520 + (6 * v2_32)) + 1)) - 1) := ex_169.trans (iZ_sub (gz (F_17 0) ((520 + (6 * v2_32)) + 1)) 1)
                      refine va_iast hx hb hK hP hD hS 4 1 rfl rfl (zin (e := v2_32) (n := 80) ⟨by omega, by omega⟩ (by decide)) dX12_lives_139 (fun H locs hP hD hS => ?_)
                      obtain ⟨f_170, hf_170⟩ : ∃ gg9, gg9 = upd Zfq32 (iZ v2_32).toNatClampNeg (iZ ((gz (F_17 0) ((520 + (6 * v2_32)) + 1)) - 1)) := ⟨_, rfl⟩
                      rw [← hf_170] at hP hD
                      refine lv_aload_n hx hb dX12_lives_140 rfl (lv_at hl 2 rfl) ?_
                      refine lv_aload_n hx hb dX12_lives_141 rfl (lv_at hl 2 rfl) ?_
                      refine va_get (D := D) (ci := 12) (v := .ref Ma) (C := RX12) (T := TX12) (N := 36) hx hb hts iX12 hown hK hP 5 rfl rfl 0 (by decide) (hts _ qf_X12_7) (fun _ h => h) rfl dX12_lives_142 ?_
                      refine lv_iload_n hx hb dX12_lives_145 rfl (lv_at hl 0 rfl) ?_
                      refine va_iald hx hb hK hP 6 1 rfl rfl (zin (e := (520 + (6 * v2_32))) (n := 5340) ⟨by omega, by omega⟩ (by decide)) dX12_lives_146 ?_
                      refine lv_topi (fun x_171 ex_171 => ?_)
                      obtain rfl : x_171 = iZ (gz (F_17 0) (520 + (6 * v2_32))) := ex_171.trans (gz_eq ⟨by omega, by omega⟩)
                      have h_172 := gz_rg (F_17 0) (520 + (6 * v2_32))
                      refine lv_sipush (v := iZ 1900) hx hb dX12_lives_147 (by decide) ?_
                      refine lv_icmp_lt (tgt := 174) hx hb dX12_lives_150 (by decide) (fun c_173 => ?_) (fun c_173 => ?_)
                      ·
                        have c_173 := (zlt (x := iZ (gz (F_17 0) (520 + (6 * v2_32)))) (y := iZ 1900) rfl rfl ⟨by omega, by omega⟩ ⟨by omega, by omega⟩).mp c_173
                        refine lv_iload_n hx hb dX12_lives_174 rfl (lv_at hl 1 rfl) ?_
                        refine lv_iconst (v := iZ 1) hx hb dX12_lives_175 (by decide) ?_
                        refine lv_iadd hx hb dX12_lives_176 ?_
                        refine lv_topi (fun x_174 ex_174 => ?_)
                        obtain rfl : x_174 = iZ (v2_32 + 1) := ex_174.trans (iZ_add v2_32 1)
                        refine CWV (As := [.int (iZ (v2_32 + 1))]) (rest := []) (wc := [(hm, .inr (12, [.ref Ma, .ref Mn, .int (iZ Mst), .long Mtp, .long Mbt, .ref Ms, .ref My, .ref Mt, .ref Mp, .ref Mx, .int (iZ Mtd), .int (iZ Msz), .int (iZ Mtk), .int (iZ Mfr), .int (iZ Men), .int (iZ Mva), .int (iZ Mfk), .int (iZ Mfp), .int (iZ Mfs), .int (iZ Mse), .int (iZ Mlt), .ref Mo, .int (iZ Mdp), .int (iZ Mct), .ref Mk, .ref Ml, .ref Mb, .ref Mh, .ref Mc, .int (iZ (I_15 1)), .int (iZ (Mrsq32 + 1)), .ref Mz, .ref Mr, .ref Mq, .int (iZ Mit), .int (iZ Mmk)])), (Ma, .inl (k 1, 5340, .inl (F_17 0))), (Mz, .inl (k 1, 80, .inl f_170))]) (wr := [(Mk, .inl (k 1, 6, .inl Kfq32)), (Ml, .inl (k 1, 6, .inl Lfq32)), (Mb, .inl (k 1, 6, .inl Bfq32)), (Mh, .inl (k 1, 120, .inl Hfq32)), (Mr, .inl (k 1, 5, .inl f_121))]) hx hb hml hown hts hKK hP hD hS hA (m_behindEnds l D k ([.ref Ma, .ref Mn, .int (iZ Mst), .long Mtp, .long Mbt, .ref Ms, .ref My, .ref Mt, .ref Mp, .ref Mx, .int (iZ Mtd), .int (iZ Msz), .int (iZ Mtk), .int (iZ Mfr), .int (iZ Men), .int (iZ Mva), .int (iZ Mfk), .int (iZ Mfp), .int (iZ Mfs), .int (iZ Mse), .int (iZ Mlt), .ref Mo, .int (iZ Mdp), .int (iZ Mct), .ref Mk, .ref Ml, .ref Mb, .ref Mh, .ref Mc, .int (iZ (I_15 1)), .int (iZ (Mrsq32 + 1)), .ref Mz, .ref Mr, .ref Mq, .int (iZ Mit), .int (iZ Mmk)]) hm Ma Mz (F_17 0) f_170 (v2_32 + 1) rfl rfl p_20 ⟨by omega, by omega⟩) ci_X12_behindEnds qm_X12_396 ⟨Nat.le_of_ble_eq_true rfl, Nat.le_of_ble_eq_true rfl⟩ ⟨Nat.le_of_ble_eq_true rfl, Nat.le_of_ble_eq_true rfl⟩ [5, 6, 4] [0, 1, 2, 3, 7] rfl rfl rfl rfl rfl (by decide) 0 rfl rfl rfl hl.1 rfl (Nat.le_of_ble_eq_true rfl) dX12_lives_177 (fun u_175 H locs hφ hP hD hS => ?_)
                        obtain ⟨I_176, L_177, F_178, G_179⟩ := u_175
                        have p_181 : 0 ≤ (I_176 0) ∧ (I_176 0) ≤ 60 := hφ
                        refine W.eq (g2 := F0 m 180 ls [.int (iZ (I_176 0))]) rfl ?_
                        refine lv_istore_n (lv' := [(2, .int (iZ (I_176 0))), (3, .int (iZ (520 + (6 * v2_32)))), (0, .ref hm), (1, .int (iZ x))]) hx hb dX12_lives_180 rfl hl (by decide) rfl (fun ls hl => ?_)
                        refine lv_goto (tgt := 32) hx hb dX12_lives_181 (by decide) ?_
                        exact ih32  (I_176 0) (I_15 1) (Mrsq32 + 1) (F_17 0) Kfq32 Lfq32 Bfq32 Hfq32 (F_178 0) f_121 _ _ _ (by omega) (show (0 ≤ (I_176 0) ∧ (I_176 0) ≤ (60) + 1) from ⟨by omega, by omega⟩) (show 0 ≤ (Mrsq32 + 1) ∧ (Mrsq32 + 1) ≤ 200 from ⟨by omega, by omega⟩) (show 0 ≤ (I_15 1) ∧ (I_15 1) ≤ 65535 from ⟨by omega, by omega⟩) (show rgI Hfq32 0 1000000 120 from rgh2) (show M0 (F_17 0) from p_20) (show FR (F_17 0) Af from (FR.tr p_21 hF32)) (hP.sub [5, 6, 0, 1, 2, 3, 7, 4] rfl) (hD.sub [5, 6, 0, 1, 2, 3, 7, 4] rfl rfl) hS (lv_sub hl [0, 2, 3] rfl)
                      ·
                        have c_173 := mt (zlt (x := iZ (gz (F_17 0) (520 + (6 * v2_32)))) (y := iZ 1900) rfl rfl ⟨by omega, by omega⟩ ⟨by omega, by omega⟩).mpr c_173
                        refine lv_aload_n hx hb dX12_lives_153 rfl (lv_at hl 2 rfl) ?_
                        refine lv_iload_n hx hb dX12_lives_154 rfl (lv_at hl 0 rfl) ?_
                        refine CWV (As := [.int (iZ (520 + (6 * v2_32)))]) (rest := [.ref hm]) (wc := [(hm, .inr (12, [.ref Ma, .ref Mn, .int (iZ Mst), .long Mtp, .long Mbt, .ref Ms, .ref My, .ref Mt, .ref Mp, .ref Mx, .int (iZ Mtd), .int (iZ Msz), .int (iZ Mtk), .int (iZ Mfr), .int (iZ Men), .int (iZ Mva), .int (iZ Mfk), .int (iZ Mfp), .int (iZ Mfs), .int (iZ Mse), .int (iZ Mlt), .ref Mo, .int (iZ Mdp), .int (iZ Mct), .ref Mk, .ref Ml, .ref Mb, .ref Mh, .ref Mc, .int (iZ (I_15 1)), .int (iZ (Mrsq32 + 1)), .ref Mz, .ref Mr, .ref Mq, .int (iZ Mit), .int (iZ Mmk)])), (Ma, .inl (k 1, 5340, .inl (F_17 0))), (Mk, .inl (k 1, 6, .inl Kfq32)), (Ml, .inl (k 1, 6, .inl Lfq32)), (Mb, .inl (k 1, 6, .inl Bfq32)), (Mh, .inl (k 1, 120, .inl Hfq32))]) (wr := [(Mz, .inl (k 1, 80, .inl f_170)), (Mr, .inl (k 1, 5, .inl f_121))]) hx hb hml hown hts hKK hP hD hS hA (m_holds l D k hm Ma Mn Ms My Mt Mp Mx Mo Mk Ml Mb Mh Mc Mz Mr Mq Mst Mtd Msz Mtk Mfr Men Mva Mfk Mfp Mfs Mse Mlt Mdp Mct (I_15 1) (Mrsq32 + 1) Mit Mmk Mtp Mbt (F_17 0) Kfq32 Lfq32 Bfq32 Hfq32 (520 + (6 * v2_32)) p_20 ⟨⟨by omega, by omega⟩, by omega⟩ rgh2 (by omega)) ci_X12_holds qm_X12_393 ⟨Nat.le_of_ble_eq_true rfl, Nat.le_of_ble_eq_true rfl⟩ ⟨Nat.le_of_ble_eq_true rfl, Nat.le_of_ble_eq_true rfl⟩ [5, 6, 0, 1, 2, 3] [4, 7] rfl rfl rfl rfl rfl (by decide) 0 rfl rfl rfl hl.1 rfl (Nat.le_of_ble_eq_true rfl) dX12_lives_155 (fun u_182 H locs hφ hP hD hS => ?_)
                        obtain ⟨I_183, L_184, F_185, G_186⟩ := u_182
                        obtain ⟨p_188, p_189⟩ : (rgI (F_185 3) 0 1000000 120) ∧ ((I_183 0) = 0 ∨ (I_183 0) = 1) := hφ
                        refine W.eq (g2 := F0 m 158 ls [.int (iZ (I_183 0)), .ref hm]) rfl ?_
                        rcases (show ((I_183 0) = 0) ∨ ((I_183 0) = 1) from (by omega)) with s_190 | s_190
                        ·
                          rw [s_190]
                          refine lv_if_ne (tgt := 174) hx hb dX12_lives_158 (by decide) (fun c => absurd (by decide) c) (fun _ => ?_)
                          have hst := mSm_24 v2_32 (by omega) (by omega)
                          refine lv_aload_n hx hb dX12_lives_161 rfl (lv_at hl 2 rfl) ?_
                          refine va_get (D := D) (ci := 12) (v := .ref Ma) (C := RX12) (T := TX12) (N := 36) hx hb hts iX12 hown hK hP 2 rfl rfl 0 (by decide) (hts _ qf_X12_7) (fun _ h => h) rfl dX12_lives_162 ?_
                          refine lv_iload_n hx hb dX12_lives_165 rfl (lv_at hl 0 rfl) ?_
                          refine lv_iconst (v := iZ 4) hx hb dX12_lives_166 (by decide) ?_
                          refine lv_iadd hx hb dX12_lives_167 ?_
                          refine lv_topi (fun x_192 ex_192 => ?_)
                          obtain rfl : x_192 = iZ ((520 + (6 * v2_32)) + 4) := ex_192.trans (iZ_add (520 + (6 * v2_32)) 4)
                          refine va_iald hx hb hK hP 3 1 rfl rfl (zin (e := ((520 + (6 * v2_32)) + 4)) (n := 5340) ⟨by omega, by omega⟩ (by decide)) dX12_lives_168 ?_
                          refine lv_topi (fun x_193 ex_193 => ?_)
                          obtain rfl : x_193 = iZ (gz (F_17 0) ((520 + (6 * v2_32)) + 4)) := ex_193.trans (gz_eq ⟨by omega, by omega⟩)
                          have h_194 := gz_rg (F_17 0) ((520 + (6 * v2_32)) + 4)
                          refine lv_iconst (v := iZ 1) hx hb dX12_lives_169 (by decide) ?_
                          refine lv_iadd hx hb dX12_lives_170 ?_
                          refine lv_topi (fun x_195 ex_195 => ?_)
                          obtain rfl : x_195 = iZ ((gz (F_17 0) ((520 + (6 * v2_32)) + 4)) + 1) := ex_195.trans (iZ_add (gz (F_17 0) ((520 + (6 * v2_32)) + 4)) 1)
                          refine lv_goto (tgt := 177) hx hb dX12_lives_171 (by decide) ?_
                          refine CWV (As := [.int (iZ ((gz (F_17 0) ((520 + (6 * v2_32)) + 4)) + 1))]) (rest := []) (wc := [(hm, .inr (12, [.ref Ma, .ref Mn, .int (iZ Mst), .long Mtp, .long Mbt, .ref Ms, .ref My, .ref Mt, .ref Mp, .ref Mx, .int (iZ Mtd), .int (iZ Msz), .int (iZ Mtk), .int (iZ Mfr), .int (iZ Men), .int (iZ Mva), .int (iZ Mfk), .int (iZ Mfp), .int (iZ Mfs), .int (iZ Mse), .int (iZ Mlt), .ref Mo, .int (iZ Mdp), .int (iZ Mct), .ref Mk, .ref Ml, .ref Mb, .ref Mh, .ref Mc, .int (iZ (I_15 1)), .int (iZ (Mrsq32 + 1)), .ref Mz, .ref Mr, .ref Mq, .int (iZ Mit), .int (iZ Mmk)])), (Ma, .inl (k 1, 5340, .inl (F_17 0))), (Mz, .inl (k 1, 80, .inl f_170))]) (wr := [(Mr, .inl (k 1, 5, .inl f_121)), (Mk, .inl (k 1, 6, .inl (F_185 0))), (Ml, .inl (k 1, 6, .inl (F_185 1))), (Mb, .inl (k 1, 6, .inl (F_185 2))), (Mh, .inl (k 1, 120, .inl (F_185 3)))]) hx hb hml hown hts hKK hP hD hS hA (m_behindEnds l D k ([.ref Ma, .ref Mn, .int (iZ Mst), .long Mtp, .long Mbt, .ref Ms, .ref My, .ref Mt, .ref Mp, .ref Mx, .int (iZ Mtd), .int (iZ Msz), .int (iZ Mtk), .int (iZ Mfr), .int (iZ Men), .int (iZ Mva), .int (iZ Mfk), .int (iZ Mfp), .int (iZ Mfs), .int (iZ Mse), .int (iZ Mlt), .ref Mo, .int (iZ Mdp), .int (iZ Mct), .ref Mk, .ref Ml, .ref Mb, .ref Mh, .ref Mc, .int (iZ (I_15 1)), .int (iZ (Mrsq32 + 1)), .ref Mz, .ref Mr, .ref Mq, .int (iZ Mit), .int (iZ Mmk)]) hm Ma Mz (F_17 0) f_170 ((gz (F_17 0) ((520 + (6 * v2_32)) + 4)) + 1) rfl rfl p_20 ⟨by omega, by omega⟩) ci_X12_behindEnds qm_X12_396 ⟨Nat.le_of_ble_eq_true rfl, Nat.le_of_ble_eq_true rfl⟩ ⟨Nat.le_of_ble_eq_true rfl, Nat.le_of_ble_eq_true rfl⟩ [2, 3, 0] [1, 4, 5, 6, 7] rfl rfl rfl rfl rfl (by decide) 0 rfl rfl rfl hl.1 rfl (Nat.le_of_ble_eq_true rfl) dX12_lives_177 (fun u_196 H locs hφ hP hD hS => ?_)
                          obtain ⟨I_197, L_198, F_199, G_200⟩ := u_196
                          have p_202 : 0 ≤ (I_197 0) ∧ (I_197 0) ≤ 60 := hφ
                          refine W.eq (g2 := F0 m 180 ls [.int (iZ (I_197 0))]) rfl ?_
                          refine lv_istore_n (lv' := [(2, .int (iZ (I_197 0))), (3, .int (iZ (520 + (6 * v2_32)))), (0, .ref hm), (1, .int (iZ x))]) hx hb dX12_lives_180 rfl hl (by decide) rfl (fun ls hl => ?_)
                          refine lv_goto (tgt := 32) hx hb dX12_lives_181 (by decide) ?_
                          exact ih32  (I_197 0) (I_15 1) (Mrsq32 + 1) (F_17 0) (F_185 0) (F_185 1) (F_185 2) (F_185 3) (F_199 0) f_121 _ _ _ (by omega) (show (0 ≤ (I_197 0) ∧ (I_197 0) ≤ (60) + 1) from ⟨by omega, by omega⟩) (show 0 ≤ (Mrsq32 + 1) ∧ (Mrsq32 + 1) ≤ 200 from ⟨by omega, by omega⟩) (show 0 ≤ (I_15 1) ∧ (I_15 1) ≤ 65535 from ⟨by omega, by omega⟩) (show rgI (F_185 3) 0 1000000 120 from p_188) (show M0 (F_17 0) from p_20) (show FR (F_17 0) Af from (FR.tr p_21 hF32)) (hP.sub [5, 6, 1, 2, 3, 4, 7, 0] rfl) (hD.sub [5, 6, 1, 2, 3, 4, 7, 0] rfl rfl) hS (lv_sub hl [0, 2, 3] rfl)
                        ·
                          rw [s_190]
                          refine lv_if_ne (tgt := 174) hx hb dX12_lives_158 (by decide) (fun _ => ?_) (fun c => absurd c (by decide))
                          refine lv_iload_n hx hb dX12_lives_174 rfl (lv_at hl 1 rfl) ?_
                          refine lv_iconst (v := iZ 1) hx hb dX12_lives_175 (by decide) ?_
                          refine lv_iadd hx hb dX12_lives_176 ?_
                          refine lv_topi (fun x_204 ex_204 => ?_)
                          obtain rfl : x_204 = iZ (v2_32 + 1) := ex_204.trans (iZ_add v2_32 1)
                          refine CWV (As := [.int (iZ (v2_32 + 1))]) (rest := []) (wc := [(hm, .inr (12, [.ref Ma, .ref Mn, .int (iZ Mst), .long Mtp, .long Mbt, .ref Ms, .ref My, .ref Mt, .ref Mp, .ref Mx, .int (iZ Mtd), .int (iZ Msz), .int (iZ Mtk), .int (iZ Mfr), .int (iZ Men), .int (iZ Mva), .int (iZ Mfk), .int (iZ Mfp), .int (iZ Mfs), .int (iZ Mse), .int (iZ Mlt), .ref Mo, .int (iZ Mdp), .int (iZ Mct), .ref Mk, .ref Ml, .ref Mb, .ref Mh, .ref Mc, .int (iZ (I_15 1)), .int (iZ (Mrsq32 + 1)), .ref Mz, .ref Mr, .ref Mq, .int (iZ Mit), .int (iZ Mmk)])), (Ma, .inl (k 1, 5340, .inl (F_17 0))), (Mz, .inl (k 1, 80, .inl f_170))]) (wr := [(Mr, .inl (k 1, 5, .inl f_121)), (Mk, .inl (k 1, 6, .inl (F_185 0))), (Ml, .inl (k 1, 6, .inl (F_185 1))), (Mb, .inl (k 1, 6, .inl (F_185 2))), (Mh, .inl (k 1, 120, .inl (F_185 3)))]) hx hb hml hown hts hKK hP hD hS hA (m_behindEnds l D k ([.ref Ma, .ref Mn, .int (iZ Mst), .long Mtp, .long Mbt, .ref Ms, .ref My, .ref Mt, .ref Mp, .ref Mx, .int (iZ Mtd), .int (iZ Msz), .int (iZ Mtk), .int (iZ Mfr), .int (iZ Men), .int (iZ Mva), .int (iZ Mfk), .int (iZ Mfp), .int (iZ Mfs), .int (iZ Mse), .int (iZ Mlt), .ref Mo, .int (iZ Mdp), .int (iZ Mct), .ref Mk, .ref Ml, .ref Mb, .ref Mh, .ref Mc, .int (iZ (I_15 1)), .int (iZ (Mrsq32 + 1)), .ref Mz, .ref Mr, .ref Mq, .int (iZ Mit), .int (iZ Mmk)]) hm Ma Mz (F_17 0) f_170 (v2_32 + 1) rfl rfl p_20 ⟨by omega, by omega⟩) ci_X12_behindEnds qm_X12_396 ⟨Nat.le_of_ble_eq_true rfl, Nat.le_of_ble_eq_true rfl⟩ ⟨Nat.le_of_ble_eq_true rfl, Nat.le_of_ble_eq_true rfl⟩ [2, 3, 0] [1, 4, 5, 6, 7] rfl rfl rfl rfl rfl (by decide) 0 rfl rfl rfl hl.1 rfl (Nat.le_of_ble_eq_true rfl) dX12_lives_177 (fun u_205 H locs hφ hP hD hS => ?_)
                          obtain ⟨I_206, L_207, F_208, G_209⟩ := u_205
                          have p_211 : 0 ≤ (I_206 0) ∧ (I_206 0) ≤ 60 := hφ
                          refine W.eq (g2 := F0 m 180 ls [.int (iZ (I_206 0))]) rfl ?_
                          refine lv_istore_n (lv' := [(2, .int (iZ (I_206 0))), (3, .int (iZ (520 + (6 * v2_32)))), (0, .ref hm), (1, .int (iZ x))]) hx hb dX12_lives_180 rfl hl (by decide) rfl (fun ls hl => ?_)
                          refine lv_goto (tgt := 32) hx hb dX12_lives_181 (by decide) ?_
                          exact ih32  (I_206 0) (I_15 1) (Mrsq32 + 1) (F_17 0) (F_185 0) (F_185 1) (F_185 2) (F_185 3) (F_208 0) f_121 _ _ _ (by omega) (show (0 ≤ (I_206 0) ∧ (I_206 0) ≤ (60) + 1) from ⟨by omega, by omega⟩) (show 0 ≤ (Mrsq32 + 1) ∧ (Mrsq32 + 1) ≤ 200 from ⟨by omega, by omega⟩) (show 0 ≤ (I_15 1) ∧ (I_15 1) ≤ 65535 from ⟨by omega, by omega⟩) (show rgI (F_185 3) 0 1000000 120 from p_188) (show M0 (F_17 0) from p_20) (show FR (F_17 0) Af from (FR.tr p_21 hF32)) (hP.sub [5, 6, 1, 2, 3, 4, 7, 0] rfl) (hD.sub [5, 6, 1, 2, 3, 4, 7, 0] rfl rfl) hS (lv_sub hl [0, 2, 3] rfl)
                ·
                  have c_11 := (zeq (x := iZ (gz Afq32 (520 + (6 * v2_32)))) (y := iZ 22) rfl rfl ⟨by omega, by omega⟩ ⟨by omega, by omega⟩).mp c_11
                  exact EWv hx hb hr hlocks hS (fun i => [0, Mdrq32, (Mrsq32 + 1)].getD i 0, fun i => [0].getD i 0, fun i => [Afq32, Kfq32, Lfq32, Bfq32, Hfq32, Zfq32, Rfq32].getD i (fun _ => 0), fun i => [].getD i (fun _ => 0)) rfl ⟨(show M0 Afq32 from hM32), (show FR Afq32 Af from hF32), (show 0 ≤ Mdrq32 ∧ Mdrq32 ≤ 65535 from (by omega)), (show rgI Hfq32 0 1000000 120 from rgh2), (show 0 ≤ (Mrsq32 + 1) ∧ (Mrsq32 + 1) ≤ 200 from (by omega))⟩ (hP.sub [0, 1, 2, 3, 4, 5, 6, 7] rfl) (hD.sub [0, 1, 2, 3, 4, 5, 6, 7] rfl rfl) dX12_lives_90
              ·
                have c_5 := (zeq (x := iZ Mrsq32) (y := iZ 200) rfl rfl ⟨by omega, by omega⟩ ⟨by omega, by omega⟩).mp c_5
                refine lv_aload_n hx hb dX12_lives_52 rfl (lv_at hl 1 rfl) ?_
                refine va_get (D := D) (ci := 12) (v := .ref Mr) (C := RX12) (T := TX12) (N := 36) hx hb hts iX12 hown hK hP 0 rfl rfl 32 (by decide) (hts _ qf_X12_65) (fun _ h => h) rfl dX12_lives_53 ?_
                refine lv_iconst (v := iZ 4) hx hb dX12_lives_56 (by decide) ?_
                refine lv_iconst (v := iZ 1) hx hb dX12_lives_57 (by decide) ?_
                refine va_iast hx hb hK hP hD hS 7 1 rfl rfl (zin (e := 4) (n := 5) ⟨by omega, by omega⟩ (by decide)) dX12_lives_58 (fun H locs hP hD hS => ?_)
                obtain ⟨f_212, hf_212⟩ : ∃ gg9, gg9 = upd Rfq32 (iZ 4).toNatClampNeg (iZ 1) := ⟨_, rfl⟩
                rw [← hf_212] at hP hD
                exact EWv hx hb hr hlocks hS (fun i => [0, Mdrq32, Mrsq32].getD i 0, fun i => [0].getD i 0, fun i => [Afq32, Kfq32, Lfq32, Bfq32, Hfq32, Zfq32, f_212].getD i (fun _ => 0), fun i => [].getD i (fun _ => 0)) rfl ⟨(show M0 Afq32 from hM32), (show FR Afq32 Af from hF32), (show 0 ≤ Mdrq32 ∧ Mdrq32 ≤ 65535 from (by omega)), (show rgI Hfq32 0 1000000 120 from rgh2), (show 0 ≤ Mrsq32 ∧ Mrsq32 ≤ 200 from (by omega))⟩ (hP.sub [0, 1, 2, 3, 4, 5, 6, 7] rfl) (hD.sub [0, 1, 2, 3, 4, 5, 6, 7] rfl rfl) dX12_lives_59
        exact HL32 203 0 x 0 Af Kf Lf Bf Hf Zf Rfq12 _ _ _ (by omega) (show (0 ≤ 0 ∧ 0 ≤ (60) + 1) from ⟨by omega, by omega⟩) (show 0 ≤ 0 ∧ 0 ≤ 200 from ⟨by omega, by omega⟩) (show 0 ≤ x ∧ x ≤ 65535 from ⟨by omega, by omega⟩) (show rgI Hf 0 1000000 120 from rgH) (show M0 Af from hM) (show FR Af Af from (FR.rf Af)) (hP.sub [0, 1, 2, 3, 4, 5, 6, 7] rfl) (hD.sub [0, 1, 2, 3, 4, 5, 6, 7] rfl rfl) hS (lv_sub hl [0, 1, 2] rfl)
      ·
        have c_1 := mt (zle (x := iZ 5) (y := iZ v2_12) rfl rfl ⟨by omega, by omega⟩ ⟨by omega, by omega⟩).mpr c_1
        refine lv_aload_n hx hb dX12_lives_17 rfl (lv_at hl 1 rfl) ?_
        refine va_get (D := D) (ci := 12) (v := .ref Mr) (C := RX12) (T := TX12) (N := 36) hx hb hts iX12 hown hK hP 0 rfl rfl 32 (by decide) (hts _ qf_X12_65) (fun _ h => h) rfl dX12_lives_18 ?_
        refine lv_iload_n hx hb dX12_lives_21 rfl (lv_at hl 0 rfl) ?_
        refine lv_iconst (v := iZ 0) hx hb dX12_lives_22 (by decide) ?_
        refine va_iast hx hb hK hP hD hS 7 1 rfl rfl (zin (e := v2_12) (n := 5) ⟨by omega, by omega⟩ (by decide)) dX12_lives_23 (fun H locs hP hD hS => ?_)
        obtain ⟨f_213, hf_213⟩ : ∃ gg9, gg9 = upd Rfq12 (iZ v2_12).toNatClampNeg (iZ 0) := ⟨_, rfl⟩
        rw [← hf_213] at hP hD
        refine lv_iinc (v := iZ (v2_12 + 1)) (lv' := [(2, .int (iZ (v2_12 + 1))), (0, .ref hm), (1, .int (iZ x))]) hx hb dX12_lives_24 hl (k := 0) rfl (iZ_add v2_12 1) (by decide) rfl (fun ls hl => ?_)
        refine lv_goto (tgt := 12) hx hb dX12_lives_27 (by decide) ?_
        exact ih12  (v2_12 + 1) f_213 _ _ _ (by omega) (show (0 ≤ (v2_12 + 1) ∧ (v2_12 + 1) ≤ (4) + 1) from ⟨by omega, by omega⟩) (hP.sub [0, 1, 2, 3, 4, 5, 6, 7] rfl) (hD.sub [0, 1, 2, 3, 4, 5, 6, 7] rfl rfl) hS (lv_sub hl [0, 1, 2] rfl)
  exact HL12 8 0 Rf _ _ _ (by omega) (show (0 ≤ 0 ∧ 0 ≤ (4) + 1) from ⟨by omega, by omega⟩) (hP.sub [0, 1, 2, 3, 4, 5, 6, 7] rfl) (hD.sub [0, 1, 2, 3, 4, 5, 6, 7] rfl rfl) hS (lv_sub hl [0, 1, 2] rfl)
