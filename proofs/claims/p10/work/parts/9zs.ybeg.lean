theorem nar_b0 : ∀ i : Fin 256, vp_nar .byte (iZ ((i.val : Int) - 128)) = iZ ((i.val : Int) - 128) := by decide +kernel
theorem nar_b {v : Int} (h : -128 ≤ v ∧ v ≤ 127) : vp_nar .byte (iZ v) = iZ v := by
  have q := nar_b0 ⟨(v + 128).toNat, by omega⟩
  have q : vp_nar .byte (iZ (((v + 128).toNat : Int) - 128)) = iZ (((v + 128).toNat : Int) - 128) := q
  rw [show ((v + 128).toNat : Int) - 128 = v by omega] at q
  exact q
set_option maxHeartbeats 4000000 in
set_option maxRecDepth 100000 in
theorem y_begins (l : Launch) (D : va_G) (k : Nat → ClassId) (hm : Nat) (Ma : Nat) (Mn : Nat) (Ms : Nat) (My : Nat) (Mt : Nat) (Mp : Nat) (Mx : Nat) (Mo : Nat) (Mk : Nat) (Ml : Nat) (Mb : Nat) (Mh : Nat) (Mc : Nat) (Mz : Nat) (Mr : Nat) (Mq : Nat) (Mst : Int) (Mtd : Int) (Msz : Int) (Mtk : Int) (Mfr : Int) (Men : Int) (Mva : Int) (Mfk : Int) (Mfp : Int) (Mfs : Int) (Mse : Int) (Mlt : Int) (Mdp : Int) (Mct : Int) (Mdr : Int) (Mrs : Int) (Mit : Int) (Mmk : Int) (Mtp : Int64) (Mbt : Int64) (Pf : Nat → Int32) (Xf : Nat → Int32) (x : Int) (y : Int) (hTI : (0 ≤ (Mfr : Int) ∧ (Mfr : Int) ≤ Men) ∧ ((Men : Int) ≤ Msz ∧ (Msz : Int) ≤ 900) ∧ (0 ≤ (Mtk : Int) ∧ (Mtk : Int) ≤ 4) ∧ ((Mtk : Int) = 0 ∨ (Mfr : Int) < Men) ∧ (-1 ≤ (Mva : Int) ∧ (Mva : Int) ≤ 100000)) (htd : 0 ≤ Mtd ∧ Mtd ≤ 900) (h9x : -2147483648 ≤ x ∧ x < 2147483648) (h9y : 0 ≤ y ∧ y ≤ 900) (hFS : 0 ≤ Mfs ∧ Mfs ≤ 9) (hpf : rgI Pf (-128) 127 900) : WD (σ := ((Nat → Int) × (Nat → Int64) × (Nat → Nat → Int32) × (Nat → Nat → Int64))) l yX12_begins cX12_begins 4 (some .boolean) 2 0 0 D k [.ref hm, .int (iZ x), .int (iZ y)] [(hm, .inr (12, [.ref Ma, .ref Mn, .int (iZ Mst), .long Mtp, .long Mbt, .ref Ms, .ref My, .ref Mt, .ref Mp, .ref Mx, .int (iZ Mtd), .int (iZ Msz), .int (iZ Mtk), .int (iZ Mfr), .int (iZ Men), .int (iZ Mva), .int (iZ Mfk), .int (iZ Mfp), .int (iZ Mfs), .int (iZ Mse), .int (iZ Mlt), .ref Mo, .int (iZ Mdp), .int (iZ Mct), .ref Mk, .ref Ml, .ref Mb, .ref Mh, .ref Mc, .int (iZ Mdr), .int (iZ Mrs), .ref Mz, .ref Mr, .ref Mq, .int (iZ Mit), .int (iZ Mmk)])), (Mp, .inl (k 0, 900, .inl Pf)), (Mx, .inl (k 0, 900, .inl Xf))] (fun u => some (.int (iZ (u.1 0)))) (fun u => ((0 ≤ ((u.1 8) : Int) ∧ ((u.1 8) : Int) ≤ (u.1 5)) ∧ (((u.1 5) : Int) ≤ (u.1 1) ∧ ((u.1 1) : Int) ≤ 900) ∧ (0 ≤ ((u.1 7) : Int) ∧ ((u.1 7) : Int) ≤ 4) ∧ (((u.1 7) : Int) = 0 ∨ ((u.1 8) : Int) < (u.1 5)) ∧ (-1 ≤ ((u.1 9) : Int) ∧ ((u.1 9) : Int) ≤ 100000)) ∧ ((((u.1 0) : Int) = 1 ∧ (0 ≤ x ∧ x ≤ Mtd ∧ x ≤ y) ∧ ((u.1 2) : Int) = 0 ∧ (u.1 1) = x ∧ ((u.1 3) : Int) = 0 ∧ (u.1 4) = -1 ∧ RFX (tX Pf x) 0 (u.1 8) (u.1 5) (u.1 7) (u.1 9) ∧ xRw (u.2.2.1 0) (gz Pf) x) ∨ (((u.1 0) : Int) = 0 ∧ ¬ (0 ≤ x ∧ x ≤ Mtd ∧ x ≤ y) ∧ (u.1 2) = Mtd ∧ (u.1 3) = Mfs))) (fun u => [(hm, .inr (12, [.ref Ma, .ref Mn, .int (iZ Mst), .long Mtp, .long Mbt, .ref Ms, .ref My, .ref Mt, .ref Mp, .ref Mx, .int (iZ (u.1 2)), .int (iZ (u.1 1)), .int (iZ (u.1 7)), .int (iZ (u.1 8)), .int (iZ (u.1 5)), .int (iZ (u.1 9)), .int (iZ Mfk), .int (iZ (u.1 4)), .int (iZ (u.1 3)), .int (iZ (u.1 6)), .int (iZ Mlt), .ref Mo, .int (iZ Mdp), .int (iZ Mct), .ref Mk, .ref Ml, .ref Mb, .ref Mh, .ref Mc, .int (iZ Mdr), .int (iZ Mrs), .ref Mz, .ref Mr, .ref Mq, .int (iZ Mit), .int (iZ Mmk)])), (Mp, .inl (k 0, 900, .inl Pf)), (Mx, .inl (k 0, 900, .inl (u.2.2.1 0)))]) := by
  refine MW (by decide) (Nat.le_of_ble_eq_true rfl) (fun p e s m below meth c ls A hx hb hml hr hlocks hin hts hown hKK hP hD hS hA hl => ?_)
  have hK := hKK.1
  have hl : lv_has ls 4 [(0, .ref hm), (1, .int (iZ x)), (2, .int (iZ y))] := hl
  refine lv_iload_n hx hb dX12_begins_0 rfl (lv_at hl 1 rfl) ?_
  refine lv_if_lt (tgt := 17) hx hb dX12_begins_1 (by decide) (fun c_1 => ?_) (fun c_1 => ?_)
  ·
    have c_1 := (zlt (x := iZ x) (y := iZ 0) rfl rfl ⟨by omega, by omega⟩ ⟨by omega, by omega⟩).mp c_1
    refine lv_iconst (v := iZ 0) hx hb dX12_begins_17 (by decide) ?_
    exact EWz hx hb hr hlocks hS (fun i => [0, Msz, Mtd, Mfs, Mfp, Men, Mse, Mtk, Mfr, Mva].getD i 0, fun i => [0].getD i 0, fun i => [Xf].getD i (fun _ => 0), fun i => [].getD i (fun _ => 0)) rfl rfl ⟨(show (0 ≤ (Mfr : Int) ∧ (Mfr : Int) ≤ Men) ∧ ((Men : Int) ≤ Msz ∧ (Msz : Int) ≤ 900) ∧ (0 ≤ (Mtk : Int) ∧ (Mtk : Int) ≤ 4) ∧ ((Mtk : Int) = 0 ∨ (Mfr : Int) < Men) ∧ (-1 ≤ (Mva : Int) ∧ (Mva : Int) ≤ 100000) from (by first | with_reducible assumption | exact ⟨⟨by omega, by omega⟩, ⟨by omega, by omega⟩, ⟨by omega, by omega⟩, by omega, by omega, by omega⟩)), (show ((0 : Int) = 1 ∧ (0 ≤ x ∧ x ≤ Mtd ∧ x ≤ y) ∧ (Mtd : Int) = 0 ∧ Msz = x ∧ (Mfs : Int) = 0 ∧ Mfp = -1 ∧ RFX (tX Pf x) 0 Mfr Men Mtk Mva ∧ xRw Xf (gz Pf) x) ∨ ((0 : Int) = 0 ∧ ¬ (0 ≤ x ∧ x ≤ Mtd ∧ x ≤ y) ∧ Mtd = Mtd ∧ Mfs = Mfs) from (Or.inr ⟨rfl, by omega, rfl, rfl⟩))⟩ (hP.sub [0, 1, 2] rfl) (hD.sub [0, 1, 2] rfl rfl) dX12_begins_18
  ·
    have c_1 := mt (zlt (x := iZ x) (y := iZ 0) rfl rfl ⟨by omega, by omega⟩ ⟨by omega, by omega⟩).mpr c_1
    refine lv_iload_n hx hb dX12_begins_4 rfl (lv_at hl 1 rfl) ?_
    refine lv_aload_n hx hb dX12_begins_5 rfl (lv_at hl 0 rfl) ?_
    refine va_get (D := D) (ci := 12) (v := .int (iZ Mtd)) (C := RX12) (T := TX12) (N := 36) hx hb hts iX12 hown hK hP 0 rfl rfl 10 (by decide) (hts _ qf_X12_106) (fun _ h => h) rfl dX12_begins_6 ?_
    refine lv_icmp_gt (tgt := 17) hx hb dX12_begins_9 (by decide) (fun c_2 => ?_) (fun c_2 => ?_)
    ·
      have c_2 := (zlt (x := iZ Mtd) (y := iZ x) rfl rfl ⟨by omega, by omega⟩ ⟨by omega, by omega⟩).mp c_2
      refine lv_iconst (v := iZ 0) hx hb dX12_begins_17 (by decide) ?_
      exact EWz hx hb hr hlocks hS (fun i => [0, Msz, Mtd, Mfs, Mfp, Men, Mse, Mtk, Mfr, Mva].getD i 0, fun i => [0].getD i 0, fun i => [Xf].getD i (fun _ => 0), fun i => [].getD i (fun _ => 0)) rfl rfl ⟨(show (0 ≤ (Mfr : Int) ∧ (Mfr : Int) ≤ Men) ∧ ((Men : Int) ≤ Msz ∧ (Msz : Int) ≤ 900) ∧ (0 ≤ (Mtk : Int) ∧ (Mtk : Int) ≤ 4) ∧ ((Mtk : Int) = 0 ∨ (Mfr : Int) < Men) ∧ (-1 ≤ (Mva : Int) ∧ (Mva : Int) ≤ 100000) from (by first | with_reducible assumption | exact ⟨⟨by omega, by omega⟩, ⟨by omega, by omega⟩, ⟨by omega, by omega⟩, by omega, by omega, by omega⟩)), (show ((0 : Int) = 1 ∧ (0 ≤ x ∧ x ≤ Mtd ∧ x ≤ y) ∧ (Mtd : Int) = 0 ∧ Msz = x ∧ (Mfs : Int) = 0 ∧ Mfp = -1 ∧ RFX (tX Pf x) 0 Mfr Men Mtk Mva ∧ xRw Xf (gz Pf) x) ∨ ((0 : Int) = 0 ∧ ¬ (0 ≤ x ∧ x ≤ Mtd ∧ x ≤ y) ∧ Mtd = Mtd ∧ Mfs = Mfs) from (Or.inr ⟨rfl, by omega, rfl, rfl⟩))⟩ (hP.sub [0, 1, 2] rfl) (hD.sub [0, 1, 2] rfl rfl) dX12_begins_18
    ·
      have c_2 := mt (zlt (x := iZ Mtd) (y := iZ x) rfl rfl ⟨by omega, by omega⟩ ⟨by omega, by omega⟩).mpr c_2
      refine lv_iload_n hx hb dX12_begins_12 rfl (lv_at hl 1 rfl) ?_
      refine lv_iload_n hx hb dX12_begins_13 rfl (lv_at hl 2 rfl) ?_
      refine lv_icmp_le (tgt := 19) hx hb dX12_begins_14 (by decide) (fun c_3 => ?_) (fun c_3 => ?_)
      ·
        have c_3 := (zle (x := iZ x) (y := iZ y) rfl rfl ⟨by omega, by omega⟩ ⟨by omega, by omega⟩).mp c_3
        refine lv_aload_n hx hb dX12_begins_19 rfl (lv_at hl 0 rfl) ?_
        refine lv_iload_n hx hb dX12_begins_20 rfl (lv_at hl 1 rfl) ?_
        refine va_put (D := D) (ci := 12) (v := .int (iZ x)) (ty := .int) (C := RX12) (T := TX12) (N := 36) hx hb hts iX12 tyX12 tyX12_ok nmX12 hown hK hP hD hS 0 rfl rfl 11 (by decide) (hts _ qf_X12_112) (fun _ h => h) rfl (by decide +kernel) rfl rfl (Nat.le_of_ble_eq_true rfl) dX12_begins_21 (fun H locs hP hD hS => ?_)
        refine lv_iconst (v := iZ 0) hx hb dX12_begins_24 (by decide) ?_
        refine lv_istore_n (lv' := [(3, .int (iZ 0)), (0, .ref hm), (1, .int (iZ x)), (2, .int (iZ y))]) hx hb dX12_begins_25 rfl hl (by decide) rfl (fun ls hl => ?_)
        have HL26 : ∀ (fu : Nat) (v3_26 : Int) (Xfq26 : Nat → Int32) (H : Heap) (locs : List Loc) (ls : Array Slot), ((x - 1) + 2 - v3_26) < (fu : Int) → ((0 ≤ v3_26 ∧ v3_26 ≤ (x - 1) + 1)) → (xRw Xfq26 (gz Pf) v3_26) → va_P D vwCl [(hm, .inr (12, [.ref Ma, .ref Mn, .int (iZ Mst), .long Mtp, .long Mbt, .ref Ms, .ref My, .ref Mt, .ref Mp, .ref Mx, .int (iZ Mtd), .int (iZ x), .int (iZ Mtk), .int (iZ Mfr), .int (iZ Men), .int (iZ Mva), .int (iZ Mfk), .int (iZ Mfp), .int (iZ Mfs), .int (iZ Mse), .int (iZ Mlt), .ref Mo, .int (iZ Mdp), .int (iZ Mct), .ref Mk, .ref Ml, .ref Mb, .ref Mh, .ref Mc, .int (iZ Mdr), .int (iZ Mrs), .ref Mz, .ref Mr, .ref Mq, .int (iZ Mit), .int (iZ Mmk)])), (Mp, .inl (k 0, 900, .inl Pf)), (Mx, .inl (k 0, 900, .inl Xfq26))] H → va_D A [(hm, .inr (12, [.ref Ma, .ref Mn, .int (iZ Mst), .long Mtp, .long Mbt, .ref Ms, .ref My, .ref Mt, .ref Mp, .ref Mx, .int (iZ Mtd), .int (iZ x), .int (iZ Mtk), .int (iZ Mfr), .int (iZ Men), .int (iZ Mva), .int (iZ Mfk), .int (iZ Mfp), .int (iZ Mfs), .int (iZ Mse), .int (iZ Mlt), .ref Mo, .int (iZ Mdp), .int (iZ Mct), .ref Mk, .ref Ml, .ref Mb, .ref Mh, .ref Mc, .int (iZ Mdr), .int (iZ Mrs), .ref Mz, .ref Mr, .ref Mq, .int (iZ Mit), .int (iZ Mmk)])), (Mp, .inl (k 0, 900, .inl Pf)), (Mx, .inl (k 0, 900, .inl Xfq26))] → va_S A s.heap H locs → lv_has ls 4 [(3, .int (iZ v3_26)), (0, .ref hm), (1, .int (iZ x)), (2, .int (iZ y))] → W p l e (rj 2 0 0) s m [.ref hm, .int (iZ x), .int (iZ y)].toArray below meth c H locs 0 0 (MQ below (QW (σ := ((Nat → Int) × (Nat → Int64) × (Nat → Nat → Int32) × (Nat → Nat → Int64))) (fun u => some (.int (iZ (u.1 0)))) (fun u => ((0 ≤ ((u.1 8) : Int) ∧ ((u.1 8) : Int) ≤ (u.1 5)) ∧ (((u.1 5) : Int) ≤ (u.1 1) ∧ ((u.1 1) : Int) ≤ 900) ∧ (0 ≤ ((u.1 7) : Int) ∧ ((u.1 7) : Int) ≤ 4) ∧ (((u.1 7) : Int) = 0 ∨ ((u.1 8) : Int) < (u.1 5)) ∧ (-1 ≤ ((u.1 9) : Int) ∧ ((u.1 9) : Int) ≤ 100000)) ∧ ((((u.1 0) : Int) = 1 ∧ (0 ≤ x ∧ x ≤ Mtd ∧ x ≤ y) ∧ ((u.1 2) : Int) = 0 ∧ (u.1 1) = x ∧ ((u.1 3) : Int) = 0 ∧ (u.1 4) = -1 ∧ RFX (tX Pf x) 0 (u.1 8) (u.1 5) (u.1 7) (u.1 9) ∧ xRw (u.2.2.1 0) (gz Pf) x) ∨ (((u.1 0) : Int) = 0 ∧ ¬ (0 ≤ x ∧ x ≤ Mtd ∧ x ≤ y) ∧ (u.1 2) = Mtd ∧ (u.1 3) = Mfs))) (fun u => [(hm, .inr (12, [.ref Ma, .ref Mn, .int (iZ Mst), .long Mtp, .long Mbt, .ref Ms, .ref My, .ref Mt, .ref Mp, .ref Mx, .int (iZ (u.1 2)), .int (iZ (u.1 1)), .int (iZ (u.1 7)), .int (iZ (u.1 8)), .int (iZ (u.1 5)), .int (iZ (u.1 9)), .int (iZ Mfk), .int (iZ (u.1 4)), .int (iZ (u.1 3)), .int (iZ (u.1 6)), .int (iZ Mlt), .ref Mo, .int (iZ Mdp), .int (iZ Mct), .ref Mk, .ref Ml, .ref Mb, .ref Mh, .ref Mc, .int (iZ Mdr), .int (iZ Mrs), .ref Mz, .ref Mr, .ref Mq, .int (iZ Mit), .int (iZ Mmk)])), (Mp, .inl (k 0, 900, .inl Pf)), (Mx, .inl (k 0, 900, .inl (u.2.2.1 0)))]) D A) [.ref hm, .int (iZ x), .int (iZ y)].toArray s 0 0 A) (F0 m 26 ls []) := by
          intro fu
          induction fu with
          | zero => intro v3_26 Xfq26 H locs ls hμ26 hi26 hcp hP hD hS hl; exact absurd hμ26 (by omega)
          | succ fu ih26 =>
            intro v3_26 Xfq26 H locs ls hμ26 hi26 hcp hP hD hS hl
            refine lv_iload_n hx hb dX12_begins_26 rfl (lv_at hl 0 rfl) ?_
            refine lv_iload_n hx hb dX12_begins_27 rfl (lv_at hl 2 rfl) ?_
            refine lv_icmp_ge (tgt := 49) hx hb dX12_begins_28 (by decide) (fun c_4 => ?_) (fun c_4 => ?_)
            ·
              have c_4 := (zle (x := iZ x) (y := iZ v3_26) rfl rfl ⟨by omega, by omega⟩ ⟨by omega, by omega⟩).mp c_4
              have hcp : xRw Xfq26 (gz Pf) x := fun e h1 h2 => hcp e h1 (by omega)
              refine lv_aload_n hx hb dX12_begins_49 rfl (lv_at hl 1 rfl) ?_
              refine lv_iconst (v := iZ 0) hx hb dX12_begins_50 (by decide) ?_
              refine va_put (D := D) (ci := 12) (v := .int (iZ 0)) (ty := .int) (C := RX12) (T := TX12) (N := 36) hx hb hts iX12 tyX12 tyX12_ok nmX12 hown hK hP hD hS 0 rfl rfl 10 (by decide) (hts _ qf_X12_106) (fun _ h => h) rfl (by decide +kernel) rfl rfl (Nat.le_of_ble_eq_true rfl) dX12_begins_51 (fun H locs hP hD hS => ?_)
              refine lv_aload_n hx hb dX12_begins_54 rfl (lv_at hl 1 rfl) ?_
              refine lv_iconst (v := iZ 0) hx hb dX12_begins_55 (by decide) ?_
              refine va_put (D := D) (ci := 12) (v := .int (iZ 0)) (ty := .int) (C := RX12) (T := TX12) (N := 36) hx hb hts iX12 tyX12 tyX12_ok nmX12 hown hK hP hD hS 0 rfl rfl 18 (by decide) (hts _ qf_X12_152) (fun _ h => h) rfl (by decide +kernel) rfl rfl (Nat.le_of_ble_eq_true rfl) dX12_begins_56 (fun H locs hP hD hS => ?_)
              refine lv_aload_n hx hb dX12_begins_59 rfl (lv_at hl 1 rfl) ?_
              refine lv_iconst (v := iZ (-1)) hx hb dX12_begins_60 (by decide) ?_
              refine va_put (D := D) (ci := 12) (v := .int (iZ (-1))) (ty := .int) (C := RX12) (T := TX12) (N := 36) hx hb hts iX12 tyX12 tyX12_ok nmX12 hown hK hP hD hS 0 rfl rfl 17 (by decide) (hts _ qf_X12_41) (fun _ h => h) rfl (by decide +kernel) rfl rfl (Nat.le_of_ble_eq_true rfl) dX12_begins_61 (fun H locs hP hD hS => ?_)
              refine lv_aload_n hx hb dX12_begins_64 rfl (lv_at hl 1 rfl) ?_
              refine lv_iconst (v := iZ 0) hx hb dX12_begins_65 (by decide) ?_
              refine va_put (D := D) (ci := 12) (v := .int (iZ 0)) (ty := .int) (C := RX12) (T := TX12) (N := 36) hx hb hts iX12 tyX12 tyX12_ok nmX12 hown hK hP hD hS 0 rfl rfl 14 (by decide) (hts _ qf_X12_115) (fun _ h => h) rfl (by decide +kernel) rfl rfl (Nat.le_of_ble_eq_true rfl) dX12_begins_66 (fun H locs hP hD hS => ?_)
              refine lv_aload_n hx hb dX12_begins_69 rfl (lv_at hl 1 rfl) ?_
              refine lv_iconst (v := iZ 0) hx hb dX12_begins_70 (by decide) ?_
              refine va_put (D := D) (ci := 12) (v := .int (iZ 0)) (ty := .int) (C := RX12) (T := TX12) (N := 36) hx hb hts iX12 tyX12 tyX12_ok nmX12 hown hK hP hD hS 0 rfl rfl 19 (by decide) (hts _ qf_X12_155) (fun _ h => h) rfl (by decide +kernel) rfl rfl (Nat.le_of_ble_eq_true rfl) dX12_begins_71 (fun H locs hP hD hS => ?_)
              refine lv_aload_n hx hb dX12_begins_74 rfl (lv_at hl 1 rfl) ?_
              refine CWV (As := []) (rest := []) (wc := [(hm, .inr (12, [.ref Ma, .ref Mn, .int (iZ Mst), .long Mtp, .long Mbt, .ref Ms, .ref My, .ref Mt, .ref Mp, .ref Mx, .int (iZ 0), .int (iZ x), .int (iZ Mtk), .int (iZ Mfr), .int (iZ 0), .int (iZ Mva), .int (iZ Mfk), .int (iZ (-1)), .int (iZ 0), .int (iZ 0), .int (iZ Mlt), .ref Mo, .int (iZ Mdp), .int (iZ Mct), .ref Mk, .ref Ml, .ref Mb, .ref Mh, .ref Mc, .int (iZ Mdr), .int (iZ Mrs), .ref Mz, .ref Mr, .ref Mq, .int (iZ Mit), .int (iZ Mmk)])), (Mx, .inl (k 0, 900, .inl Xfq26))]) (wr := [(Mp, .inl (k 0, 900, .inl Pf))]) hx hb hml hown hts hKK hP hD hS hA (y_onward l D k hm Ma Mn Ms My Mt Mp Mx Mo Mk Ml Mb Mh Mc Mz Mr Mq Mst 0 x Mtk Mfr 0 Mva Mfk (-1) 0 0 Mlt Mdp Mct Mdr Mrs Mit Mmk Mtp Mbt Xfq26 ⟨⟨by omega, by omega⟩, by omega⟩) ci_X12_onward qm_X12_158 ⟨Nat.le_of_ble_eq_true rfl, Nat.le_of_ble_eq_true rfl⟩ ⟨Nat.le_of_ble_eq_true rfl, Nat.le_of_ble_eq_true rfl⟩ [0, 2] [1] rfl rfl rfl rfl rfl (by decide) 0 rfl rfl rfl hl.1 rfl (Nat.le_of_ble_eq_true rfl) dX12_begins_75 (fun u_5 H locs hφ hP hD hS => ?_)
              obtain ⟨I_6, L_7, F_8, G_9⟩ := u_5
              obtain ⟨p_11, p_12, p_13⟩ : (RFX (tX Xfq26 x) 0 (I_6 2) (I_6 3) (I_6 1) (I_6 4)) ∧ ((0 ≤ ((I_6 2) : Int) ∧ ((I_6 2) : Int) ≤ (I_6 3)) ∧ (((I_6 3) : Int) ≤ x ∧ (x : Int) ≤ 900) ∧ (0 ≤ ((I_6 1) : Int) ∧ ((I_6 1) : Int) ≤ 4) ∧ (((I_6 1) : Int) = 0 ∨ ((I_6 2) : Int) < (I_6 3)) ∧ (-1 ≤ ((I_6 4) : Int) ∧ ((I_6 4) : Int) ≤ 100000)) ∧ (0 ≤ (I_6 2)) := hφ
              obtain ⟨⟨ar_14, br_14⟩, cr_14, dr_14, er_14, gr_14, hr_14⟩ := id p_11
              have kr_14 := tk_1 dr_14 (xKd_rg _ _)
              have wr_14 := xKw_rg (tX Xfq26 x) 0
              refine W.eq (g2 := F0 m 78 ls []) rfl ?_
              refine lv_iconst (v := iZ 1) hx hb dX12_begins_78 (by decide) ?_
              exact EWz hx hb hr hlocks hS (fun i => [1, x, 0, 0, (-1), (I_6 3), 0, (I_6 1), (I_6 2), (I_6 4)].getD i 0, fun i => [0].getD i 0, fun i => [Xfq26].getD i (fun _ => 0), fun i => [].getD i (fun _ => 0)) rfl rfl ⟨(show (0 ≤ ((I_6 2) : Int) ∧ ((I_6 2) : Int) ≤ (I_6 3)) ∧ (((I_6 3) : Int) ≤ x ∧ (x : Int) ≤ 900) ∧ (0 ≤ ((I_6 1) : Int) ∧ ((I_6 1) : Int) ≤ 4) ∧ (((I_6 1) : Int) = 0 ∨ ((I_6 2) : Int) < (I_6 3)) ∧ (-1 ≤ ((I_6 4) : Int) ∧ ((I_6 4) : Int) ≤ 100000) from (by first | with_reducible assumption | exact ⟨⟨by omega, by omega⟩, ⟨by omega, by omega⟩, ⟨by omega, by omega⟩, by omega, by omega, by omega⟩)), (show ((1 : Int) = 1 ∧ (0 ≤ x ∧ x ≤ Mtd ∧ x ≤ y) ∧ (0 : Int) = 0 ∧ x = x ∧ (0 : Int) = 0 ∧ (-1) = -1 ∧ RFX (tX Pf x) 0 (I_6 2) (I_6 3) (I_6 1) (I_6 4) ∧ xRw Xfq26 (gz Pf) x) ∨ ((1 : Int) = 0 ∧ ¬ (0 ≤ x ∧ x ≤ Mtd ∧ x ≤ y) ∧ 0 = Mtd ∧ 0 = Mfs) from (Or.inl ⟨rfl, by omega, rfl, rfl, rfl, rfl, by rw [← tX_like hcp]; exact p_11, hcp⟩))⟩ (hP.sub [1, 0, 2] rfl) (hD.sub [1, 0, 2] rfl rfl) dX12_begins_79
            ·
              have c_4 := mt (zle (x := iZ x) (y := iZ v3_26) rfl rfl ⟨by omega, by omega⟩ ⟨by omega, by omega⟩).mpr c_4
              refine lv_aload_n hx hb dX12_begins_31 rfl (lv_at hl 1 rfl) ?_
              refine va_get (D := D) (ci := 12) (v := .ref Mx) (C := RX12) (T := TX12) (N := 36) hx hb hts iX12 hown hK hP 0 rfl rfl 9 (by decide) (hts _ qf_X12_34) (fun _ h => h) rfl dX12_begins_32 ?_
              refine lv_iload_n hx hb dX12_begins_35 rfl (lv_at hl 0 rfl) ?_
              refine lv_aload_n hx hb dX12_begins_36 rfl (lv_at hl 1 rfl) ?_
              refine va_get (D := D) (ci := 12) (v := .ref Mp) (C := RX12) (T := TX12) (N := 36) hx hb hts iX12 hown hK hP 0 rfl rfl 8 (by decide) (hts _ qf_X12_30) (fun _ h => h) rfl dX12_begins_37 ?_
              refine lv_iload_n hx hb dX12_begins_40 rfl (lv_at hl 0 rfl) ?_
              refine va_bald hx hb hK hP 1 0 rfl rfl (zin (e := v3_26) (n := 900) ⟨by omega, by omega⟩ (by decide)) dX12_begins_41 ?_
              refine lv_topi (fun x_15 ex_15 => ?_)
              obtain rfl : x_15 = iZ (gz Pf v3_26) := ex_15.trans (gz_eq ⟨by omega, by omega⟩)
              have h_16 := hpf v3_26 (by omega) (by omega)
              refine va_bast hx hb hK hP hD hS 2 0 rfl rfl (zin (e := v3_26) (n := 900) ⟨by omega, by omega⟩ (by decide)) dX12_begins_42 (fun H locs hP hD hS => ?_)
              obtain ⟨f_17, hf_17⟩ : ∃ gg9, gg9 = upd Xfq26 (iZ v3_26).toNatClampNeg (vp_nar .byte (iZ (gz Pf v3_26))) := ⟨_, rfl⟩
              rw [← hf_17] at hP hD
              refine lv_iinc (v := iZ (v3_26 + 1)) (lv' := [(3, .int (iZ (v3_26 + 1))), (0, .ref hm), (1, .int (iZ x)), (2, .int (iZ y))]) hx hb dX12_begins_43 hl (k := 0) rfl (iZ_add v3_26 1) (by decide) rfl (fun ls hl => ?_)
              refine lv_goto (tgt := 26) hx hb dX12_begins_46 (by decide) ?_
              exact ih26  (v3_26 + 1) f_17 _ _ _ (by omega) (show (0 ≤ (v3_26 + 1) ∧ (v3_26 + 1) ≤ (x - 1) + 1) from ⟨by omega, by omega⟩) (show xRw f_17 (gz Pf) (v3_26 + 1) from (fun e h1 h2 => by have h9 : f_17 = upd Xfq26 (iZ v3_26).toNatClampNeg (iZ (gz Pf v3_26)) := by rw [hf_17, nar_b (hpf v3_26 (by omega) (by omega))]
    have h8 := hpf v3_26 (by omega) (by omega)
    rw [gz_up h9 ⟨by omega, by omega⟩ ⟨by omega, by omega⟩ h1]
    by_cases q : e = v3_26
    · rw [if_pos q, q]
    · rw [if_neg q]; exact hcp e h1 (by omega))) (hP.sub [0, 1, 2] rfl) (hD.sub [0, 1, 2] rfl rfl) hS (lv_sub hl [0, 1, 2, 3] rfl)
        exact HL26 904 0 Xf _ _ _ (by omega) (show (0 ≤ 0 ∧ 0 ≤ (x - 1) + 1) from ⟨by omega, by omega⟩) (show xRw Xf (gz Pf) 0 from (fun e h1 h2 => absurd h1 (by omega))) (hP.sub [0, 1, 2] rfl) (hD.sub [0, 1, 2] rfl rfl) hS (lv_sub hl [0, 1, 2, 3] rfl)
      ·
        have c_3 := mt (zle (x := iZ x) (y := iZ y) rfl rfl ⟨by omega, by omega⟩ ⟨by omega, by omega⟩).mpr c_3
        refine lv_iconst (v := iZ 0) hx hb dX12_begins_17 (by decide) ?_
        exact EWz hx hb hr hlocks hS (fun i => [0, Msz, Mtd, Mfs, Mfp, Men, Mse, Mtk, Mfr, Mva].getD i 0, fun i => [0].getD i 0, fun i => [Xf].getD i (fun _ => 0), fun i => [].getD i (fun _ => 0)) rfl rfl ⟨(show (0 ≤ (Mfr : Int) ∧ (Mfr : Int) ≤ Men) ∧ ((Men : Int) ≤ Msz ∧ (Msz : Int) ≤ 900) ∧ (0 ≤ (Mtk : Int) ∧ (Mtk : Int) ≤ 4) ∧ ((Mtk : Int) = 0 ∨ (Mfr : Int) < Men) ∧ (-1 ≤ (Mva : Int) ∧ (Mva : Int) ≤ 100000) from (by first | with_reducible assumption | exact ⟨⟨by omega, by omega⟩, ⟨by omega, by omega⟩, ⟨by omega, by omega⟩, by omega, by omega, by omega⟩)), (show ((0 : Int) = 1 ∧ (0 ≤ x ∧ x ≤ Mtd ∧ x ≤ y) ∧ (Mtd : Int) = 0 ∧ Msz = x ∧ (Mfs : Int) = 0 ∧ Mfp = -1 ∧ RFX (tX Pf x) 0 Mfr Men Mtk Mva ∧ xRw Xf (gz Pf) x) ∨ ((0 : Int) = 0 ∧ ¬ (0 ≤ x ∧ x ≤ Mtd ∧ x ≤ y) ∧ Mtd = Mtd ∧ Mfs = Mfs) from (Or.inr ⟨rfl, by omega, rfl, rfl⟩))⟩ (hP.sub [0, 1, 2] rfl) (hD.sub [0, 1, 2] rfl rfl) dX12_begins_18
set_option maxHeartbeats 4000000 in
set_option maxRecDepth 100000 in
theorem y_taken (l : Launch) (D : va_G) (k : Nat → ClassId) (hm : Nat) (Ma : Nat) (Mn : Nat) (Ms : Nat) (My : Nat) (Mt : Nat) (Mp : Nat) (Mx : Nat) (Mo : Nat) (Mk : Nat) (Ml : Nat) (Mb : Nat) (Mh : Nat) (Mc : Nat) (Mz : Nat) (Mr : Nat) (Mq : Nat) (Mst : Int) (Mtd : Int) (Msz : Int) (Mtk : Int) (Mfr : Int) (Men : Int) (Mva : Int) (Mfk : Int) (Mfp : Int) (Mfs : Int) (Mse : Int) (Mlt : Int) (Mdp : Int) (Mct : Int) (Mdr : Int) (Mrs : Int) (Mit : Int) (Mmk : Int) (Mtp : Int64) (Mbt : Int64) (x : Int) (hFS : 0 ≤ Mfs ∧ Mfs ≤ 9) (h9x : -2147483648 ≤ x ∧ x < 2147483648) : WD (σ := ((Nat → Int) × (Nat → Int64) × (Nat → Nat → Int32) × (Nat → Nat → Int64))) l yX12_taken cX12_taken 2 (some .int) 1 0 0 D k [.ref hm, .int (iZ x)] [(hm, .inr (12, [.ref Ma, .ref Mn, .int (iZ Mst), .long Mtp, .long Mbt, .ref Ms, .ref My, .ref Mt, .ref Mp, .ref Mx, .int (iZ Mtd), .int (iZ Msz), .int (iZ Mtk), .int (iZ Mfr), .int (iZ Men), .int (iZ Mva), .int (iZ Mfk), .int (iZ Mfp), .int (iZ Mfs), .int (iZ Mse), .int (iZ Mlt), .ref Mo, .int (iZ Mdp), .int (iZ Mct), .ref Mk, .ref Ml, .ref Mb, .ref Mh, .ref Mc, .int (iZ Mdr), .int (iZ Mrs), .ref Mz, .ref Mr, .ref Mq, .int (iZ Mit), .int (iZ Mmk)]))] (fun u => some (.int (iZ (u.1 0)))) (fun u => (-2147483648 ≤ (u.1 0) ∧ (u.1 0) < 2147483648) ∧ ((1 ≤ Mfs ∧ (u.1 0) = -1) ∨ (Mfs = 0 ∧ (u.1 0) = x)) ∧ ((u.1 1) = Mfs)) (fun u => [(hm, .inr (12, [.ref Ma, .ref Mn, .int (iZ (u.1 2)), .long Mtp, .long Mbt, .ref Ms, .ref My, .ref Mt, .ref Mp, .ref Mx, .int (iZ Mtd), .int (iZ Msz), .int (iZ Mtk), .int (iZ Mfr), .int (iZ Men), .int (iZ Mva), .int (iZ (u.1 1)), .int (iZ Mfp), .int (iZ Mfs), .int (iZ Mse), .int (iZ Mlt), .ref Mo, .int (iZ Mdp), .int (iZ Mct), .ref Mk, .ref Ml, .ref Mb, .ref Mh, .ref Mc, .int (iZ Mdr), .int (iZ Mrs), .ref Mz, .ref Mr, .ref Mq, .int (iZ Mit), .int (iZ Mmk)]))]) := by
  refine MW (by decide) (Nat.le_of_ble_eq_true rfl) (fun p e s m below meth c ls A hx hb hml hr hlocks hin hts hown hKK hP hD hS hA hl => ?_)
  have hK := hKK.1
  have hl : lv_has ls 2 [(0, .ref hm), (1, .int (iZ x))] := hl
  refine lv_aload_n hx hb dX12_taken_0 rfl (lv_at hl 0 rfl) ?_
  refine lv_aload_n hx hb dX12_taken_1 rfl (lv_at hl 0 rfl) ?_
  refine va_get (D := D) (ci := 12) (v := .int (iZ Mfs)) (C := RX12) (T := TX12) (N := 36) hx hb hts iX12 hown hK hP 0 rfl rfl 18 (by decide) (hts _ qf_X12_152) (fun _ h => h) rfl dX12_taken_2 ?_
  refine va_put (D := D) (ci := 12) (v := .int (iZ Mfs)) (ty := .int) (C := RX12) (T := TX12) (N := 36) hx hb hts iX12 tyX12 tyX12_ok nmX12 hown hK hP hD hS 0 rfl rfl 16 (by decide) (hts _ qf_X12_37) (fun _ h => h) rfl (by decide +kernel) rfl rfl (Nat.le_of_ble_eq_true rfl) dX12_taken_5 (fun H locs hP hD hS => ?_)
  refine lv_aload_n hx hb dX12_taken_8 rfl (lv_at hl 0 rfl) ?_
  refine va_get (D := D) (ci := 12) (v := .int (iZ Mfs)) (C := RX12) (T := TX12) (N := 36) hx hb hts iX12 hown hK hP 0 rfl rfl 18 (by decide) (hts _ qf_X12_152) (fun _ h => h) rfl dX12_taken_9 ?_
  refine lv_if_le (tgt := 24) hx hb dX12_taken_12 (by decide) (fun c_1 => ?_) (fun c_1 => ?_)
  ·
    have c_1 := (zle (x := iZ Mfs) (y := iZ 0) rfl rfl ⟨by omega, by omega⟩ ⟨by omega, by omega⟩).mp c_1
    refine lv_aload_n hx hb dX12_taken_24 rfl (lv_at hl 0 rfl) ?_
    refine lv_iload_n hx hb dX12_taken_25 rfl (lv_at hl 1 rfl) ?_
    refine CWV (As := [.int (iZ x)]) (rest := []) (wc := [(hm, .inr (12, [.ref Ma, .ref Mn, .int (iZ Mst), .long Mtp, .long Mbt, .ref Ms, .ref My, .ref Mt, .ref Mp, .ref Mx, .int (iZ Mtd), .int (iZ Msz), .int (iZ Mtk), .int (iZ Mfr), .int (iZ Men), .int (iZ Mva), .int (iZ Mfs), .int (iZ Mfp), .int (iZ Mfs), .int (iZ Mse), .int (iZ Mlt), .ref Mo, .int (iZ Mdp), .int (iZ Mct), .ref Mk, .ref Ml, .ref Mb, .ref Mh, .ref Mc, .int (iZ Mdr), .int (iZ Mrs), .ref Mz, .ref Mr, .ref Mq, .int (iZ Mit), .int (iZ Mmk)]))]) (wr := []) hx hb hml hown hts hKK hP hD hS hA (m_gives l D k hm Ma Mn Ms My Mt Mp Mx Mo Mk Ml Mb Mh Mc Mz Mr Mq Mst Mtd Msz Mtk Mfr Men Mva Mfs Mfp Mfs Mse Mlt Mdp Mct Mdr Mrs Mit Mmk Mtp Mbt x) ci_X12_gives qm_X12_85 ⟨Nat.le_of_ble_eq_true rfl, Nat.le_of_ble_eq_true rfl⟩ ⟨Nat.le_of_ble_eq_true rfl, Nat.le_of_ble_eq_true rfl⟩ [0] [] rfl rfl rfl rfl rfl (by decide) 0 rfl rfl rfl hl.1 rfl (Nat.le_of_ble_eq_true rfl) dX12_taken_26 (fun u_2 H locs hφ hP hD hS => ?_)
    obtain ⟨I_3, L_4, F_5, G_6⟩ := u_2
    refine W.eq (g2 := F0 m 29 ls [.int (iZ x)]) rfl ?_
    exact EWi hx hb hr hlocks hS (fun i => [x, Mfs, 0].getD i 0, fun i => [0].getD i 0, fun i => [].getD i (fun _ => 0), fun i => [].getD i (fun _ => 0)) rfl ⟨(show -2147483648 ≤ x ∧ x < 2147483648 from (by omega)), (show (1 ≤ Mfs ∧ x = -1) ∨ (Mfs = 0 ∧ x = x) from (by omega)), (show Mfs = Mfs from (by omega))⟩ (hP.sub [0] rfl) (hD.sub [0] rfl rfl) dX12_taken_29
  ·
    have c_1 := mt (zle (x := iZ Mfs) (y := iZ 0) rfl rfl ⟨by omega, by omega⟩ ⟨by omega, by omega⟩).mpr c_1
    refine lv_aload_n hx hb dX12_taken_15 rfl (lv_at hl 0 rfl) ?_
    refine lv_bipush (v := iZ 9) hx hb dX12_taken_16 (by decide) ?_
    refine CWV (As := [.int (iZ 9)]) (rest := []) (wc := [(hm, .inr (12, [.ref Ma, .ref Mn, .int (iZ Mst), .long Mtp, .long Mbt, .ref Ms, .ref My, .ref Mt, .ref Mp, .ref Mx, .int (iZ Mtd), .int (iZ Msz), .int (iZ Mtk), .int (iZ Mfr), .int (iZ Men), .int (iZ Mva), .int (iZ Mfs), .int (iZ Mfp), .int (iZ Mfs), .int (iZ Mse), .int (iZ Mlt), .ref Mo, .int (iZ Mdp), .int (iZ Mct), .ref Mk, .ref Ml, .ref Mb, .ref Mh, .ref Mc, .int (iZ Mdr), .int (iZ Mrs), .ref Mz, .ref Mr, .ref Mq, .int (iZ Mit), .int (iZ Mmk)]))]) (wr := []) hx hb hml hown hts hKK hP hD hS hA (m_refuse l D k hm Ma Mn Ms My Mt Mp Mx Mo Mk Ml Mb Mh Mc Mz Mr Mq Mst Mtd Msz Mtk Mfr Men Mva Mfs Mfp Mfs Mse Mlt Mdp Mct Mdr Mrs Mit Mmk Mtp Mbt 9) ci_X12_refuse qm_X12_81 ⟨Nat.le_of_ble_eq_true rfl, Nat.le_of_ble_eq_true rfl⟩ ⟨Nat.le_of_ble_eq_true rfl, Nat.le_of_ble_eq_true rfl⟩ [0] [] rfl rfl rfl rfl rfl (by decide) 0 rfl rfl rfl hl.1 rfl (Nat.le_of_ble_eq_true rfl) dX12_taken_18 (fun u_8 H locs hφ hP hD hS => ?_)
    obtain ⟨I_9, L_10, F_11, G_12⟩ := u_8
    refine W.eq (g2 := F0 m 21 ls [.int (iZ (-1))]) rfl ?_
    refine lv_goto (tgt := 29) hx hb dX12_taken_21 (by decide) ?_
    exact EWi hx hb hr hlocks hS (fun i => [(-1), Mfs, 9].getD i 0, fun i => [0].getD i 0, fun i => [].getD i (fun _ => 0), fun i => [].getD i (fun _ => 0)) rfl ⟨(show -2147483648 ≤ (-1) ∧ (-1) < 2147483648 from (by omega)), (show (1 ≤ Mfs ∧ (-1) = -1) ∨ (Mfs = 0 ∧ (-1) = x) from (by omega)), (show Mfs = Mfs from (by omega))⟩ (hP.sub [0] rfl) (hD.sub [0] rfl rfl) dX12_taken_29
