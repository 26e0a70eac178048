set_option maxHeartbeats 4000000 in
set_option maxRecDepth 100000 in
theorem m_lays (l : Launch) (D : va_G) (k : Nat → ClassId) (hm : Nat) (Ma : Nat) (Mn : Nat) (Ms : Nat) (My : Nat) (Mt : Nat) (Mp : Nat) (Mx : Nat) (Mo : Nat) (Mk : Nat) (Ml : Nat) (Mb : Nat) (Mh : Nat) (Mc : Nat) (Mz : Nat) (Mr : Nat) (Mq : Nat) (Mst : Int) (Mtd : Int) (Msz : Int) (Mtk : Int) (Mfr : Int) (Men : Int) (Mva : Int) (Mfk : Int) (Mfp : Int) (Mfs : Int) (Mse : Int) (Mlt : Int) (Mdp : Int) (Mct : Int) (Mdr : Int) (Mrs : Int) (Mit : Int) (Mmk : Int) (Mtp : Int64) (Mbt : Int64) (Af : Nat → Int32) (Kf : Nat → Int32) (Lf : Nat → Int32) (Bf : Nat → Int32) (x : Int) (w : Int) (hM : M0 Af) (h9x : -2147483648 ≤ x ∧ x < 2147483648) (h9w : 0 ≤ w ∧ w ≤ 400) : WD (σ := ((Nat → Int) × (Nat → Int64) × (Nat → Nat → Int32) × (Nat → Nat → Int64))) l yX12_lays cX12_lays 7 none 5 0 0 D k [.ref hm, .int (iZ x), .int (iZ w)] [(hm, .inr (12, [.ref Ma, .ref Mn, .int (iZ Mst), .long Mtp, .long Mbt, .ref Ms, .ref My, .ref Mt, .ref Mp, .ref Mx, .int (iZ Mtd), .int (iZ Msz), .int (iZ Mtk), .int (iZ Mfr), .int (iZ Men), .int (iZ Mva), .int (iZ Mfk), .int (iZ Mfp), .int (iZ Mfs), .int (iZ Mse), .int (iZ Mlt), .ref Mo, .int (iZ Mdp), .int (iZ Mct), .ref Mk, .ref Ml, .ref Mb, .ref Mh, .ref Mc, .int (iZ Mdr), .int (iZ Mrs), .ref Mz, .ref Mr, .ref Mq, .int (iZ Mit), .int (iZ Mmk)])), (Ma, .inl (k 1, 5340, .inl Af)), (Mk, .inl (k 1, 6, .inl Kf)), (Ml, .inl (k 1, 6, .inl Lf)), (Mb, .inl (k 1, 6, .inl Bf))] (fun _ => none) (fun u => (KR (u.2.2.1 0) 6) ∧ (rgI (u.2.2.1 1) (-1) 5 6)) (fun u => [(hm, .inr (12, [.ref Ma, .ref Mn, .int (iZ Mst), .long Mtp, .long Mbt, .ref Ms, .ref My, .ref Mt, .ref Mp, .ref Mx, .int (iZ Mtd), .int (iZ Msz), .int (iZ Mtk), .int (iZ Mfr), .int (iZ Men), .int (iZ Mva), .int (iZ Mfk), .int (iZ Mfp), .int (iZ Mfs), .int (iZ Mse), .int (iZ Mlt), .ref Mo, .int (iZ Mdp), .int (iZ Mct), .ref Mk, .ref Ml, .ref Mb, .ref Mh, .ref Mc, .int (iZ Mdr), .int (iZ Mrs), .ref Mz, .ref Mr, .ref Mq, .int (iZ Mit), .int (iZ Mmk)])), (Ma, .inl (k 1, 5340, .inl Af)), (Mk, .inl (k 1, 6, .inl (u.2.2.1 0))), (Ml, .inl (k 1, 6, .inl (u.2.2.1 1))), (Mb, .inl (k 1, 6, .inl (u.2.2.1 2)))]) := by
  refine MW (by decide) (Nat.le_of_ble_eq_true rfl) (fun p e s m below meth c ls A hx hb hml hr hlocks hin hts hown hKK hP hD hS hA hl => ?_)
  have hK := hKK.1
  have hl : lv_has ls 7 [(0, .ref hm), (1, .int (iZ x)), (2, .int (iZ w))] := hl
  obtain ⟨m0, m1, m3, m4, m5, mF, mO, mS⟩ := id hM
  refine lv_iconst (v := iZ 0) hx hb dX12_lays_0 (by decide) ?_
  refine lv_istore_n (lv' := [(3, .int (iZ 0)), (0, .ref hm), (1, .int (iZ x)), (2, .int (iZ w))]) hx hb dX12_lays_1 rfl hl (by decide) rfl (fun ls hl => ?_)
  refine lv_iconst (v := iZ 0) hx hb dX12_lays_2 (by decide) ?_
  refine lv_istore (lv' := [(4, .int (iZ 0)), (3, .int (iZ 0)), (0, .ref hm), (1, .int (iZ x)), (2, .int (iZ w))]) hx hb dX12_lays_3 hl (by decide) rfl (fun ls hl => ?_)
  have HL1 : ∀ (fu : Nat) (i : Int) (Kf1 : Nat → Int32) (Lf1 : Nat → Int32) (Bf1 : Nat → Int32) (H : Heap) (locs : List Loc) (ls : Array Slot), (7 - i) < (fu : Int) → (0 ≤ i ∧ i ≤ 6) → (KR Kf1 i) → (rgI Lf1 (-1) 5 i) → va_P D vwCl [(hm, .inr (12, [.ref Ma, .ref Mn, .int (iZ Mst), .long Mtp, .long Mbt, .ref Ms, .ref My, .ref Mt, .ref Mp, .ref Mx, .int (iZ Mtd), .int (iZ Msz), .int (iZ Mtk), .int (iZ Mfr), .int (iZ Men), .int (iZ Mva), .int (iZ Mfk), .int (iZ Mfp), .int (iZ Mfs), .int (iZ Mse), .int (iZ Mlt), .ref Mo, .int (iZ Mdp), .int (iZ Mct), .ref Mk, .ref Ml, .ref Mb, .ref Mh, .ref Mc, .int (iZ Mdr), .int (iZ Mrs), .ref Mz, .ref Mr, .ref Mq, .int (iZ Mit), .int (iZ Mmk)])), (Ma, .inl (k 1, 5340, .inl Af)), (Mk, .inl (k 1, 6, .inl Kf1)), (Ml, .inl (k 1, 6, .inl Lf1)), (Mb, .inl (k 1, 6, .inl Bf1))] H → va_D A [(hm, .inr (12, [.ref Ma, .ref Mn, .int (iZ Mst), .long Mtp, .long Mbt, .ref Ms, .ref My, .ref Mt, .ref Mp, .ref Mx, .int (iZ Mtd), .int (iZ Msz), .int (iZ Mtk), .int (iZ Mfr), .int (iZ Men), .int (iZ Mva), .int (iZ Mfk), .int (iZ Mfp), .int (iZ Mfs), .int (iZ Mse), .int (iZ Mlt), .ref Mo, .int (iZ Mdp), .int (iZ Mct), .ref Mk, .ref Ml, .ref Mb, .ref Mh, .ref Mc, .int (iZ Mdr), .int (iZ Mrs), .ref Mz, .ref Mr, .ref Mq, .int (iZ Mit), .int (iZ Mmk)])), (Ma, .inl (k 1, 5340, .inl Af)), (Mk, .inl (k 1, 6, .inl Kf1)), (Ml, .inl (k 1, 6, .inl Lf1)), (Mb, .inl (k 1, 6, .inl Bf1))] → va_S A s.heap H locs → lv_has ls 7 [(4, .int (iZ i)), (3, .int (iZ 0)), (0, .ref hm), (1, .int (iZ x)), (2, .int (iZ w))] → W p l e (rj 5 0 0) s m [.ref hm, .int (iZ x), .int (iZ w)].toArray below meth c H locs 0 0 (MQ below (QW (σ := ((Nat → Int) × (Nat → Int64) × (Nat → Nat → Int32) × (Nat → Nat → Int64))) (fun _ => none) (fun u => (KR (u.2.2.1 0) 6) ∧ (rgI (u.2.2.1 1) (-1) 5 6)) (fun u => [(hm, .inr (12, [.ref Ma, .ref Mn, .int (iZ Mst), .long Mtp, .long Mbt, .ref Ms, .ref My, .ref Mt, .ref Mp, .ref Mx, .int (iZ Mtd), .int (iZ Msz), .int (iZ Mtk), .int (iZ Mfr), .int (iZ Men), .int (iZ Mva), .int (iZ Mfk), .int (iZ Mfp), .int (iZ Mfs), .int (iZ Mse), .int (iZ Mlt), .ref Mo, .int (iZ Mdp), .int (iZ Mct), .ref Mk, .ref Ml, .ref Mb, .ref Mh, .ref Mc, .int (iZ Mdr), .int (iZ Mrs), .ref Mz, .ref Mr, .ref Mq, .int (iZ Mit), .int (iZ Mmk)])), (Ma, .inl (k 1, 5340, .inl Af)), (Mk, .inl (k 1, 6, .inl (u.2.2.1 0))), (Ml, .inl (k 1, 6, .inl (u.2.2.1 1))), (Mb, .inl (k 1, 6, .inl (u.2.2.1 2)))]) D A) [.ref hm, .int (iZ x), .int (iZ w)].toArray s 0 0 A) (F0 m 5 ls []) := by
    intro fu
    induction fu with
    | zero => intro i Kf1 Lf1 Bf1 H locs ls hμ1 hi1 hk1 hl1 hP hD hS hl; exact absurd hμ1 (by omega)
    | succ fu ih1 =>
      intro i Kf1 Lf1 Bf1 H locs ls hμ1 hi1 hk1 hl1 hP hD hS hl
      refine lv_iload hx hb dX12_lays_5 (lv_at hl 0 rfl) ?_
      refine lv_bipush (v := iZ 6) hx hb dX12_lays_7 (by decide) ?_
      refine lv_icmp_ge (tgt := 53) hx hb dX12_lays_9 (by decide) (fun c_1 => ?_) (fun c_1 => ?_)
      ·
        have c_1 := (zle (x := iZ 6) (y := iZ i) rfl rfl ⟨by omega, by omega⟩ ⟨by omega, by omega⟩).mp c_1
        obtain rfl : i = 6 := by omega
        have HL2 : ∀ (fu : Nat) (se : Int) (Kf2 : Nat → Int32) (Lf2 : Nat → Int32) (Bf2 : Nat → Int32) (H : Heap) (locs : List Loc) (ls : Array Slot), (64 - se) < (fu : Int) → (0 ≤ se ∧ se < 64) → (KR Kf2 6) → (rgI Lf2 (-1) 5 6) → va_P D vwCl [(hm, .inr (12, [.ref Ma, .ref Mn, .int (iZ Mst), .long Mtp, .long Mbt, .ref Ms, .ref My, .ref Mt, .ref Mp, .ref Mx, .int (iZ Mtd), .int (iZ Msz), .int (iZ Mtk), .int (iZ Mfr), .int (iZ Men), .int (iZ Mva), .int (iZ Mfk), .int (iZ Mfp), .int (iZ Mfs), .int (iZ Mse), .int (iZ Mlt), .ref Mo, .int (iZ Mdp), .int (iZ Mct), .ref Mk, .ref Ml, .ref Mb, .ref Mh, .ref Mc, .int (iZ Mdr), .int (iZ Mrs), .ref Mz, .ref Mr, .ref Mq, .int (iZ Mit), .int (iZ Mmk)])), (Ma, .inl (k 1, 5340, .inl Af)), (Mk, .inl (k 1, 6, .inl Kf2)), (Ml, .inl (k 1, 6, .inl Lf2)), (Mb, .inl (k 1, 6, .inl Bf2))] H → va_D A [(hm, .inr (12, [.ref Ma, .ref Mn, .int (iZ Mst), .long Mtp, .long Mbt, .ref Ms, .ref My, .ref Mt, .ref Mp, .ref Mx, .int (iZ Mtd), .int (iZ Msz), .int (iZ Mtk), .int (iZ Mfr), .int (iZ Men), .int (iZ Mva), .int (iZ Mfk), .int (iZ Mfp), .int (iZ Mfs), .int (iZ Mse), .int (iZ Mlt), .ref Mo, .int (iZ Mdp), .int (iZ Mct), .ref Mk, .ref Ml, .ref Mb, .ref Mh, .ref Mc, .int (iZ Mdr), .int (iZ Mrs), .ref Mz, .ref Mr, .ref Mq, .int (iZ Mit), .int (iZ Mmk)])), (Ma, .inl (k 1, 5340, .inl Af)), (Mk, .inl (k 1, 6, .inl Kf2)), (Ml, .inl (k 1, 6, .inl Lf2)), (Mb, .inl (k 1, 6, .inl Bf2))] → va_S A s.heap H locs → lv_has ls 7 [(3, .int (iZ se)), (0, .ref hm), (1, .int (iZ x)), (2, .int (iZ w))] → W p l e (rj 5 0 0) s m [.ref hm, .int (iZ x), .int (iZ w)].toArray below meth c H locs 0 0 (MQ below (QW (σ := ((Nat → Int) × (Nat → Int64) × (Nat → Nat → Int32) × (Nat → Nat → Int64))) (fun _ => none) (fun u => (KR (u.2.2.1 0) 6) ∧ (rgI (u.2.2.1 1) (-1) 5 6)) (fun u => [(hm, .inr (12, [.ref Ma, .ref Mn, .int (iZ Mst), .long Mtp, .long Mbt, .ref Ms, .ref My, .ref Mt, .ref Mp, .ref Mx, .int (iZ Mtd), .int (iZ Msz), .int (iZ Mtk), .int (iZ Mfr), .int (iZ Men), .int (iZ Mva), .int (iZ Mfk), .int (iZ Mfp), .int (iZ Mfs), .int (iZ Mse), .int (iZ Mlt), .ref Mo, .int (iZ Mdp), .int (iZ Mct), .ref Mk, .ref Ml, .ref Mb, .ref Mh, .ref Mc, .int (iZ Mdr), .int (iZ Mrs), .ref Mz, .ref Mr, .ref Mq, .int (iZ Mit), .int (iZ Mmk)])), (Ma, .inl (k 1, 5340, .inl Af)), (Mk, .inl (k 1, 6, .inl (u.2.2.1 0))), (Ml, .inl (k 1, 6, .inl (u.2.2.1 1))), (Mb, .inl (k 1, 6, .inl (u.2.2.1 2)))]) D A) [.ref hm, .int (iZ x), .int (iZ w)].toArray s 0 0 A) (F0 m 53 ls []) := by
          intro fu
          induction fu with
          | zero => intro se Kf2 Lf2 Bf2 H locs ls hμ2 hse hk2 hl2 hP hD hS hl; exact absurd hμ2 (by omega)
          | succ fu ih2 =>
            intro se Kf2 Lf2 Bf2 H locs ls hμ2 hse hk2 hl2 hP hD hS hl
            refine lv_iconst (v := iZ (-1)) hx hb dX12_lays_53 (by decide) ?_
            refine lv_istore (lv' := [(4, .int (iZ (-1))), (3, .int (iZ se)), (0, .ref hm), (1, .int (iZ x)), (2, .int (iZ w))]) hx hb dX12_lays_54 hl (by decide) rfl (fun ls hl => ?_)
            refine lv_iconst (v := iZ 0) hx hb dX12_lays_56 (by decide) ?_
            refine lv_istore (lv' := [(5, .int (iZ 0)), (4, .int (iZ (-1))), (3, .int (iZ se)), (0, .ref hm), (1, .int (iZ x)), (2, .int (iZ w))]) hx hb dX12_lays_57 hl (by decide) rfl (fun ls hl => ?_)
            have HL3 : ∀ (fu : Nat) (nx : Int) (r1 : Int) (H : Heap) (locs : List Loc) (ls : Array Slot), (gz Af 0 + 1 - r1) < (fu : Int) → (0 ≤ r1 ∧ r1 ≤ gz Af 0) → (-1 ≤ nx ∧ nx < gz Af 0) → (nx = -1 ∨ bt se nx) → va_P D vwCl [(hm, .inr (12, [.ref Ma, .ref Mn, .int (iZ Mst), .long Mtp, .long Mbt, .ref Ms, .ref My, .ref Mt, .ref Mp, .ref Mx, .int (iZ Mtd), .int (iZ Msz), .int (iZ Mtk), .int (iZ Mfr), .int (iZ Men), .int (iZ Mva), .int (iZ Mfk), .int (iZ Mfp), .int (iZ Mfs), .int (iZ Mse), .int (iZ Mlt), .ref Mo, .int (iZ Mdp), .int (iZ Mct), .ref Mk, .ref Ml, .ref Mb, .ref Mh, .ref Mc, .int (iZ Mdr), .int (iZ Mrs), .ref Mz, .ref Mr, .ref Mq, .int (iZ Mit), .int (iZ Mmk)])), (Ma, .inl (k 1, 5340, .inl Af)), (Mk, .inl (k 1, 6, .inl Kf2)), (Ml, .inl (k 1, 6, .inl Lf2)), (Mb, .inl (k 1, 6, .inl Bf2))] H → va_D A [(hm, .inr (12, [.ref Ma, .ref Mn, .int (iZ Mst), .long Mtp, .long Mbt, .ref Ms, .ref My, .ref Mt, .ref Mp, .ref Mx, .int (iZ Mtd), .int (iZ Msz), .int (iZ Mtk), .int (iZ Mfr), .int (iZ Men), .int (iZ Mva), .int (iZ Mfk), .int (iZ Mfp), .int (iZ Mfs), .int (iZ Mse), .int (iZ Mlt), .ref Mo, .int (iZ Mdp), .int (iZ Mct), .ref Mk, .ref Ml, .ref Mb, .ref Mh, .ref Mc, .int (iZ Mdr), .int (iZ Mrs), .ref Mz, .ref Mr, .ref Mq, .int (iZ Mit), .int (iZ Mmk)])), (Ma, .inl (k 1, 5340, .inl Af)), (Mk, .inl (k 1, 6, .inl Kf2)), (Ml, .inl (k 1, 6, .inl Lf2)), (Mb, .inl (k 1, 6, .inl Bf2))] → va_S A s.heap H locs → lv_has ls 7 [(5, .int (iZ r1)), (4, .int (iZ nx)), (3, .int (iZ se)), (0, .ref hm), (1, .int (iZ x)), (2, .int (iZ w))] → W p l e (rj 5 0 0) s m [.ref hm, .int (iZ x), .int (iZ w)].toArray below meth c H locs 0 0 (MQ below (QW (σ := ((Nat → Int) × (Nat → Int64) × (Nat → Nat → Int32) × (Nat → Nat → Int64))) (fun _ => none) (fun u => (KR (u.2.2.1 0) 6) ∧ (rgI (u.2.2.1 1) (-1) 5 6)) (fun u => [(hm, .inr (12, [.ref Ma, .ref Mn, .int (iZ Mst), .long Mtp, .long Mbt, .ref Ms, .ref My, .ref Mt, .ref Mp, .ref Mx, .int (iZ Mtd), .int (iZ Msz), .int (iZ Mtk), .int (iZ Mfr), .int (iZ Men), .int (iZ Mva), .int (iZ Mfk), .int (iZ Mfp), .int (iZ Mfs), .int (iZ Mse), .int (iZ Mlt), .ref Mo, .int (iZ Mdp), .int (iZ Mct), .ref Mk, .ref Ml, .ref Mb, .ref Mh, .ref Mc, .int (iZ Mdr), .int (iZ Mrs), .ref Mz, .ref Mr, .ref Mq, .int (iZ Mit), .int (iZ Mmk)])), (Ma, .inl (k 1, 5340, .inl Af)), (Mk, .inl (k 1, 6, .inl (u.2.2.1 0))), (Ml, .inl (k 1, 6, .inl (u.2.2.1 1))), (Mb, .inl (k 1, 6, .inl (u.2.2.1 2)))]) D A) [.ref hm, .int (iZ x), .int (iZ w)].toArray s 0 0 A) (F0 m 59 ls []) := by
              intro fu
              induction fu with
              | zero => intro nx r1 H locs ls hμ3 hr1 hnx hnb hP hD hS hl; exact absurd hμ3 (by omega)
              | succ fu ih3 =>
                intro nx r1 H locs ls hμ3 hr1 hnx hnb hP hD hS hl
                refine lv_iload hx hb dX12_lays_59 (lv_at hl 0 rfl) ?_
                refine lv_aload_n hx hb dX12_lays_61 rfl (lv_at hl 3 rfl) ?_
                refine va_get (D := D) (ci := 12) (v := .ref Ma) (C := RX12) (T := TX12) (N := 36) hx hb hts iX12 hown hK hP 0 rfl rfl 0 (by decide) (hts _ qf_X12_7) (fun _ h => h) rfl dX12_lays_62 ?_
                refine lv_iconst (v := iZ 0) hx hb dX12_lays_65 (by decide) ?_
                refine va_iald hx hb hK hP 1 1 rfl rfl (zin (e := 0) (n := 5340) ⟨by omega, by omega⟩ (by decide)) dX12_lays_66 ?_
                refine lv_topi (fun x_2 ex_2 => ?_)
                obtain rfl : x_2 = iZ (gz Af 0) := ex_2.trans (gz_eq ⟨by omega, by omega⟩)
                have h_3 := gz_rg Af 0
                refine lv_icmp_ge (tgt := 124) hx hb dX12_lays_67 (by decide) (fun c_4 => ?_) (fun c_4 => ?_)
                ·
                  have c_4 := (zle (x := iZ (gz Af 0)) (y := iZ r1) rfl rfl ⟨by omega, by omega⟩ ⟨by omega, by omega⟩).mp c_4
                  refine lv_iload hx hb dX12_lays_124 (lv_at hl 1 rfl) ?_
                  refine lv_iconst (v := iZ (-1)) hx hb dX12_lays_126 (by decide) ?_
                  refine lv_icmp_ne (tgt := 131) hx hb dX12_lays_127 (by decide) (fun c_5 => ?_) (fun c_5 => ?_)
                  ·
                    have c_5 := mt (zeq (x := iZ nx) (y := iZ (-1)) rfl rfl ⟨by omega, by omega⟩ ⟨by omega, by omega⟩).mpr c_5
                    refine lv_iload_n hx hb dX12_lays_131 rfl (lv_at hl 2 rfl) ?_
                    refine lv_iconst (v := iZ 1) hx hb dX12_lays_132 (by decide) ?_
                    refine lv_iload hx hb dX12_lays_133 (lv_at hl 1 rfl) ?_
                    refine lv_ishl hx hb dX12_lays_135 ?_
                    refine lv_topi (fun x_7 ex_7 => ?_)
                    obtain ⟨z_6, hz_6, hz_6a, hz_6b⟩ := i32_z x_7
                    subst hz_6
                    refine lv_ior hx hb dX12_lays_136 ?_
                    refine lv_topi (fun x_9 ex_9 => ?_)
                    obtain ⟨z_8, hz_8, hz_8a, hz_8b⟩ := i32_z x_9
                    subst hz_8
                    refine lv_istore_n (lv' := [(3, .int (iZ z_8)), (5, .int (iZ r1)), (4, .int (iZ nx)), (0, .ref hm), (1, .int (iZ x)), (2, .int (iZ w))]) hx hb dX12_lays_137 rfl hl (by decide) rfl (fun ls hl => ?_)
                    have hbs := bt_set hse ⟨by omega, by omega⟩ (hnb.resolve_left (by omega)) (by assumption) (by assumption) ⟨by assumption, by assumption⟩
                    refine lv_iconst (v := iZ 0) hx hb dX12_lays_138 (by decide) ?_
                    refine lv_istore (lv' := [(5, .int (iZ 0)), (3, .int (iZ z_8)), (4, .int (iZ nx)), (0, .ref hm), (1, .int (iZ x)), (2, .int (iZ w))]) hx hb dX12_lays_139 hl (by decide) rfl (fun ls hl => ?_)
                    have HL4 : ∀ (fu : Nat) (o1 : Int) (Kf4 : Nat → Int32) (Lf4 : Nat → Int32) (Bf4 : Nat → Int32) (H : Heap) (locs : List Loc) (ls : Array Slot), (gz Af 0 + 1 - o1) < (fu : Int) → (0 ≤ o1 ∧ o1 ≤ gz Af 0) → (KR Kf4 6) → (rgI Lf4 (-1) 5 6) → va_P D vwCl [(hm, .inr (12, [.ref Ma, .ref Mn, .int (iZ Mst), .long Mtp, .long Mbt, .ref Ms, .ref My, .ref Mt, .ref Mp, .ref Mx, .int (iZ Mtd), .int (iZ Msz), .int (iZ Mtk), .int (iZ Mfr), .int (iZ Men), .int (iZ Mva), .int (iZ Mfk), .int (iZ Mfp), .int (iZ Mfs), .int (iZ Mse), .int (iZ Mlt), .ref Mo, .int (iZ Mdp), .int (iZ Mct), .ref Mk, .ref Ml, .ref Mb, .ref Mh, .ref Mc, .int (iZ Mdr), .int (iZ Mrs), .ref Mz, .ref Mr, .ref Mq, .int (iZ Mit), .int (iZ Mmk)])), (Ma, .inl (k 1, 5340, .inl Af)), (Mk, .inl (k 1, 6, .inl Kf4)), (Ml, .inl (k 1, 6, .inl Lf4)), (Mb, .inl (k 1, 6, .inl Bf4))] H → va_D A [(hm, .inr (12, [.ref Ma, .ref Mn, .int (iZ Mst), .long Mtp, .long Mbt, .ref Ms, .ref My, .ref Mt, .ref Mp, .ref Mx, .int (iZ Mtd), .int (iZ Msz), .int (iZ Mtk), .int (iZ Mfr), .int (iZ Men), .int (iZ Mva), .int (iZ Mfk), .int (iZ Mfp), .int (iZ Mfs), .int (iZ Mse), .int (iZ Mlt), .ref Mo, .int (iZ Mdp), .int (iZ Mct), .ref Mk, .ref Ml, .ref Mb, .ref Mh, .ref Mc, .int (iZ Mdr), .int (iZ Mrs), .ref Mz, .ref Mr, .ref Mq, .int (iZ Mit), .int (iZ Mmk)])), (Ma, .inl (k 1, 5340, .inl Af)), (Mk, .inl (k 1, 6, .inl Kf4)), (Ml, .inl (k 1, 6, .inl Lf4)), (Mb, .inl (k 1, 6, .inl Bf4))] → va_S A s.heap H locs → lv_has ls 7 [(5, .int (iZ o1)), (3, .int (iZ z_8)), (4, .int (iZ nx)), (0, .ref hm), (1, .int (iZ x)), (2, .int (iZ w))] → W p l e (rj 5 0 0) s m [.ref hm, .int (iZ x), .int (iZ w)].toArray below meth c H locs 0 0 (MQ below (QW (σ := ((Nat → Int) × (Nat → Int64) × (Nat → Nat → Int32) × (Nat → Nat → Int64))) (fun _ => none) (fun u => (KR (u.2.2.1 0) 6) ∧ (rgI (u.2.2.1 1) (-1) 5 6)) (fun u => [(hm, .inr (12, [.ref Ma, .ref Mn, .int (iZ Mst), .long Mtp, .long Mbt, .ref Ms, .ref My, .ref Mt, .ref Mp, .ref Mx, .int (iZ Mtd), .int (iZ Msz), .int (iZ Mtk), .int (iZ Mfr), .int (iZ Men), .int (iZ Mva), .int (iZ Mfk), .int (iZ Mfp), .int (iZ Mfs), .int (iZ Mse), .int (iZ Mlt), .ref Mo, .int (iZ Mdp), .int (iZ Mct), .ref Mk, .ref Ml, .ref Mb, .ref Mh, .ref Mc, .int (iZ Mdr), .int (iZ Mrs), .ref Mz, .ref Mr, .ref Mq, .int (iZ Mit), .int (iZ Mmk)])), (Ma, .inl (k 1, 5340, .inl Af)), (Mk, .inl (k 1, 6, .inl (u.2.2.1 0))), (Ml, .inl (k 1, 6, .inl (u.2.2.1 1))), (Mb, .inl (k 1, 6, .inl (u.2.2.1 2)))]) D A) [.ref hm, .int (iZ x), .int (iZ w)].toArray s 0 0 A) (F0 m 141 ls []) := by
                      intro fu
                      induction fu with
                      | zero => intro o1 Kf4 Lf4 Bf4 H locs ls hμ4 ho1 hk4 hl4 hP hD hS hl; exact absurd hμ4 (by omega)
                      | succ fu ih4 =>
                        intro o1 Kf4 Lf4 Bf4 H locs ls hμ4 ho1 hk4 hl4 hP hD hS hl
                        refine lv_iload hx hb dX12_lays_141 (lv_at hl 0 rfl) ?_
                        refine lv_aload_n hx hb dX12_lays_143 rfl (lv_at hl 3 rfl) ?_
                        refine va_get (D := D) (ci := 12) (v := .ref Ma) (C := RX12) (T := TX12) (N := 36) hx hb hts iX12 hown hK hP 0 rfl rfl 0 (by decide) (hts _ qf_X12_7) (fun _ h => h) rfl dX12_lays_144 ?_
                        refine lv_iconst (v := iZ 0) hx hb dX12_lays_147 (by decide) ?_
                        refine va_iald hx hb hK hP 1 1 rfl rfl (zin (e := 0) (n := 5340) ⟨by omega, by omega⟩ (by decide)) dX12_lays_148 ?_
                        refine lv_topi (fun x_10 ex_10 => ?_)
                        obtain rfl : x_10 = iZ (gz Af 0) := ex_10.trans (gz_eq ⟨by omega, by omega⟩)
                        have h_11 := gz_rg Af 0
                        refine lv_icmp_ge (tgt := 265) hx hb dX12_lays_149 (by decide) (fun c_12 => ?_) (fun c_12 => ?_)
                        ·
                          have c_12 := (zle (x := iZ (gz Af 0)) (y := iZ o1) rfl rfl ⟨by omega, by omega⟩ ⟨by omega, by omega⟩).mp c_12
                          refine lv_goto (tgt := 53) hx hb dX12_lays_265 (by decide) ?_
                          exact ih2  z_8 Kf4 Lf4 Bf4 _ _ _ (by omega) (show 0 ≤ z_8 ∧ z_8 < 64 from ⟨by omega, by omega⟩) (show KR Kf4 6 from hk4) (show rgI Lf4 (-1) 5 6 from hl4) (hP.sub [0, 1, 2, 3, 4] rfl) (hD.sub [0, 1, 2, 3, 4] rfl rfl) hS (lv_sub hl [1, 3, 4, 5] rfl)
                        ·
                          have c_12 := mt (zle (x := iZ (gz Af 0)) (y := iZ o1) rfl rfl ⟨by omega, by omega⟩ ⟨by omega, by omega⟩).mpr c_12
                          refine lv_aload_n hx hb dX12_lays_152 rfl (lv_at hl 3 rfl) ?_
                          refine lv_iload hx hb dX12_lays_153 (lv_at hl 2 rfl) ?_
                          refine lv_aload_n hx hb dX12_lays_155 rfl (lv_at hl 3 rfl) ?_
                          refine va_get (D := D) (ci := 12) (v := .ref Mk) (C := RX12) (T := TX12) (N := 36) hx hb hts iX12 hown hK hP 0 rfl rfl 24 (by decide) (hts _ qf_X12_47) (fun _ h => h) rfl dX12_lays_156 ?_
                          refine lv_iload hx hb dX12_lays_159 (lv_at hl 2 rfl) ?_
                          refine va_iald hx hb hK hP 2 1 rfl rfl (zin (e := nx) (n := 6) ⟨by omega, by omega⟩ (by decide)) dX12_lays_161 ?_
                          refine lv_topi (fun x_13 ex_13 => ?_)
                          obtain rfl : x_13 = iZ (gz Kf4 nx) := ex_13.trans (gz_eq ⟨by omega, by omega⟩)
                          have h_14 := hk4 nx (by omega) (by omega)
                          refine lv_iload hx hb dX12_lays_162 (lv_at hl 0 rfl) ?_
                          refine CPV (As := [.int (iZ nx), .int (iZ (gz Kf4 nx)), .int (iZ o1)]) (rest := []) hx hb hml hown hts hKK (hP.sub (ws' := [(hm, .inr (12, [.ref Ma, .ref Mn, .int (iZ Mst), .long Mtp, .long Mbt, .ref Ms, .ref My, .ref Mt, .ref Mp, .ref Mx, .int (iZ Mtd), .int (iZ Msz), .int (iZ Mtk), .int (iZ Mfr), .int (iZ Men), .int (iZ Mva), .int (iZ Mfk), .int (iZ Mfp), .int (iZ Mfs), .int (iZ Mse), .int (iZ Mlt), .ref Mo, .int (iZ Mdp), .int (iZ Mct), .ref Mk, .ref Ml, .ref Mb, .ref Mh, .ref Mc, .int (iZ Mdr), .int (iZ Mrs), .ref Mz, .ref Mr, .ref Mq, .int (iZ Mit), .int (iZ Mmk)])), (Ma, .inl (k 1, 5340, .inl Af))]) [0, 1] rfl) (m_arrival l D k ([.ref Ma, .ref Mn, .int (iZ Mst), .long Mtp, .long Mbt, .ref Ms, .ref My, .ref Mt, .ref Mp, .ref Mx, .int (iZ Mtd), .int (iZ Msz), .int (iZ Mtk), .int (iZ Mfr), .int (iZ Men), .int (iZ Mva), .int (iZ Mfk), .int (iZ Mfp), .int (iZ Mfs), .int (iZ Mse), .int (iZ Mlt), .ref Mo, .int (iZ Mdp), .int (iZ Mct), .ref Mk, .ref Ml, .ref Mb, .ref Mh, .ref Mc, .int (iZ Mdr), .int (iZ Mrs), .ref Mz, .ref Mr, .ref Mq, .int (iZ Mit), .int (iZ Mmk)]) hm Ma Af nx (gz Kf4 nx) o1 rfl hM ⟨by omega, by omega⟩ ⟨by omega, by omega⟩ ⟨by omega, by omega⟩) ci_X12_arrival qm_X12_280 ⟨Nat.le_of_ble_eq_true rfl, Nat.le_of_ble_eq_true rfl⟩ ⟨Nat.le_of_ble_eq_true rfl, Nat.le_of_ble_eq_true rfl⟩ 0 rfl rfl rfl hl.1 rfl (Nat.le_of_ble_eq_true rfl) dX12_lays_164 (fun z_15 hz_15 => ?_)
                          obtain ⟨ez_15, az_15⟩ := hz_15
                          refine lv_istore (lv' := [(6, .int (iZ z_15)), (5, .int (iZ o1)), (3, .int (iZ z_8)), (4, .int (iZ nx)), (0, .ref hm), (1, .int (iZ x)), (2, .int (iZ w))]) hx hb dX12_lays_167 hl (by decide) rfl (fun ls hl => ?_)
                          refine lv_iload_n hx hb dX12_lays_169 rfl (lv_at hl 2 rfl) ?_
                          refine lv_iload hx hb dX12_lays_170 (lv_at hl 1 rfl) ?_
                          refine lv_ishr hx hb dX12_lays_172 ?_
                          refine lv_topi (fun x_17 ex_17 => ?_)
                          obtain ⟨z_16, hz_16, hz_16a, hz_16b⟩ := i32_z x_17
                          subst hz_16
                          refine lv_iconst (v := iZ 1) hx hb dX12_lays_173 (by decide) ?_
                          refine lv_iand hx hb dX12_lays_174 ?_
                          refine lv_topi (fun x_19 ex_19 => ?_)
                          obtain ⟨z_18, hz_18, hz_18a, hz_18b⟩ := i32_z x_19
                          subst hz_18
                          refine lv_iconst (v := iZ 1) hx hb dX12_lays_175 (by decide) ?_
                          refine lv_icmp_eq (tgt := 259) hx hb dX12_lays_176 (by decide) (fun c_20 => ?_) (fun c_20 => ?_)
                          ·
                            have c_20 := (zeq (x := iZ z_18) (y := iZ 1) rfl rfl ⟨by omega, by omega⟩ ⟨by omega, by omega⟩).mp c_20
                            refine lv_iinc (v := iZ (o1 + 1)) (lv' := [(5, .int (iZ (o1 + 1))), (6, .int (iZ z_15)), (3, .int (iZ z_8)), (4, .int (iZ nx)), (0, .ref hm), (1, .int (iZ x)), (2, .int (iZ w))]) hx hb dX12_lays_259 hl (k := 1) rfl (iZ_add o1 1) (by decide) rfl (fun ls hl => ?_)
                            refine lv_goto (tgt := 141) hx hb dX12_lays_262 (by decide) ?_
                            exact ih4  (o1 + 1) Kf4 Lf4 Bf4 _ _ _ (by omega) (show 0 ≤ (o1 + 1) ∧ (o1 + 1) ≤ gz Af 0 from ⟨by omega, by omega⟩) (show KR Kf4 6 from hk4) (show rgI Lf4 (-1) 5 6 from hl4) (hP.sub [0, 1, 2, 3, 4] rfl) (hD.sub [0, 1, 2, 3, 4] rfl rfl) hS (lv_sub hl [0, 2, 3, 4, 5, 6] rfl)
                          ·
                            have c_20 := mt (zeq (x := iZ z_18) (y := iZ 1) rfl rfl ⟨by omega, by omega⟩ ⟨by omega, by omega⟩).mpr c_20
                            refine lv_iload hx hb dX12_lays_179 (lv_at hl 0 rfl) ?_
                            refine lv_aload_n hx hb dX12_lays_181 rfl (lv_at hl 4 rfl) ?_
                            refine va_get (D := D) (ci := 12) (v := .ref Mk) (C := RX12) (T := TX12) (N := 36) hx hb hts iX12 hown hK hP 0 rfl rfl 24 (by decide) (hts _ qf_X12_47) (fun _ h => h) rfl dX12_lays_182 ?_
                            refine lv_iload hx hb dX12_lays_185 (lv_at hl 1 rfl) ?_
                            refine va_iald hx hb hK hP 2 1 rfl rfl (zin (e := o1) (n := 6) ⟨by omega, by omega⟩ (by decide)) dX12_lays_187 ?_
                            refine lv_topi (fun x_21 ex_21 => ?_)
                            obtain rfl : x_21 = iZ (gz Kf4 o1) := ex_21.trans (gz_eq ⟨by omega, by omega⟩)
                            have h_22 := hk4 o1 (by omega) (by omega)
                            refine lv_icmp_gt (tgt := 259) hx hb dX12_lays_188 (by decide) (fun c_23 => ?_) (fun c_23 => ?_)
                            ·
                              have c_23 := (zlt (x := iZ (gz Kf4 o1)) (y := iZ z_15) rfl rfl ⟨by omega, by omega⟩ ⟨by omega, by omega⟩).mp c_23
                              refine lv_iinc (v := iZ (o1 + 1)) (lv' := [(5, .int (iZ (o1 + 1))), (6, .int (iZ z_15)), (3, .int (iZ z_8)), (4, .int (iZ nx)), (0, .ref hm), (1, .int (iZ x)), (2, .int (iZ w))]) hx hb dX12_lays_259 hl (k := 1) rfl (iZ_add o1 1) (by decide) rfl (fun ls hl => ?_)
                              refine lv_goto (tgt := 141) hx hb dX12_lays_262 (by decide) ?_
                              exact ih4  (o1 + 1) Kf4 Lf4 Bf4 _ _ _ (by omega) (show 0 ≤ (o1 + 1) ∧ (o1 + 1) ≤ gz Af 0 from ⟨by omega, by omega⟩) (show KR Kf4 6 from hk4) (show rgI Lf4 (-1) 5 6 from hl4) (hP.sub [0, 1, 2, 3, 4] rfl) (hD.sub [0, 1, 2, 3, 4] rfl rfl) hS (lv_sub hl [0, 2, 3, 4, 5, 6] rfl)
                            ·
                              have c_23 := mt (zlt (x := iZ (gz Kf4 o1)) (y := iZ z_15) rfl rfl ⟨by omega, by omega⟩ ⟨by omega, by omega⟩).mpr c_23
                              refine lv_iload hx hb dX12_lays_191 (lv_at hl 0 rfl) ?_
                              refine lv_ldc (own := RX12) (v := 1000000) hx hb hown (hts _ qk_X12_88) dX12_lays_193 ?_
                              refine W.eq (g2 := F0 m 195 ls [.int (iZ 1000000), .int (iZ z_15)]) rfl ?_
                              refine lv_icmp_eq (tgt := 259) hx hb dX12_lays_195 (by decide) (fun c_24 => ?_) (fun c_24 => ?_)
                              ·
                                have c_24 := (zeq (x := iZ z_15) (y := iZ 1000000) rfl rfl ⟨by omega, by omega⟩ ⟨by omega, by omega⟩).mp c_24
                                refine lv_iinc (v := iZ (o1 + 1)) (lv' := [(5, .int (iZ (o1 + 1))), (6, .int (iZ z_15)), (3, .int (iZ z_8)), (4, .int (iZ nx)), (0, .ref hm), (1, .int (iZ x)), (2, .int (iZ w))]) hx hb dX12_lays_259 hl (k := 1) rfl (iZ_add o1 1) (by decide) rfl (fun ls hl => ?_)
                                refine lv_goto (tgt := 141) hx hb dX12_lays_262 (by decide) ?_
                                exact ih4  (o1 + 1) Kf4 Lf4 Bf4 _ _ _ (by omega) (show 0 ≤ (o1 + 1) ∧ (o1 + 1) ≤ gz Af 0 from ⟨by omega, by omega⟩) (show KR Kf4 6 from hk4) (show rgI Lf4 (-1) 5 6 from hl4) (hP.sub [0, 1, 2, 3, 4] rfl) (hD.sub [0, 1, 2, 3, 4] rfl rfl) hS (lv_sub hl [0, 2, 3, 4, 5, 6] rfl)
                              ·
                                have c_24 := mt (zeq (x := iZ z_15) (y := iZ 1000000) rfl rfl ⟨by omega, by omega⟩ ⟨by omega, by omega⟩).mpr c_24
                                refine lv_iload hx hb dX12_lays_198 (lv_at hl 0 rfl) ?_
                                refine lv_aload_n hx hb dX12_lays_200 rfl (lv_at hl 4 rfl) ?_
                                refine va_get (D := D) (ci := 12) (v := .ref Mk) (C := RX12) (T := TX12) (N := 36) hx hb hts iX12 hown hK hP 0 rfl rfl 24 (by decide) (hts _ qf_X12_47) (fun _ h => h) rfl dX12_lays_201 ?_
                                refine lv_iload hx hb dX12_lays_204 (lv_at hl 1 rfl) ?_
                                refine va_iald hx hb hK hP 2 1 rfl rfl (zin (e := o1) (n := 6) ⟨by omega, by omega⟩ (by decide)) dX12_lays_206 ?_
                                refine lv_topi (fun x_25 ex_25 => ?_)
                                obtain rfl : x_25 = iZ (gz Kf4 o1) := ex_25.trans (gz_eq ⟨by omega, by omega⟩)
                                have h_26 := hk4 o1 (by omega) (by omega)
                                refine lv_icmp_ne (tgt := 225) hx hb dX12_lays_207 (by decide) (fun c_27 => ?_) (fun c_27 => ?_)
                                ·
                                  have c_27 := mt (zeq (x := iZ z_15) (y := iZ (gz Kf4 o1)) rfl rfl ⟨by omega, by omega⟩ ⟨by omega, by omega⟩).mpr c_27
                                  refine lv_aload_n hx hb dX12_lays_225 rfl (lv_at hl 4 rfl) ?_
                                  refine va_get (D := D) (ci := 12) (v := .ref Mk) (C := RX12) (T := TX12) (N := 36) hx hb hts iX12 hown hK hP 0 rfl rfl 24 (by decide) (hts _ qf_X12_47) (fun _ h => h) rfl dX12_lays_226 ?_
                                  refine lv_iload hx hb dX12_lays_229 (lv_at hl 1 rfl) ?_
                                  refine lv_iload hx hb dX12_lays_231 (lv_at hl 0 rfl) ?_
                                  refine va_iast hx hb hK hP hD hS 2 1 rfl rfl (zin (e := o1) (n := 6) ⟨by omega, by omega⟩ (by decide)) dX12_lays_233 (fun H locs hP hD hS => ?_)
                                  obtain ⟨f_28, hf_28⟩ : ∃ gg9, gg9 = upd Kf4 (iZ o1).toNatClampNeg (iZ z_15) := ⟨_, rfl⟩
                                  rw [← hf_28] at hP hD
                                  have rgf_28 := KR.up hk4 hf_28 ⟨by omega, by omega⟩ (by omega)
                                  refine lv_aload_n hx hb dX12_lays_234 rfl (lv_at hl 4 rfl) ?_
                                  refine va_get (D := D) (ci := 12) (v := .ref Ml) (C := RX12) (T := TX12) (N := 36) hx hb hts iX12 hown hK hP 0 rfl rfl 25 (by decide) (hts _ qf_X12_50) (fun _ h => h) rfl dX12_lays_235 ?_
                                  refine lv_iload hx hb dX12_lays_238 (lv_at hl 1 rfl) ?_
                                  refine lv_iload hx hb dX12_lays_240 (lv_at hl 3 rfl) ?_
                                  refine va_iast hx hb hK hP hD hS 3 1 rfl rfl (zin (e := o1) (n := 6) ⟨by omega, by omega⟩ (by decide)) dX12_lays_242 (fun H locs hP hD hS => ?_)
                                  obtain ⟨f_29, hf_29⟩ : ∃ gg9, gg9 = upd Lf4 (iZ o1).toNatClampNeg (iZ nx) := ⟨_, rfl⟩
                                  rw [← hf_29] at hP hD
                                  have rgf_29 := rg_upd hl4 hf_29 (by omega) ⟨by omega, by omega⟩ ⟨by omega, by omega⟩
                                  refine lv_aload_n hx hb dX12_lays_243 rfl (lv_at hl 4 rfl) ?_
                                  refine va_get (D := D) (ci := 12) (v := .ref Mb) (C := RX12) (T := TX12) (N := 36) hx hb hts iX12 hown hK hP 0 rfl rfl 26 (by decide) (hts _ qf_X12_53) (fun _ h => h) rfl dX12_lays_244 ?_
                                  refine lv_iload hx hb dX12_lays_247 (lv_at hl 1 rfl) ?_
                                  refine lv_aload_n hx hb dX12_lays_249 rfl (lv_at hl 4 rfl) ?_
                                  refine va_get (D := D) (ci := 12) (v := .ref Mb) (C := RX12) (T := TX12) (N := 36) hx hb hts iX12 hown hK hP 0 rfl rfl 26 (by decide) (hts _ qf_X12_53) (fun _ h => h) rfl dX12_lays_250 ?_
                                  refine lv_iload hx hb dX12_lays_253 (lv_at hl 3 rfl) ?_
                                  refine va_iald hx hb hK hP 4 1 rfl rfl (zin (e := nx) (n := 6) ⟨by omega, by omega⟩ (by decide)) dX12_lays_255 ?_
                                  refine lv_topi (fun x_30 ex_30 => ?_)
                                  obtain rfl : x_30 = iZ (gz Bf4 nx) := ex_30.trans (gz_eq ⟨by omega, by omega⟩)
                                  have h_31 := gz_rg Bf4 nx
                                  refine lv_iconst (v := iZ 1) hx hb dX12_lays_256 (by decide) ?_
                                  refine lv_iadd hx hb dX12_lays_257 ?_
                                  refine lv_topi (fun x_32 ex_32 => ?_)
                                  obtain rfl : x_32 = iZ ((gz Bf4 nx) + 1) := ex_32.trans (iZ_add (gz Bf4 nx) 1)
                                  refine va_iast hx hb hK hP hD hS 4 1 rfl rfl (zin (e := o1) (n := 6) ⟨by omega, by omega⟩ (by decide)) dX12_lays_258 (fun H locs hP hD hS => ?_)
                                  obtain ⟨f_33, hf_33⟩ : ∃ gg9, gg9 = upd Bf4 (iZ o1).toNatClampNeg (iZ ((gz Bf4 nx) + 1)) := ⟨_, rfl⟩
                                  rw [← hf_33] at hP hD
                                  refine lv_iinc (v := iZ (o1 + 1)) (lv' := [(5, .int (iZ (o1 + 1))), (6, .int (iZ z_15)), (3, .int (iZ z_8)), (4, .int (iZ nx)), (0, .ref hm), (1, .int (iZ x)), (2, .int (iZ w))]) hx hb dX12_lays_259 hl (k := 1) rfl (iZ_add o1 1) (by decide) rfl (fun ls hl => ?_)
                                  refine lv_goto (tgt := 141) hx hb dX12_lays_262 (by decide) ?_
                                  exact ih4  (o1 + 1) f_28 f_29 f_33 _ _ _ (by omega) (show 0 ≤ (o1 + 1) ∧ (o1 + 1) ≤ gz Af 0 from ⟨by omega, by omega⟩) (show KR f_28 6 from rgf_28) (show rgI f_29 (-1) 5 6 from rgf_29) (hP.sub [0, 1, 2, 3, 4] rfl) (hD.sub [0, 1, 2, 3, 4] rfl rfl) hS (lv_sub hl [0, 2, 3, 4, 5, 6] rfl)
                                ·
                                  have c_27 := (zeq (x := iZ z_15) (y := iZ (gz Kf4 o1)) rfl rfl ⟨by omega, by omega⟩ ⟨by omega, by omega⟩).mp c_27
                                  refine lv_iload hx hb dX12_lays_210 (lv_at hl 3 rfl) ?_
                                  refine lv_aload_n hx hb dX12_lays_212 rfl (lv_at hl 4 rfl) ?_
                                  refine va_get (D := D) (ci := 12) (v := .ref Ml) (C := RX12) (T := TX12) (N := 36) hx hb hts iX12 hown hK hP 0 rfl rfl 25 (by decide) (hts _ qf_X12_50) (fun _ h => h) rfl dX12_lays_213 ?_
                                  refine lv_iload hx hb dX12_lays_216 (lv_at hl 1 rfl) ?_
                                  refine va_iald hx hb hK hP 3 1 rfl rfl (zin (e := o1) (n := 6) ⟨by omega, by omega⟩ (by decide)) dX12_lays_218 ?_
                                  refine lv_topi (fun x_34 ex_34 => ?_)
                                  obtain rfl : x_34 = iZ (gz Lf4 o1) := ex_34.trans (gz_eq ⟨by omega, by omega⟩)
                                  have h_35 := hl4 o1 (by omega) (by omega)
                                  refine lv_icmp_le (tgt := 225) hx hb dX12_lays_219 (by decide) (fun c_36 => ?_) (fun c_36 => ?_)
                                  ·
                                    have c_36 := (zle (x := iZ nx) (y := iZ (gz Lf4 o1)) rfl rfl ⟨by omega, by omega⟩ ⟨by omega, by omega⟩).mp c_36
                                    refine lv_aload_n hx hb dX12_lays_225 rfl (lv_at hl 4 rfl) ?_
                                    refine va_get (D := D) (ci := 12) (v := .ref Mk) (C := RX12) (T := TX12) (N := 36) hx hb hts iX12 hown hK hP 0 rfl rfl 24 (by decide) (hts _ qf_X12_47) (fun _ h => h) rfl dX12_lays_226 ?_
                                    refine lv_iload hx hb dX12_lays_229 (lv_at hl 1 rfl) ?_
                                    refine lv_iload hx hb dX12_lays_231 (lv_at hl 0 rfl) ?_
                                    refine va_iast hx hb hK hP hD hS 2 1 rfl rfl (zin (e := o1) (n := 6) ⟨by omega, by omega⟩ (by decide)) dX12_lays_233 (fun H locs hP hD hS => ?_)
                                    obtain ⟨f_37, hf_37⟩ : ∃ gg9, gg9 = upd Kf4 (iZ o1).toNatClampNeg (iZ z_15) := ⟨_, rfl⟩
                                    rw [← hf_37] at hP hD
                                    have rgf_37 := KR.up hk4 hf_37 ⟨by omega, by omega⟩ (by omega)
                                    refine lv_aload_n hx hb dX12_lays_234 rfl (lv_at hl 4 rfl) ?_
                                    refine va_get (D := D) (ci := 12) (v := .ref Ml) (C := RX12) (T := TX12) (N := 36) hx hb hts iX12 hown hK hP 0 rfl rfl 25 (by decide) (hts _ qf_X12_50) (fun _ h => h) rfl dX12_lays_235 ?_
                                    refine lv_iload hx hb dX12_lays_238 (lv_at hl 1 rfl) ?_
                                    refine lv_iload hx hb dX12_lays_240 (lv_at hl 3 rfl) ?_
                                    refine va_iast hx hb hK hP hD hS 3 1 rfl rfl (zin (e := o1) (n := 6) ⟨by omega, by omega⟩ (by decide)) dX12_lays_242 (fun H locs hP hD hS => ?_)
                                    obtain ⟨f_38, hf_38⟩ : ∃ gg9, gg9 = upd Lf4 (iZ o1).toNatClampNeg (iZ nx) := ⟨_, rfl⟩
                                    rw [← hf_38] at hP hD
                                    have rgf_38 := rg_upd hl4 hf_38 (by omega) ⟨by omega, by omega⟩ ⟨by omega, by omega⟩
                                    refine lv_aload_n hx hb dX12_lays_243 rfl (lv_at hl 4 rfl) ?_
                                    refine va_get (D := D) (ci := 12) (v := .ref Mb) (C := RX12) (T := TX12) (N := 36) hx hb hts iX12 hown hK hP 0 rfl rfl 26 (by decide) (hts _ qf_X12_53) (fun _ h => h) rfl dX12_lays_244 ?_
                                    refine lv_iload hx hb dX12_lays_247 (lv_at hl 1 rfl) ?_
                                    refine lv_aload_n hx hb dX12_lays_249 rfl (lv_at hl 4 rfl) ?_
                                    refine va_get (D := D) (ci := 12) (v := .ref Mb) (C := RX12) (T := TX12) (N := 36) hx hb hts iX12 hown hK hP 0 rfl rfl 26 (by decide) (hts _ qf_X12_53) (fun _ h => h) rfl dX12_lays_250 ?_
                                    refine lv_iload hx hb dX12_lays_253 (lv_at hl 3 rfl) ?_
                                    refine va_iald hx hb hK hP 4 1 rfl rfl (zin (e := nx) (n := 6) ⟨by omega, by omega⟩ (by decide)) dX12_lays_255 ?_
                                    refine lv_topi (fun x_39 ex_39 => ?_)
                                    obtain rfl : x_39 = iZ (gz Bf4 nx) := ex_39.trans (gz_eq ⟨by omega, by omega⟩)
                                    have h_40 := gz_rg Bf4 nx
                                    refine lv_iconst (v := iZ 1) hx hb dX12_lays_256 (by decide) ?_
                                    refine lv_iadd hx hb dX12_lays_257 ?_
                                    refine lv_topi (fun x_41 ex_41 => ?_)
                                    obtain rfl : x_41 = iZ ((gz Bf4 nx) + 1) := ex_41.trans (iZ_add (gz Bf4 nx) 1)
                                    refine va_iast hx hb hK hP hD hS 4 1 rfl rfl (zin (e := o1) (n := 6) ⟨by omega, by omega⟩ (by decide)) dX12_lays_258 (fun H locs hP hD hS => ?_)
                                    obtain ⟨f_42, hf_42⟩ : ∃ gg9, gg9 = upd Bf4 (iZ o1).toNatClampNeg (iZ ((gz Bf4 nx) + 1)) := ⟨_, rfl⟩
                                    rw [← hf_42] at hP hD
                                    refine lv_iinc (v := iZ (o1 + 1)) (lv' := [(5, .int (iZ (o1 + 1))), (6, .int (iZ z_15)), (3, .int (iZ z_8)), (4, .int (iZ nx)), (0, .ref hm), (1, .int (iZ x)), (2, .int (iZ w))]) hx hb dX12_lays_259 hl (k := 1) rfl (iZ_add o1 1) (by decide) rfl (fun ls hl => ?_)
                                    refine lv_goto (tgt := 141) hx hb dX12_lays_262 (by decide) ?_
                                    exact ih4  (o1 + 1) f_37 f_38 f_42 _ _ _ (by omega) (show 0 ≤ (o1 + 1) ∧ (o1 + 1) ≤ gz Af 0 from ⟨by omega, by omega⟩) (show KR f_37 6 from rgf_37) (show rgI f_38 (-1) 5 6 from rgf_38) (hP.sub [0, 1, 2, 3, 4] rfl) (hD.sub [0, 1, 2, 3, 4] rfl rfl) hS (lv_sub hl [0, 2, 3, 4, 5, 6] rfl)
                                  ·
                                    have c_36 := mt (zle (x := iZ nx) (y := iZ (gz Lf4 o1)) rfl rfl ⟨by omega, by omega⟩ ⟨by omega, by omega⟩).mpr c_36
                                    refine lv_goto (tgt := 259) hx hb dX12_lays_222 (by decide) ?_
                                    refine lv_iinc (v := iZ (o1 + 1)) (lv' := [(5, .int (iZ (o1 + 1))), (6, .int (iZ z_15)), (3, .int (iZ z_8)), (4, .int (iZ nx)), (0, .ref hm), (1, .int (iZ x)), (2, .int (iZ w))]) hx hb dX12_lays_259 hl (k := 1) rfl (iZ_add o1 1) (by decide) rfl (fun ls hl => ?_)
                                    refine lv_goto (tgt := 141) hx hb dX12_lays_262 (by decide) ?_
                                    exact ih4  (o1 + 1) Kf4 Lf4 Bf4 _ _ _ (by omega) (show 0 ≤ (o1 + 1) ∧ (o1 + 1) ≤ gz Af 0 from ⟨by omega, by omega⟩) (show KR Kf4 6 from hk4) (show rgI Lf4 (-1) 5 6 from hl4) (hP.sub [0, 1, 2, 3, 4] rfl) (hD.sub [0, 1, 2, 3, 4] rfl rfl) hS (lv_sub hl [0, 2, 3, 4, 5, 6] rfl)
                    exact HL4 8 0 Kf2 Lf2 Bf2 _ _ _ (by omega) (show 0 ≤ 0 ∧ 0 ≤ gz Af 0 from ⟨by omega, by omega⟩) (show KR Kf2 6 from hk2) (show rgI Lf2 (-1) 5 6 from hl2) (hP.sub [0, 1, 2, 3, 4] rfl) (hD.sub [0, 1, 2, 3, 4] rfl rfl) hS (lv_sub hl [0, 1, 2, 3, 4, 5] rfl)
                  ·
                    have c_5 := (zeq (x := iZ nx) (y := iZ (-1)) rfl rfl ⟨by omega, by omega⟩ ⟨by omega, by omega⟩).mp c_5
                    exact EWv hx hb hr hlocks hS (fun i => [0].getD i 0, fun i => [0].getD i 0, fun i => [Kf2, Lf2, Bf2].getD i (fun _ => 0), fun i => [].getD i (fun _ => 0)) rfl ⟨(show KR Kf2 6 from hk2), (show rgI Lf2 (-1) 5 6 from hl2)⟩ (hP.sub [0, 1, 2, 3, 4] rfl) (hD.sub [0, 1, 2, 3, 4] rfl rfl) dX12_lays_130
                ·
                  have c_4 := mt (zle (x := iZ (gz Af 0)) (y := iZ r1) rfl rfl ⟨by omega, by omega⟩ ⟨by omega, by omega⟩).mpr c_4
                  refine lv_iload_n hx hb dX12_lays_70 rfl (lv_at hl 2 rfl) ?_
                  refine lv_iload hx hb dX12_lays_71 (lv_at hl 0 rfl) ?_
                  refine lv_ishr hx hb dX12_lays_73 ?_
                  refine lv_topi (fun x_44 ex_44 => ?_)
                  obtain ⟨z_43, hz_43, hz_43a, hz_43b⟩ := i32_z x_44
                  subst hz_43
                  refine lv_iconst (v := iZ 1) hx hb dX12_lays_74 (by decide) ?_
                  refine lv_iand hx hb dX12_lays_75 ?_
                  refine lv_topi (fun x_46 ex_46 => ?_)
                  obtain ⟨z_45, hz_45, hz_45a, hz_45b⟩ := i32_z x_46
                  subst hz_45
                  refine lv_if_ne (tgt := 118) hx hb dX12_lays_76 (by decide) (fun c_47 => ?_) (fun c_47 => ?_)
                  ·
                    have c_47 := mt (zeq (x := iZ z_45) (y := iZ 0) rfl rfl ⟨by omega, by omega⟩ ⟨by omega, by omega⟩).mpr c_47
                    refine lv_iinc (v := iZ (r1 + 1)) (lv' := [(5, .int (iZ (r1 + 1))), (4, .int (iZ nx)), (3, .int (iZ se)), (0, .ref hm), (1, .int (iZ x)), (2, .int (iZ w))]) hx hb dX12_lays_118 hl (k := 0) rfl (iZ_add r1 1) (by decide) rfl (fun ls hl => ?_)
                    refine lv_goto (tgt := 59) hx hb dX12_lays_121 (by decide) ?_
                    exact ih3  nx (r1 + 1) _ _ _ (by omega) (show 0 ≤ (r1 + 1) ∧ (r1 + 1) ≤ gz Af 0 from ⟨by omega, by omega⟩) (show -1 ≤ nx ∧ nx < gz Af 0 from ⟨by omega, by omega⟩) (show nx = -1 ∨ bt se nx from hnb) (hP.sub [0, 1, 2, 3, 4] rfl) (hD.sub [0, 1, 2, 3, 4] rfl rfl) hS (lv_sub hl [0, 1, 2, 3, 4, 5] rfl)
                  ·
                    have c_47 := (zeq (x := iZ z_45) (y := iZ 0) rfl rfl ⟨by omega, by omega⟩ ⟨by omega, by omega⟩).mp c_47
                    refine lv_aload_n hx hb dX12_lays_79 rfl (lv_at hl 3 rfl) ?_
                    refine va_get (D := D) (ci := 12) (v := .ref Mk) (C := RX12) (T := TX12) (N := 36) hx hb hts iX12 hown hK hP 0 rfl rfl 24 (by decide) (hts _ qf_X12_47) (fun _ h => h) rfl dX12_lays_80 ?_
                    refine lv_iload hx hb dX12_lays_83 (lv_at hl 0 rfl) ?_
                    refine va_iald hx hb hK hP 2 1 rfl rfl (zin (e := r1) (n := 6) ⟨by omega, by omega⟩ (by decide)) dX12_lays_85 ?_
                    refine lv_topi (fun x_48 ex_48 => ?_)
                    obtain rfl : x_48 = iZ (gz Kf2 r1) := ex_48.trans (gz_eq ⟨by omega, by omega⟩)
                    have h_49 := hk2 r1 (by omega) (by omega)
                    refine lv_ldc (own := RX12) (v := 1000000) hx hb hown (hts _ qk_X12_88) dX12_lays_86 ?_
                    refine W.eq (g2 := F0 m 88 ls [.int (iZ 1000000), .int (iZ (gz Kf2 r1))]) rfl ?_
                    refine lv_icmp_ge (tgt := 118) hx hb dX12_lays_88 (by decide) (fun c_50 => ?_) (fun c_50 => ?_)
                    ·
                      have c_50 := (zle (x := iZ 1000000) (y := iZ (gz Kf2 r1)) rfl rfl ⟨by omega, by omega⟩ ⟨by omega, by omega⟩).mp c_50
                      refine lv_iinc (v := iZ (r1 + 1)) (lv' := [(5, .int (iZ (r1 + 1))), (4, .int (iZ nx)), (3, .int (iZ se)), (0, .ref hm), (1, .int (iZ x)), (2, .int (iZ w))]) hx hb dX12_lays_118 hl (k := 0) rfl (iZ_add r1 1) (by decide) rfl (fun ls hl => ?_)
                      refine lv_goto (tgt := 59) hx hb dX12_lays_121 (by decide) ?_
                      exact ih3  nx (r1 + 1) _ _ _ (by omega) (show 0 ≤ (r1 + 1) ∧ (r1 + 1) ≤ gz Af 0 from ⟨by omega, by omega⟩) (show -1 ≤ nx ∧ nx < gz Af 0 from ⟨by omega, by omega⟩) (show nx = -1 ∨ bt se nx from hnb) (hP.sub [0, 1, 2, 3, 4] rfl) (hD.sub [0, 1, 2, 3, 4] rfl rfl) hS (lv_sub hl [0, 1, 2, 3, 4, 5] rfl)
                    ·
                      have c_50 := mt (zle (x := iZ 1000000) (y := iZ (gz Kf2 r1)) rfl rfl ⟨by omega, by omega⟩ ⟨by omega, by omega⟩).mpr c_50
                      refine lv_iload hx hb dX12_lays_91 (lv_at hl 1 rfl) ?_
                      refine lv_iconst (v := iZ (-1)) hx hb dX12_lays_93 (by decide) ?_
                      refine lv_icmp_eq (tgt := 114) hx hb dX12_lays_94 (by decide) (fun c_51 => ?_) (fun c_51 => ?_)
                      ·
                        have c_51 := (zeq (x := iZ nx) (y := iZ (-1)) rfl rfl ⟨by omega, by omega⟩ ⟨by omega, by omega⟩).mp c_51
                        refine lv_iload hx hb dX12_lays_114 (lv_at hl 0 rfl) ?_
                        refine lv_istore (lv' := [(4, .int (iZ r1)), (5, .int (iZ r1)), (3, .int (iZ se)), (0, .ref hm), (1, .int (iZ x)), (2, .int (iZ w))]) hx hb dX12_lays_116 hl (by decide) rfl (fun ls hl => ?_)
                        refine lv_iinc (v := iZ (r1 + 1)) (lv' := [(5, .int (iZ (r1 + 1))), (4, .int (iZ r1)), (3, .int (iZ se)), (0, .ref hm), (1, .int (iZ x)), (2, .int (iZ w))]) hx hb dX12_lays_118 hl (k := 1) rfl (iZ_add r1 1) (by decide) rfl (fun ls hl => ?_)
                        refine lv_goto (tgt := 59) hx hb dX12_lays_121 (by decide) ?_
                        exact ih3  r1 (r1 + 1) _ _ _ (by omega) (show 0 ≤ (r1 + 1) ∧ (r1 + 1) ≤ gz Af 0 from ⟨by omega, by omega⟩) (show -1 ≤ r1 ∧ r1 < gz Af 0 from ⟨by omega, by omega⟩) (show r1 = -1 ∨ bt se r1 from (Or.inr (bt_of (by assumption) (by assumption) (by assumption)))) (hP.sub [0, 1, 2, 3, 4] rfl) (hD.sub [0, 1, 2, 3, 4] rfl rfl) hS (lv_sub hl [0, 1, 2, 3, 4, 5] rfl)
                      ·
                        have c_51 := mt (zeq (x := iZ nx) (y := iZ (-1)) rfl rfl ⟨by omega, by omega⟩ ⟨by omega, by omega⟩).mpr c_51
                        refine lv_aload_n hx hb dX12_lays_97 rfl (lv_at hl 3 rfl) ?_
                        refine va_get (D := D) (ci := 12) (v := .ref Mk) (C := RX12) (T := TX12) (N := 36) hx hb hts iX12 hown hK hP 0 rfl rfl 24 (by decide) (hts _ qf_X12_47) (fun _ h => h) rfl dX12_lays_98 ?_
                        refine lv_iload hx hb dX12_lays_101 (lv_at hl 0 rfl) ?_
                        refine va_iald hx hb hK hP 2 1 rfl rfl (zin (e := r1) (n := 6) ⟨by omega, by omega⟩ (by decide)) dX12_lays_103 ?_
                        refine lv_topi (fun x_52 ex_52 => ?_)
                        obtain rfl : x_52 = iZ (gz Kf2 r1) := ex_52.trans (gz_eq ⟨by omega, by omega⟩)
                        have h_53 := hk2 r1 (by omega) (by omega)
                        refine lv_aload_n hx hb dX12_lays_104 rfl (lv_at hl 3 rfl) ?_
                        refine va_get (D := D) (ci := 12) (v := .ref Mk) (C := RX12) (T := TX12) (N := 36) hx hb hts iX12 hown hK hP 0 rfl rfl 24 (by decide) (hts _ qf_X12_47) (fun _ h => h) rfl dX12_lays_105 ?_
                        refine lv_iload hx hb dX12_lays_108 (lv_at hl 1 rfl) ?_
                        refine va_iald hx hb hK hP 2 1 rfl rfl (zin (e := nx) (n := 6) ⟨by omega, by omega⟩ (by decide)) dX12_lays_110 ?_
                        refine lv_topi (fun x_54 ex_54 => ?_)
                        obtain rfl : x_54 = iZ (gz Kf2 nx) := ex_54.trans (gz_eq ⟨by omega, by omega⟩)
                        have h_55 := hk2 nx (by omega) (by omega)
                        refine lv_icmp_ge (tgt := 118) hx hb dX12_lays_111 (by decide) (fun c_56 => ?_) (fun c_56 => ?_)
                        ·
                          have c_56 := (zle (x := iZ (gz Kf2 nx)) (y := iZ (gz Kf2 r1)) rfl rfl ⟨by omega, by omega⟩ ⟨by omega, by omega⟩).mp c_56
                          refine lv_iinc (v := iZ (r1 + 1)) (lv' := [(5, .int (iZ (r1 + 1))), (4, .int (iZ nx)), (3, .int (iZ se)), (0, .ref hm), (1, .int (iZ x)), (2, .int (iZ w))]) hx hb dX12_lays_118 hl (k := 0) rfl (iZ_add r1 1) (by decide) rfl (fun ls hl => ?_)
                          refine lv_goto (tgt := 59) hx hb dX12_lays_121 (by decide) ?_
                          exact ih3  nx (r1 + 1) _ _ _ (by omega) (show 0 ≤ (r1 + 1) ∧ (r1 + 1) ≤ gz Af 0 from ⟨by omega, by omega⟩) (show -1 ≤ nx ∧ nx < gz Af 0 from ⟨by omega, by omega⟩) (show nx = -1 ∨ bt se nx from hnb) (hP.sub [0, 1, 2, 3, 4] rfl) (hD.sub [0, 1, 2, 3, 4] rfl rfl) hS (lv_sub hl [0, 1, 2, 3, 4, 5] rfl)
                        ·
                          have c_56 := mt (zle (x := iZ (gz Kf2 nx)) (y := iZ (gz Kf2 r1)) rfl rfl ⟨by omega, by omega⟩ ⟨by omega, by omega⟩).mpr c_56
                          refine lv_iload hx hb dX12_lays_114 (lv_at hl 0 rfl) ?_
                          refine lv_istore (lv' := [(4, .int (iZ r1)), (5, .int (iZ r1)), (3, .int (iZ se)), (0, .ref hm), (1, .int (iZ x)), (2, .int (iZ w))]) hx hb dX12_lays_116 hl (by decide) rfl (fun ls hl => ?_)
                          refine lv_iinc (v := iZ (r1 + 1)) (lv' := [(5, .int (iZ (r1 + 1))), (4, .int (iZ r1)), (3, .int (iZ se)), (0, .ref hm), (1, .int (iZ x)), (2, .int (iZ w))]) hx hb dX12_lays_118 hl (k := 1) rfl (iZ_add r1 1) (by decide) rfl (fun ls hl => ?_)
                          refine lv_goto (tgt := 59) hx hb dX12_lays_121 (by decide) ?_
                          exact ih3  r1 (r1 + 1) _ _ _ (by omega) (show 0 ≤ (r1 + 1) ∧ (r1 + 1) ≤ gz Af 0 from ⟨by omega, by omega⟩) (show -1 ≤ r1 ∧ r1 < gz Af 0 from ⟨by omega, by omega⟩) (show r1 = -1 ∨ bt se r1 from (Or.inr (bt_of (by assumption) (by assumption) (by assumption)))) (hP.sub [0, 1, 2, 3, 4] rfl) (hD.sub [0, 1, 2, 3, 4] rfl rfl) hS (lv_sub hl [0, 1, 2, 3, 4, 5] rfl)
            exact HL3 8 (-1) 0 _ _ _ (by omega) (show 0 ≤ 0 ∧ 0 ≤ gz Af 0 from ⟨by omega, by omega⟩) (show -1 ≤ (-1) ∧ (-1) < gz Af 0 from ⟨by omega, by omega⟩) (show (-1) = -1 ∨ bt se (-1) from (Or.inl rfl)) (hP.sub [0, 1, 2, 3, 4] rfl) (hD.sub [0, 1, 2, 3, 4] rfl rfl) hS (lv_sub hl [0, 1, 2, 3, 4, 5] rfl)
        exact HL2 66 0 Kf1 Lf1 Bf1 _ _ _ (by omega) (show 0 ≤ 0 ∧ 0 < 64 from ⟨by omega, by omega⟩) (show KR Kf1 6 from hk1) (show rgI Lf1 (-1) 5 6 from hl1) (hP.sub [0, 1, 2, 3, 4] rfl) (hD.sub [0, 1, 2, 3, 4] rfl rfl) hS (lv_sub hl [1, 2, 3, 4] rfl)
      ·
        have c_1 := mt (zle (x := iZ 6) (y := iZ i) rfl rfl ⟨by omega, by omega⟩ ⟨by omega, by omega⟩).mpr c_1
        refine lv_aload_n hx hb dX12_lays_12 rfl (lv_at hl 2 rfl) ?_
        refine va_get (D := D) (ci := 12) (v := .ref Mk) (C := RX12) (T := TX12) (N := 36) hx hb hts iX12 hown hK hP 0 rfl rfl 24 (by decide) (hts _ qf_X12_47) (fun _ h => h) rfl dX12_lays_13 ?_
        refine lv_iload hx hb dX12_lays_16 (lv_at hl 0 rfl) ?_
        refine lv_iload hx hb dX12_lays_18 (lv_at hl 0 rfl) ?_
        refine lv_iload_n hx hb dX12_lays_20 rfl (lv_at hl 3 rfl) ?_
        refine lv_icmp_ne (tgt := 28) hx hb dX12_lays_21 (by decide) (fun c_57 => ?_) (fun c_57 => ?_)
        ·
          have c_57 := mt (zeq (x := iZ i) (y := iZ x) rfl rfl ⟨by omega, by omega⟩ ⟨by omega, by omega⟩).mpr c_57
          refine lv_ldc (own := RX12) (v := 1000000) hx hb hown (hts _ qk_X12_88) dX12_lays_28 ?_
          refine W.eq (g2 := F0 m 30 ls [.int (iZ 1000000), .int (iZ i), .ref Mk]) rfl ?_
          refine va_iast hx hb hK hP hD hS 2 1 rfl rfl (zin (e := i) (n := 6) ⟨by omega, by omega⟩ (by decide)) dX12_lays_30 (fun H locs hP hD hS => ?_)
          obtain ⟨f_58, hf_58⟩ : ∃ gg9, gg9 = upd Kf1 (iZ i).toNatClampNeg (iZ 1000000) := ⟨_, rfl⟩
          rw [← hf_58] at hP hD
          refine lv_aload_n hx hb dX12_lays_31 rfl (lv_at hl 2 rfl) ?_
          refine va_get (D := D) (ci := 12) (v := .ref Ml) (C := RX12) (T := TX12) (N := 36) hx hb hts iX12 hown hK hP 0 rfl rfl 25 (by decide) (hts _ qf_X12_50) (fun _ h => h) rfl dX12_lays_32 ?_
          refine lv_iload hx hb dX12_lays_35 (lv_at hl 0 rfl) ?_
          refine lv_iconst (v := iZ (-1)) hx hb dX12_lays_37 (by decide) ?_
          refine va_iast hx hb hK hP hD hS 3 1 rfl rfl (zin (e := i) (n := 6) ⟨by omega, by omega⟩ (by decide)) dX12_lays_38 (fun H locs hP hD hS => ?_)
          obtain ⟨f_59, hf_59⟩ : ∃ gg9, gg9 = upd Lf1 (iZ i).toNatClampNeg (iZ (-1)) := ⟨_, rfl⟩
          rw [← hf_59] at hP hD
          refine lv_aload_n hx hb dX12_lays_39 rfl (lv_at hl 2 rfl) ?_
          refine va_get (D := D) (ci := 12) (v := .ref Mb) (C := RX12) (T := TX12) (N := 36) hx hb hts iX12 hown hK hP 0 rfl rfl 26 (by decide) (hts _ qf_X12_53) (fun _ h => h) rfl dX12_lays_40 ?_
          refine lv_iload hx hb dX12_lays_43 (lv_at hl 0 rfl) ?_
          refine lv_iconst (v := iZ 0) hx hb dX12_lays_45 (by decide) ?_
          refine va_iast hx hb hK hP hD hS 4 1 rfl rfl (zin (e := i) (n := 6) ⟨by omega, by omega⟩ (by decide)) dX12_lays_46 (fun H locs hP hD hS => ?_)
          obtain ⟨f_60, hf_60⟩ : ∃ gg9, gg9 = upd Bf1 (iZ i).toNatClampNeg (iZ 0) := ⟨_, rfl⟩
          rw [← hf_60] at hP hD
          refine lv_iinc (v := iZ (i + 1)) (lv' := [(4, .int (iZ (i + 1))), (3, .int (iZ 0)), (0, .ref hm), (1, .int (iZ x)), (2, .int (iZ w))]) hx hb dX12_lays_47 hl (k := 0) rfl (iZ_add i 1) (by decide) rfl (fun ls hl => ?_)
          refine lv_goto (tgt := 5) hx hb dX12_lays_50 (by decide) ?_
          exact ih1  (i + 1) f_58 f_59 f_60 _ _ _ (by omega) (show 0 ≤ (i + 1) ∧ (i + 1) ≤ 6 from ⟨by omega, by omega⟩) (show KR f_58 (i + 1) from (KR.ext hk1 hf_58 ⟨by omega, by omega⟩ (by omega))) (show rgI f_59 (-1) 5 (i + 1) from (rg_ext hl1 hf_59 ⟨by omega, by omega⟩ ⟨by omega, by omega⟩ ⟨by omega, by omega⟩)) (hP.sub [0, 1, 2, 3, 4] rfl) (hD.sub [0, 1, 2, 3, 4] rfl rfl) hS (lv_sub hl [0, 1, 2, 3, 4] rfl)
        ·
          have c_57 := (zeq (x := iZ i) (y := iZ x) rfl rfl ⟨by omega, by omega⟩ ⟨by omega, by omega⟩).mp c_57
          refine lv_iload_n hx hb dX12_lays_24 rfl (lv_at hl 4 rfl) ?_
          refine lv_goto (tgt := 30) hx hb dX12_lays_25 (by decide) ?_
          refine va_iast hx hb hK hP hD hS 2 1 rfl rfl (zin (e := i) (n := 6) ⟨by omega, by omega⟩ (by decide)) dX12_lays_30 (fun H locs hP hD hS => ?_)
          obtain ⟨f_61, hf_61⟩ : ∃ gg9, gg9 = upd Kf1 (iZ i).toNatClampNeg (iZ w) := ⟨_, rfl⟩
          rw [← hf_61] at hP hD
          refine lv_aload_n hx hb dX12_lays_31 rfl (lv_at hl 2 rfl) ?_
          refine va_get (D := D) (ci := 12) (v := .ref Ml) (C := RX12) (T := TX12) (N := 36) hx hb hts iX12 hown hK hP 0 rfl rfl 25 (by decide) (hts _ qf_X12_50) (fun _ h => h) rfl dX12_lays_32 ?_
          refine lv_iload hx hb dX12_lays_35 (lv_at hl 0 rfl) ?_
          refine lv_iconst (v := iZ (-1)) hx hb dX12_lays_37 (by decide) ?_
          refine va_iast hx hb hK hP hD hS 3 1 rfl rfl (zin (e := i) (n := 6) ⟨by omega, by omega⟩ (by decide)) dX12_lays_38 (fun H locs hP hD hS => ?_)
          obtain ⟨f_62, hf_62⟩ : ∃ gg9, gg9 = upd Lf1 (iZ i).toNatClampNeg (iZ (-1)) := ⟨_, rfl⟩
          rw [← hf_62] at hP hD
          refine lv_aload_n hx hb dX12_lays_39 rfl (lv_at hl 2 rfl) ?_
          refine va_get (D := D) (ci := 12) (v := .ref Mb) (C := RX12) (T := TX12) (N := 36) hx hb hts iX12 hown hK hP 0 rfl rfl 26 (by decide) (hts _ qf_X12_53) (fun _ h => h) rfl dX12_lays_40 ?_
          refine lv_iload hx hb dX12_lays_43 (lv_at hl 0 rfl) ?_
          refine lv_iconst (v := iZ 0) hx hb dX12_lays_45 (by decide) ?_
          refine va_iast hx hb hK hP hD hS 4 1 rfl rfl (zin (e := i) (n := 6) ⟨by omega, by omega⟩ (by decide)) dX12_lays_46 (fun H locs hP hD hS => ?_)
          obtain ⟨f_63, hf_63⟩ : ∃ gg9, gg9 = upd Bf1 (iZ i).toNatClampNeg (iZ 0) := ⟨_, rfl⟩
          rw [← hf_63] at hP hD
          refine lv_iinc (v := iZ (i + 1)) (lv' := [(4, .int (iZ (i + 1))), (3, .int (iZ 0)), (0, .ref hm), (1, .int (iZ x)), (2, .int (iZ w))]) hx hb dX12_lays_47 hl (k := 0) rfl (iZ_add i 1) (by decide) rfl (fun ls hl => ?_)
          refine lv_goto (tgt := 5) hx hb dX12_lays_50 (by decide) ?_
          exact ih1  (i + 1) f_61 f_62 f_63 _ _ _ (by omega) (show 0 ≤ (i + 1) ∧ (i + 1) ≤ 6 from ⟨by omega, by omega⟩) (show KR f_61 (i + 1) from (KR.ext hk1 hf_61 ⟨by omega, by omega⟩ (by omega))) (show rgI f_62 (-1) 5 (i + 1) from (rg_ext hl1 hf_62 ⟨by omega, by omega⟩ ⟨by omega, by omega⟩ ⟨by omega, by omega⟩)) (hP.sub [0, 1, 2, 3, 4] rfl) (hD.sub [0, 1, 2, 3, 4] rfl rfl) hS (lv_sub hl [0, 1, 2, 3, 4] rfl)
  exact HL1 8 0 Kf Lf Bf _ _ _ (by omega) (show 0 ≤ 0 ∧ 0 ≤ 6 from ⟨by omega, by omega⟩) (show KR Kf 0 from (fun e h1 h2 => absurd h1 (by omega))) (show rgI Lf (-1) 5 0 from (fun e h1 h2 => absurd h1 (by omega))) (hP.sub [0, 1, 2, 3, 4] rfl) (hD.sub [0, 1, 2, 3, 4] rfl rfl) hS (lv_sub hl [0, 1, 2, 3, 4] rfl)
