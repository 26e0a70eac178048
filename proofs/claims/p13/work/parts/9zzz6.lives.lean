section
set_option maxHeartbeats 4000000 in
set_option maxRecDepth 100000 in
theorem r_holds (l : Launch) (D : va_G) (k : Nat → ClassId) (hm : Nat) (Ma : Nat) (Mn : Nat) (Ms : Nat) (My : Nat) (Mt : Nat) (Mp : Nat) (Mx : Nat) (Mo : Nat) (Mk : Nat) (Ml : Nat) (Mb : Nat) (Mh : Nat) (Mc : Nat) (Mz : Nat) (Mr : Nat) (Mq : Nat) (Mst : Int) (Mtd : Int) (Msz : Int) (Mtk : Int) (Mfr : Int) (Men : Int) (Mva : Int) (Mfk : Int) (Mfp : Int) (Mfs : Int) (Mse : Int) (Mlt : Int) (Mdp : Int) (Mct : Int) (Mdr : Int) (Mrs : Int) (Mit : Int) (Mmk : Int) (Mtp : Int64) (Mbt : Int64) (Af : Nat → Int32) (Kf : Nat → Int32) (Lf : Nat → Int32) (Bf : Nat → Int32) (Hf : Nat → Int32) (x : Int) (kk : Int) (Pg : PR_) (hM : M0 Af) (hxk : x = (520 + (6 * kk))) (hyM : yRM Af 0 Pg) (hok : okR (gz Af 0) Pg) (hkk : 0 ≤ kk ∧ kk < Pg.1) (rgH : rgI Hf 0 1000000 120) (hw : Pg.2.1 kk = 19) : WD (σ := ((Int) × (Int64) × ((Nat → Int32) × (Nat → Int32) × (Nat → Int32) × (Nat → Int32)) × (Unit))) l yX12_holds cX12_holds 5 (some .boolean) 8 0 0 D k [.ref hm, .int (iZ x)] [(hm, .inr (12, [.ref Ma, .ref Mn, .int (iZ Mst), .long Mtp, .long Mbt, .ref Ms, .ref My, .ref Mt, .ref Mp, .ref Mx, .int (iZ Mtd), .int (iZ Msz), .int (iZ Mtk), .int (iZ Mfr), .int (iZ Men), .int (iZ Mva), .int (iZ Mfk), .int (iZ Mfp), .int (iZ Mfs), .int (iZ Mse), .int (iZ Mlt), .ref Mo, .int (iZ Mdp), .int (iZ Mct), .ref Mk, .ref Ml, .ref Mb, .ref Mh, .ref Mc, .int (iZ Mdr), .int (iZ Mrs), .ref Mz, .ref Mr, .ref Mq, .int (iZ Mit), .int (iZ Mmk)])), (Ma, .inl (k 1, 5340, .inl Af)), (Mk, .inl (k 1, 6, .inl Kf)), (Ml, .inl (k 1, 6, .inl Lf)), (Mb, .inl (k 1, 6, .inl Bf)), (Mh, .inl (k 1, 120, .inl Hf))] (fun u => some (.int (iZ u.1))) (fun u => (rgI u.2.2.1.2.2.2 0 1000000 120) ∧ (u.1 = 0 ∨ u.1 = 1) ∧ (u.1 = hoZ (eR Af) (rL Af) (Pg.2.2.1 kk) (Pg.2.2.2.1 kk) (Pg.2.2.2.2.1 kk))) (fun u => [(hm, .inr (12, [.ref Ma, .ref Mn, .int (iZ Mst), .long Mtp, .long Mbt, .ref Ms, .ref My, .ref Mt, .ref Mp, .ref Mx, .int (iZ Mtd), .int (iZ Msz), .int (iZ Mtk), .int (iZ Mfr), .int (iZ Men), .int (iZ Mva), .int (iZ Mfk), .int (iZ Mfp), .int (iZ Mfs), .int (iZ Mse), .int (iZ Mlt), .ref Mo, .int (iZ Mdp), .int (iZ Mct), .ref Mk, .ref Ml, .ref Mb, .ref Mh, .ref Mc, .int (iZ Mdr), .int (iZ Mrs), .ref Mz, .ref Mr, .ref Mq, .int (iZ Mit), .int (iZ Mmk)])), (Ma, .inl (k 1, 5340, .inl Af)), (Mk, .inl (k 1, 6, .inl u.2.2.1.1)), (Ml, .inl (k 1, 6, .inl u.2.2.1.2.1)), (Mb, .inl (k 1, 6, .inl u.2.2.1.2.2.1)), (Mh, .inl (k 1, 120, .inl u.2.2.1.2.2.2))]) := by
  refine MW (by decide) (Nat.le_of_ble_eq_true rfl) (fun p e s m below meth c ls A hx hb hml hr hlocks hin hts hown hKK hP hD hS hA hl => ?_)
  have hK := hKK.1
  have hl : lv_has ls 5 [(0, .ref hm), (1, .int (iZ x))] := hl
  obtain ⟨m0, m1, m3, m4, m5, mF, mO, mS⟩ := id hM
  subst hxk
  have hrow := row_r hyM hok hkk
  replace hrow : Unit → _ := fun _ => hrow
  have h5 : gz Af 5 = Pg.1 := hyM.1
  have hyT := (hok.2.2 kk hkk.1 hkk.2).2.1.2.2.2.2 hw
  have hst := mS kk (by omega) (by omega)
  have hyU : (Pg.2.2.1 kk = 15 ∧ (Pg.2.2.2.1 kk = 60 ∨ Pg.2.2.2.1 kk = 62 ∨ Pg.2.2.2.1 kk = 61) ∧ 0 ≤ Pg.2.2.2.2.1 kk ∧ Pg.2.2.2.2.1 kk ≤ 400) ∨ (Pg.2.2.1 kk = 7 ∧ (0 ≤ Pg.2.2.2.1 kk ∧ Pg.2.2.2.1 kk < gz Af 0) ∧ Pg.2.2.2.2.1 kk = -1) ∨ (Pg.2.2.1 kk = 20 ∧ (0 ≤ Pg.2.2.2.1 kk ∧ Pg.2.2.2.1 kk < gz Af 0) ∧ 0 ≤ Pg.2.2.2.2.1 kk ∧ Pg.2.2.2.2.1 kk < gz Af 0) := hyT
  replace hyU : Unit → _ := fun _ => hyU
  have hT9 : gz Af (520 + (6 * kk)) = 1915 ∨ gz Af (520 + (6 * kk)) = 1909 ∨ gz Af (520 + (6 * kk)) = 1923 := (by have h9 := hrow (); omega)
  refine lv_aload_n hx hb dX12_holds_0 rfl (lv_at hl 0 rfl) ?_
  refine va_get (D := D) (ci := 12) (v := .ref Ma) (C := RX12) (T := TX12) (N := 36) hx hb hts iX12 hown hK hP 0 rfl rfl 0 (bl rfl) (hts _ qf_X12_7) (fun _ h => h) rfl dX12_holds_1 ?_
  refine lv_iload_n hx hb dX12_holds_4 rfl (lv_at hl 1 rfl) ?_
  refine va_iald hx hb hK hP 1 1 rfl rfl (zin (e := (520 + (6 * kk))) (n := 5340) ⟨by omega, by omega⟩ (bl rfl)) dX12_holds_5 ?_
  refine lv_topi (fun x_1 ex_1 => ?_)
  obtain rfl : x_1 = iZ (gz Af (520 + (6 * kk))) := ex_1.trans (gz_eq ⟨by omega, by omega⟩)
  have h_2 := gz_rg Af (520 + (6 * kk))
  refine lv_sipush (v := iZ 1900) hx hb dX12_holds_6 sip_1900 ?_
  refine lv_isub hx hb dX12_holds_9 ?_
  refine lv_topi (fun x_3 ex_3 => ?_)
  obtain rfl : x_3 = iZ ((gz Af (520 + (6 * kk))) - 1900) := ex_3.trans (iZ_sub (gz Af (520 + (6 * kk))) 1900)
  refine lv_istore_n (lv' := [(2, .int (iZ ((gz Af (520 + (6 * kk))) - 1900))), (0, .ref hm), (1, .int (iZ (520 + (6 * kk))))]) hx hb dX12_holds_10 rfl hl (bl rfl) rfl (fun ls hl => ?_)
  refine lv_aload_n hx hb dX12_holds_11 rfl (lv_at hl 1 rfl) ?_
  refine va_get (D := D) (ci := 12) (v := .ref Ma) (C := RX12) (T := TX12) (N := 36) hx hb hts iX12 hown hK hP 0 rfl rfl 0 (bl rfl) (hts _ qf_X12_7) (fun _ h => h) rfl dX12_holds_12 ?_
  refine lv_iload_n hx hb dX12_holds_15 rfl (lv_at hl 2 rfl) ?_
  refine lv_iconst (v := iZ 1) hx hb dX12_holds_16 rfl ?_
  refine lv_iadd hx hb dX12_holds_17 ?_
  refine lv_topi (fun x_4 ex_4 => ?_)
  obtain rfl : x_4 = iZ ((520 + (6 * kk)) + 1) := ex_4.trans (iZ_add (520 + (6 * kk)) 1)
  refine va_iald hx hb hK hP 1 1 rfl rfl (zin (e := ((520 + (6 * kk)) + 1)) (n := 5340) ⟨by omega, by omega⟩ (bl rfl)) dX12_holds_18 ?_
  refine lv_topi (fun x_5 ex_5 => ?_)
  obtain rfl : x_5 = iZ (gz Af ((520 + (6 * kk)) + 1)) := ex_5.trans (gz_eq ⟨by omega, by omega⟩)
  have h_6 := gz_rg Af ((520 + (6 * kk)) + 1)
  refine lv_istore_n (lv' := [(3, .int (iZ (gz Af ((520 + (6 * kk)) + 1)))), (2, .int (iZ ((gz Af (520 + (6 * kk))) - 1900))), (0, .ref hm), (1, .int (iZ (520 + (6 * kk))))]) hx hb dX12_holds_19 rfl hl (bl rfl) rfl (fun ls hl => ?_)
  refine lv_iload_n hx hb dX12_holds_20 rfl (lv_at hl 1 rfl) ?_
  refine lv_bipush (v := iZ 9) hx hb dX12_holds_21 bip_9 ?_
  refine lv_icmp_ne (tgt := 47) hx hb dX12_holds_23 rfl (fun c_7 => ?_) (fun c_7 => ?_)
  ·
    have c_7 := mt (zeq (x := iZ ((gz Af (520 + (6 * kk))) - 1900)) (y := iZ 9) rfl rfl ⟨by omega, by omega⟩ wn_9).mpr c_7
    refine lv_iload_n hx hb dX12_holds_47 rfl (lv_at hl 1 rfl) ?_
    refine lv_bipush (v := iZ 23) hx hb dX12_holds_48 bip_23 ?_
    refine lv_icmp_ne (tgt := 103) hx hb dX12_holds_50 rfl (fun c_8 => ?_) (fun c_8 => ?_)
    ·
      have c_8 := mt (zeq (x := iZ ((gz Af (520 + (6 * kk))) - 1900)) (y := iZ 23) rfl rfl ⟨by omega, by omega⟩ wn_23).mpr c_8
      refine lv_aload_n hx hb dX12_holds_103 rfl (lv_at hl 2 rfl) ?_
      refine va_get (D := D) (ci := 12) (v := .ref Ma) (C := RX12) (T := TX12) (N := 36) hx hb hts iX12 hown hK hP 0 rfl rfl 0 (bl rfl) (hts _ qf_X12_7) (fun _ h => h) rfl dX12_holds_104 ?_
      refine lv_iload_n hx hb dX12_holds_107 rfl (lv_at hl 3 rfl) ?_
      refine lv_iconst (v := iZ 5) hx hb dX12_holds_108 rfl ?_
      refine lv_iadd hx hb dX12_holds_109 ?_
      refine lv_topi (fun x_9 ex_9 => ?_)
      obtain rfl : x_9 = iZ ((520 + (6 * kk)) + 5) := ex_9.trans (iZ_add (520 + (6 * kk)) 5)
      refine va_iald hx hb hK hP 1 1 rfl rfl (zin (e := ((520 + (6 * kk)) + 5)) (n := 5340) ⟨by omega, by omega⟩ (bl rfl)) dX12_holds_110 ?_
      refine lv_topi (fun x_10 ex_10 => ?_)
      obtain rfl : x_10 = iZ (gz Af ((520 + (6 * kk)) + 5)) := ex_10.trans (gz_eq ⟨by omega, by omega⟩)
      have h_11 := gz_rg Af ((520 + (6 * kk)) + 5)
      refine lv_bipush (v := iZ 60) hx hb dX12_holds_111 bip_60 ?_
      refine lv_icmp_ne (tgt := 134) hx hb dX12_holds_113 rfl (fun c_12 => ?_) (fun c_12 => ?_)
      ·
        have c_12 := mt (zeq (x := iZ (gz Af ((520 + (6 * kk)) + 5))) (y := iZ 60) rfl rfl (gz_rg Af ((520 + (6 * kk)) + 5)) wn_60).mpr c_12
        refine lv_aload_n hx hb dX12_holds_134 rfl (lv_at hl 2 rfl) ?_
        refine va_get (D := D) (ci := 12) (v := .ref Ma) (C := RX12) (T := TX12) (N := 36) hx hb hts iX12 hown hK hP 0 rfl rfl 0 (bl rfl) (hts _ qf_X12_7) (fun _ h => h) rfl dX12_holds_135 ?_
        refine lv_iload_n hx hb dX12_holds_138 rfl (lv_at hl 3 rfl) ?_
        refine lv_iconst (v := iZ 5) hx hb dX12_holds_139 rfl ?_
        refine lv_iadd hx hb dX12_holds_140 ?_
        refine lv_topi (fun x_13 ex_13 => ?_)
        obtain rfl : x_13 = iZ ((520 + (6 * kk)) + 5) := ex_13.trans (iZ_add (520 + (6 * kk)) 5)
        refine va_iald hx hb hK hP 1 1 rfl rfl (zin (e := ((520 + (6 * kk)) + 5)) (n := 5340) ⟨by omega, by omega⟩ (bl rfl)) dX12_holds_141 ?_
        refine lv_topi (fun x_14 ex_14 => ?_)
        obtain rfl : x_14 = iZ (gz Af ((520 + (6 * kk)) + 5)) := ex_14.trans (gz_eq ⟨by omega, by omega⟩)
        have h_15 := gz_rg Af ((520 + (6 * kk)) + 5)
        refine lv_bipush (v := iZ 62) hx hb dX12_holds_142 bip_62 ?_
        refine lv_icmp_ne (tgt := 165) hx hb dX12_holds_144 rfl (fun c_16 => ?_) (fun c_16 => ?_)
        ·
          have c_16 := mt (zeq (x := iZ (gz Af ((520 + (6 * kk)) + 5))) (y := iZ 62) rfl rfl (gz_rg Af ((520 + (6 * kk)) + 5)) wn_62).mpr c_16
          refine lv_aload_n hx hb dX12_holds_165 rfl (lv_at hl 2 rfl) ?_
          refine va_get (D := D) (ci := 12) (v := .ref Ma) (C := RX12) (T := TX12) (N := 36) hx hb hts iX12 hown hK hP 0 rfl rfl 0 (bl rfl) (hts _ qf_X12_7) (fun _ h => h) rfl dX12_holds_166 ?_
          refine lv_iconst (v := iZ 3) hx hb dX12_holds_169 rfl ?_
          refine va_iald hx hb hK hP 1 1 rfl rfl (zin (e := 3) (n := 5340) ⟨by omega, by omega⟩ (bl rfl)) dX12_holds_170 ?_
          refine lv_topi (fun x_17 ex_17 => ?_)
          obtain rfl : x_17 = iZ (gz Af 3) := ex_17.trans (gz_eq ⟨by omega, by omega⟩)
          have h_18 := gz_rg Af 3
          refine lv_iload_n hx hb dX12_holds_171 rfl (lv_at hl 0 rfl) ?_
          refine lv_icmp_ne (tgt := 179) hx hb dX12_holds_172 rfl (fun c_19 => ?_) (fun c_19 => ?_)
          ·
            have c_19 := mt (zeq (x := iZ (gz Af 3)) (y := iZ (gz Af ((520 + (6 * kk)) + 1))) rfl rfl (gz_rg Af 3) (gz_rg Af ((520 + (6 * kk)) + 1))).mpr c_19
            refine lv_iconst (v := iZ 0) hx hb dX12_holds_179 rfl ?_
            exact EWz hx hb hr hlocks hS (0, 0, (Kf, Lf, Bf, Hf), ()) rfl rfl ⟨(show rgI Hf 0 1000000 120 from rgH), (show 0 = 0 ∨ 0 = 1 from (by omega)), (show 0 = hoZ (eR Af) (rL Af) (Pg.2.2.1 kk) (Pg.2.2.2.1 kk) (Pg.2.2.2.2.1 kk) from (by have h8 := hrow (); have u9 := hyU (); have h9 := hoZ_r hM hyT; omega))⟩ (hP.sub [0, 1, 2, 3, 4, 5] rfl) (hD.sub [0, 1, 2, 3, 4, 5] rfl rfl) dX12_holds_180
          ·
            have c_19 := (zeq (x := iZ (gz Af 3)) (y := iZ (gz Af ((520 + (6 * kk)) + 1))) rfl rfl (gz_rg Af 3) (gz_rg Af ((520 + (6 * kk)) + 1))).mp c_19
            refine lv_iconst (v := iZ 1) hx hb dX12_holds_175 rfl ?_
            refine lv_goto (tgt := 180) hx hb dX12_holds_176 rfl ?_
            exact EWz hx hb hr hlocks hS (1, 0, (Kf, Lf, Bf, Hf), ()) rfl rfl ⟨(show rgI Hf 0 1000000 120 from rgH), (show 1 = 0 ∨ 1 = 1 from (by omega)), (show 1 = hoZ (eR Af) (rL Af) (Pg.2.2.1 kk) (Pg.2.2.2.1 kk) (Pg.2.2.2.2.1 kk) from (by have h8 := hrow (); have u9 := hyU (); have h9 := hoZ_r hM hyT; omega))⟩ (hP.sub [0, 1, 2, 3, 4, 5] rfl) (hD.sub [0, 1, 2, 3, 4, 5] rfl rfl) dX12_holds_180
        ·
          have c_16 := (zeq (x := iZ (gz Af ((520 + (6 * kk)) + 5))) (y := iZ 62) rfl rfl (gz_rg Af ((520 + (6 * kk)) + 5)) wn_62).mp c_16
          refine lv_aload_n hx hb dX12_holds_147 rfl (lv_at hl 2 rfl) ?_
          refine va_get (D := D) (ci := 12) (v := .ref Ma) (C := RX12) (T := TX12) (N := 36) hx hb hts iX12 hown hK hP 0 rfl rfl 0 (bl rfl) (hts _ qf_X12_7) (fun _ h => h) rfl dX12_holds_148 ?_
          refine lv_iconst (v := iZ 3) hx hb dX12_holds_151 rfl ?_
          refine va_iald hx hb hK hP 1 1 rfl rfl (zin (e := 3) (n := 5340) ⟨by omega, by omega⟩ (bl rfl)) dX12_holds_152 ?_
          refine lv_topi (fun x_20 ex_20 => ?_)
          obtain rfl : x_20 = iZ (gz Af 3) := ex_20.trans (gz_eq ⟨by omega, by omega⟩)
          have h_21 := gz_rg Af 3
          refine lv_iload_n hx hb dX12_holds_153 rfl (lv_at hl 0 rfl) ?_
          refine lv_icmp_le (tgt := 161) hx hb dX12_holds_154 rfl (fun c_22 => ?_) (fun c_22 => ?_)
          ·
            have c_22 := (zle (x := iZ (gz Af 3)) (y := iZ (gz Af ((520 + (6 * kk)) + 1))) rfl rfl (gz_rg Af 3) (gz_rg Af ((520 + (6 * kk)) + 1))).mp c_22
            refine lv_iconst (v := iZ 0) hx hb dX12_holds_161 rfl ?_
            refine lv_goto (tgt := 180) hx hb dX12_holds_162 rfl ?_
            exact EWz hx hb hr hlocks hS (0, 0, (Kf, Lf, Bf, Hf), ()) rfl rfl ⟨(show rgI Hf 0 1000000 120 from rgH), (show 0 = 0 ∨ 0 = 1 from (by omega)), (show 0 = hoZ (eR Af) (rL Af) (Pg.2.2.1 kk) (Pg.2.2.2.1 kk) (Pg.2.2.2.2.1 kk) from (by have h8 := hrow (); have u9 := hyU (); have h9 := hoZ_r hM hyT; omega))⟩ (hP.sub [0, 1, 2, 3, 4, 5] rfl) (hD.sub [0, 1, 2, 3, 4, 5] rfl rfl) dX12_holds_180
          ·
            have c_22 := mt (zle (x := iZ (gz Af 3)) (y := iZ (gz Af ((520 + (6 * kk)) + 1))) rfl rfl (gz_rg Af 3) (gz_rg Af ((520 + (6 * kk)) + 1))).mpr c_22
            refine lv_iconst (v := iZ 1) hx hb dX12_holds_157 rfl ?_
            refine lv_goto (tgt := 180) hx hb dX12_holds_158 rfl ?_
            exact EWz hx hb hr hlocks hS (1, 0, (Kf, Lf, Bf, Hf), ()) rfl rfl ⟨(show rgI Hf 0 1000000 120 from rgH), (show 1 = 0 ∨ 1 = 1 from (by omega)), (show 1 = hoZ (eR Af) (rL Af) (Pg.2.2.1 kk) (Pg.2.2.2.1 kk) (Pg.2.2.2.2.1 kk) from (by have h8 := hrow (); have u9 := hyU (); have h9 := hoZ_r hM hyT; omega))⟩ (hP.sub [0, 1, 2, 3, 4, 5] rfl) (hD.sub [0, 1, 2, 3, 4, 5] rfl rfl) dX12_holds_180
      ·
        have c_12 := (zeq (x := iZ (gz Af ((520 + (6 * kk)) + 5))) (y := iZ 60) rfl rfl (gz_rg Af ((520 + (6 * kk)) + 5)) wn_60).mp c_12
        refine lv_aload_n hx hb dX12_holds_116 rfl (lv_at hl 2 rfl) ?_
        refine va_get (D := D) (ci := 12) (v := .ref Ma) (C := RX12) (T := TX12) (N := 36) hx hb hts iX12 hown hK hP 0 rfl rfl 0 (bl rfl) (hts _ qf_X12_7) (fun _ h => h) rfl dX12_holds_117 ?_
        refine lv_iconst (v := iZ 3) hx hb dX12_holds_120 rfl ?_
        refine va_iald hx hb hK hP 1 1 rfl rfl (zin (e := 3) (n := 5340) ⟨by omega, by omega⟩ (bl rfl)) dX12_holds_121 ?_
        refine lv_topi (fun x_23 ex_23 => ?_)
        obtain rfl : x_23 = iZ (gz Af 3) := ex_23.trans (gz_eq ⟨by omega, by omega⟩)
        have h_24 := gz_rg Af 3
        refine lv_iload_n hx hb dX12_holds_122 rfl (lv_at hl 0 rfl) ?_
        refine lv_icmp_ge (tgt := 130) hx hb dX12_holds_123 rfl (fun c_25 => ?_) (fun c_25 => ?_)
        ·
          have c_25 := (zle (x := iZ (gz Af ((520 + (6 * kk)) + 1))) (y := iZ (gz Af 3)) rfl rfl (gz_rg Af ((520 + (6 * kk)) + 1)) (gz_rg Af 3)).mp c_25
          refine lv_iconst (v := iZ 0) hx hb dX12_holds_130 rfl ?_
          refine lv_goto (tgt := 180) hx hb dX12_holds_131 rfl ?_
          exact EWz hx hb hr hlocks hS (0, 0, (Kf, Lf, Bf, Hf), ()) rfl rfl ⟨(show rgI Hf 0 1000000 120 from rgH), (show 0 = 0 ∨ 0 = 1 from (by omega)), (show 0 = hoZ (eR Af) (rL Af) (Pg.2.2.1 kk) (Pg.2.2.2.1 kk) (Pg.2.2.2.2.1 kk) from (by have h8 := hrow (); have u9 := hyU (); have h9 := hoZ_r hM hyT; omega))⟩ (hP.sub [0, 1, 2, 3, 4, 5] rfl) (hD.sub [0, 1, 2, 3, 4, 5] rfl rfl) dX12_holds_180
        ·
          have c_25 := mt (zle (x := iZ (gz Af ((520 + (6 * kk)) + 1))) (y := iZ (gz Af 3)) rfl rfl (gz_rg Af ((520 + (6 * kk)) + 1)) (gz_rg Af 3)).mpr c_25
          refine lv_iconst (v := iZ 1) hx hb dX12_holds_126 rfl ?_
          refine lv_goto (tgt := 180) hx hb dX12_holds_127 rfl ?_
          exact EWz hx hb hr hlocks hS (1, 0, (Kf, Lf, Bf, Hf), ()) rfl rfl ⟨(show rgI Hf 0 1000000 120 from rgH), (show 1 = 0 ∨ 1 = 1 from (by omega)), (show 1 = hoZ (eR Af) (rL Af) (Pg.2.2.1 kk) (Pg.2.2.2.1 kk) (Pg.2.2.2.2.1 kk) from (by have h8 := hrow (); have u9 := hyU (); have h9 := hoZ_r hM hyT; omega))⟩ (hP.sub [0, 1, 2, 3, 4, 5] rfl) (hD.sub [0, 1, 2, 3, 4, 5] rfl rfl) dX12_holds_180
    ·
      have c_8 := (zeq (x := iZ ((gz Af (520 + (6 * kk))) - 1900)) (y := iZ 23) rfl rfl ⟨by omega, by omega⟩ wn_23).mp c_8
      refine lv_aload_n hx hb dX12_holds_53 rfl (lv_at hl 2 rfl) ?_
      refine CWV (As := []) (rest := []) (wc := _) (wr := []) hx hb hml hown hts hKK hP hD hS hA (r_laysOrders l D k hm Ma Mn Ms My Mt Mp Mx Mo Mk Ml Mb Mh Mc Mz Mr Mq Mst Mtd Msz Mtk Mfr Men Mva Mfk Mfp Mfs Mse Mlt Mdp Mct Mdr Mrs Mit Mmk Mtp Mbt Af Kf Lf Bf Hf hM rgH) ci_X12_laysOrders qm_X12_330 ⟨Nat.le_of_ble_eq_true rfl, Nat.le_of_ble_eq_true rfl⟩ ⟨Nat.le_of_ble_eq_true rfl, Nat.le_of_ble_eq_true rfl⟩ [0, 1, 2, 3, 4, 5] [] rfl rfl rfl rfl rfl (dj rfl) 0 rfl rfl rfl hl.1 rfl (Nat.le_of_ble_eq_true rfl) dX12_holds_54 (fun u_26 H locs hφ hP hD hS => ?_)
      obtain ⟨p_27, p_28⟩ : (rgI u_26.2.2.1.2.2.2 0 1000000 120) ∧ (KNR Af u_26.2.2.1.2.2.2 (gz Af 4)) := hφ
      refine W.eq (g2 := F0 m 57 ls []) rfl ?_
      have hT2 : gz Af ((520 + (6 * kk)) + 2) = Pg.2.2.2.2.1 kk ∧ 0 ≤ Pg.2.2.2.2.1 kk ∧ Pg.2.2.2.2.1 kk < gz Af 0 := (by have h9 := hrow (); have u9 := hyU (); omega)
      refine lv_aload_n hx hb dX12_holds_57 rfl (lv_at hl 2 rfl) ?_
      refine lv_aload_n hx hb dX12_holds_58 rfl (lv_at hl 2 rfl) ?_
      refine va_get (D := D) (ci := 12) (v := .ref Ma) (C := RX12) (T := TX12) (N := 36) hx hb hts iX12 hown hK hP 0 rfl rfl 0 (bl rfl) (hts _ qf_X12_7) (fun _ h => h) rfl dX12_holds_59 ?_
      refine lv_iload_n hx hb dX12_holds_62 rfl (lv_at hl 3 rfl) ?_
      refine lv_iconst (v := iZ 2) hx hb dX12_holds_63 rfl ?_
      refine lv_iadd hx hb dX12_holds_64 ?_
      refine lv_topi (fun x_29 ex_29 => ?_)
      obtain rfl : x_29 = iZ ((520 + (6 * kk)) + 2) := ex_29.trans (iZ_add (520 + (6 * kk)) 2)
      refine va_iald hx hb hK hP 1 1 rfl rfl (zin (e := ((520 + (6 * kk)) + 2)) (n := 5340) ⟨by omega, by omega⟩ (bl rfl)) dX12_holds_65 ?_
      refine lv_topi (fun x_30 ex_30 => ?_)
      obtain rfl : x_30 = iZ (gz Af ((520 + (6 * kk)) + 2)) := ex_30.trans (gz_eq ⟨by omega, by omega⟩)
      have h_31 := gz_rg Af ((520 + (6 * kk)) + 2)
      refine lv_aload_n hx hb dX12_holds_66 rfl (lv_at hl 2 rfl) ?_
      refine va_get (D := D) (ci := 12) (v := .ref Ma) (C := RX12) (T := TX12) (N := 36) hx hb hts iX12 hown hK hP 0 rfl rfl 0 (bl rfl) (hts _ qf_X12_7) (fun _ h => h) rfl dX12_holds_67 ?_
      refine lv_iconst (v := iZ 3) hx hb dX12_holds_70 rfl ?_
      refine va_iald hx hb hK hP 1 1 rfl rfl (zin (e := 3) (n := 5340) ⟨by omega, by omega⟩ (bl rfl)) dX12_holds_71 ?_
      refine lv_topi (fun x_32 ex_32 => ?_)
      obtain rfl : x_32 = iZ (gz Af 3) := ex_32.trans (gz_eq ⟨by omega, by omega⟩)
      have h_33 := gz_rg Af 3
      refine CPV (As := [.int (iZ (gz Af ((520 + (6 * kk)) + 2))), .int (iZ (gz Af 3))]) (rest := []) hx hb hml hown hts hKK (hP.sub (ws' := [(hm, .inr (12, [.ref Ma, .ref Mn, .int (iZ Mst), .long Mtp, .long Mbt, .ref Ms, .ref My, .ref Mt, .ref Mp, .ref Mx, .int (iZ Mtd), .int (iZ Msz), .int (iZ Mtk), .int (iZ Mfr), .int (iZ Men), .int (iZ Mva), .int (iZ Mfk), .int (iZ Mfp), .int (iZ Mfs), .int (iZ Mse), .int (iZ Mlt), .ref Mo, .int (iZ Mdp), .int (iZ Mct), .ref Mk, .ref Ml, .ref Mb, .ref Mh, .ref Mc, .int (iZ Mdr), .int (iZ Mrs), .ref Mz, .ref Mr, .ref Mq, .int (iZ Mit), .int (iZ Mmk)])), (Ma, .inl (k 1, 5340, .inl Af)), (Mh, .inl (k 1, 120, .inl u_26.2.2.1.2.2.2))]) [0, 1, 5] rfl) (r_ruling l D k ([.ref Ma, .ref Mn, .int (iZ Mst), .long Mtp, .long Mbt, .ref Ms, .ref My, .ref Mt, .ref Mp, .ref Mx, .int (iZ Mtd), .int (iZ Msz), .int (iZ Mtk), .int (iZ Mfr), .int (iZ Men), .int (iZ Mva), .int (iZ Mfk), .int (iZ Mfp), .int (iZ Mfs), .int (iZ Mse), .int (iZ Mlt), .ref Mo, .int (iZ Mdp), .int (iZ Mct), .ref Mk, .ref Ml, .ref Mb, .ref Mh, .ref Mc, .int (iZ Mdr), .int (iZ Mrs), .ref Mz, .ref Mr, .ref Mq, .int (iZ Mit), .int (iZ Mmk)]) hm Ma Mh Af u_26.2.2.1.2.2.2 (gz Af ((520 + (6 * kk)) + 2)) (gz Af 3) rfl rfl hM ⟨by omega, by omega⟩ ⟨by omega, by omega⟩ p_27 p_28) ci_X12_ruling qm_X12_333 ⟨Nat.le_of_ble_eq_true rfl, Nat.le_of_ble_eq_true rfl⟩ ⟨Nat.le_of_ble_eq_true rfl, Nat.le_of_ble_eq_true rfl⟩ 0 rfl rfl rfl hl.1 rfl (Nat.le_of_ble_eq_true rfl) dX12_holds_72 (fun z_34 hz_34 => ?_)
      refine lv_istore (lv' := [(4, .int (iZ z_34)), (3, .int (iZ (gz Af ((520 + (6 * kk)) + 1)))), (2, .int (iZ ((gz Af (520 + (6 * kk))) - 1900))), (0, .ref hm), (1, .int (iZ (520 + (6 * kk))))]) hx hb dX12_holds_75 hl (bl rfl) rfl (fun ls hl => ?_)
      refine lv_iload hx hb dX12_holds_77 (lv_at hl 0 rfl) ?_
      refine lv_iconst (v := iZ (-1)) hx hb dX12_holds_79 rfl ?_
      refine lv_icmp_eq (tgt := 101) hx hb dX12_holds_80 rfl (fun c_35 => ?_) (fun c_35 => ?_)
      ·
        have c_35 := (zeq (x := iZ z_34) (y := iZ (-1)) rfl rfl ⟨by omega, by omega⟩ wn_m1).mp c_35
        refine lv_iconst (v := iZ 0) hx hb dX12_holds_101 rfl ?_
        exact EWz hx hb hr hlocks hS (0, 0, (u_26.2.2.1.1, u_26.2.2.1.2.1, u_26.2.2.1.2.2.1, u_26.2.2.1.2.2.2), ()) rfl rfl ⟨(show rgI u_26.2.2.1.2.2.2 0 1000000 120 from p_27), (show 0 = 0 ∨ 0 = 1 from (by omega)), (show 0 = hoZ (eR Af) (rL Af) (Pg.2.2.1 kk) (Pg.2.2.2.1 kk) (Pg.2.2.2.2.1 kk) from (by have h8 := hrow (); have u9 := hyU (); have h9 := hoZ_r hM hyT; have v9 := hz_34.1; rw [hT2.1] at v9; rw [← v9] at h9; omega))⟩ (hP.sub [0, 1, 2, 3, 4, 5] rfl) (hD.sub [0, 1, 2, 3, 4, 5] rfl rfl) dX12_holds_102
      ·
        have c_35 := mt (zeq (x := iZ z_34) (y := iZ (-1)) rfl rfl ⟨by omega, by omega⟩ wn_m1).mpr c_35
        have hodr := mO z_34 (by omega) (by omega)
        refine lv_aload_n hx hb dX12_holds_83 rfl (lv_at hl 3 rfl) ?_
        refine va_get (D := D) (ci := 12) (v := .ref Ma) (C := RX12) (T := TX12) (N := 36) hx hb hts iX12 hown hK hP 0 rfl rfl 0 (bl rfl) (hts _ qf_X12_7) (fun _ h => h) rfl dX12_holds_84 ?_
        refine lv_iload hx hb dX12_holds_87 (lv_at hl 0 rfl) ?_
        refine CRS (As := [.int (iZ z_34)]) (rest := [.ref Ma]) hx hb hml hown hts hKK (hP.sub (ws' := []) [] rfl) (m_givenRow l D k z_34) ci_X12_givenRow qm_X12_315 ⟨Nat.le_of_ble_eq_true rfl, Nat.le_of_ble_eq_true rfl⟩ ⟨Nat.le_of_ble_eq_true rfl, Nat.le_of_ble_eq_true rfl⟩ rfl hl.1 rfl (Nat.le_of_ble_eq_true rfl) dX12_holds_89 ?_
        refine va_iald hx hb hK hP 1 1 rfl rfl (zin (e := (78 + (2 * z_34))) (n := 5340) ⟨by omega, by omega⟩ (bl rfl)) dX12_holds_92 ?_
        refine lv_topi (fun x_36 ex_36 => ?_)
        obtain rfl : x_36 = iZ (gz Af (78 + (2 * z_34))) := ex_36.trans (gz_eq ⟨by omega, by omega⟩)
        have h_37 := gz_rg Af (78 + (2 * z_34))
        refine lv_iload_n hx hb dX12_holds_93 rfl (lv_at hl 1 rfl) ?_
        refine lv_icmp_ne (tgt := 101) hx hb dX12_holds_94 rfl (fun c_38 => ?_) (fun c_38 => ?_)
        ·
          have c_38 := mt (zeq (x := iZ (gz Af (78 + (2 * z_34)))) (y := iZ (gz Af ((520 + (6 * kk)) + 1))) rfl rfl (gz_rg Af (78 + (2 * z_34))) (gz_rg Af ((520 + (6 * kk)) + 1))).mpr c_38
          refine lv_iconst (v := iZ 0) hx hb dX12_holds_101 rfl ?_
          exact EWz hx hb hr hlocks hS (0, 0, (u_26.2.2.1.1, u_26.2.2.1.2.1, u_26.2.2.1.2.2.1, u_26.2.2.1.2.2.2), ()) rfl rfl ⟨(show rgI u_26.2.2.1.2.2.2 0 1000000 120 from p_27), (show 0 = 0 ∨ 0 = 1 from (by omega)), (show 0 = hoZ (eR Af) (rL Af) (Pg.2.2.1 kk) (Pg.2.2.2.1 kk) (Pg.2.2.2.2.1 kk) from (by have h8 := hrow (); have u9 := hyU (); have h9 := hoZ_r hM hyT; have v9 := hz_34.1; rw [hT2.1] at v9; rw [← v9] at h9; omega))⟩ (hP.sub [0, 1, 2, 3, 4, 5] rfl) (hD.sub [0, 1, 2, 3, 4, 5] rfl rfl) dX12_holds_102
        ·
          have c_38 := (zeq (x := iZ (gz Af (78 + (2 * z_34)))) (y := iZ (gz Af ((520 + (6 * kk)) + 1))) rfl rfl (gz_rg Af (78 + (2 * z_34))) (gz_rg Af ((520 + (6 * kk)) + 1))).mp c_38
          refine lv_iconst (v := iZ 1) hx hb dX12_holds_97 rfl ?_
          refine lv_goto (tgt := 102) hx hb dX12_holds_98 rfl ?_
          exact EWz hx hb hr hlocks hS (1, 0, (u_26.2.2.1.1, u_26.2.2.1.2.1, u_26.2.2.1.2.2.1, u_26.2.2.1.2.2.2), ()) rfl rfl ⟨(show rgI u_26.2.2.1.2.2.2 0 1000000 120 from p_27), (show 1 = 0 ∨ 1 = 1 from (by omega)), (show 1 = hoZ (eR Af) (rL Af) (Pg.2.2.1 kk) (Pg.2.2.2.1 kk) (Pg.2.2.2.2.1 kk) from (by have h8 := hrow (); have u9 := hyU (); have h9 := hoZ_r hM hyT; have v9 := hz_34.1; rw [hT2.1] at v9; rw [← v9] at h9; omega))⟩ (hP.sub [0, 1, 2, 3, 4, 5] rfl) (hD.sub [0, 1, 2, 3, 4, 5] rfl rfl) dX12_holds_102
  ·
    have c_7 := (zeq (x := iZ ((gz Af (520 + (6 * kk))) - 1900)) (y := iZ 9) rfl rfl ⟨by omega, by omega⟩ wn_9).mp c_7
    refine lv_aload_n hx hb dX12_holds_26 rfl (lv_at hl 2 rfl) ?_
    refine lv_iload_n hx hb dX12_holds_27 rfl (lv_at hl 0 rfl) ?_
    refine lv_aload_n hx hb dX12_holds_28 rfl (lv_at hl 2 rfl) ?_
    refine va_get (D := D) (ci := 12) (v := .ref Ma) (C := RX12) (T := TX12) (N := 36) hx hb hts iX12 hown hK hP 0 rfl rfl 0 (bl rfl) (hts _ qf_X12_7) (fun _ h => h) rfl dX12_holds_29 ?_
    refine lv_iconst (v := iZ 3) hx hb dX12_holds_32 rfl ?_
    refine va_iald hx hb hK hP 1 1 rfl rfl (zin (e := 3) (n := 5340) ⟨by omega, by omega⟩ (bl rfl)) dX12_holds_33 ?_
    refine lv_topi (fun x_39 ex_39 => ?_)
    obtain rfl : x_39 = iZ (gz Af 3) := ex_39.trans (gz_eq ⟨by omega, by omega⟩)
    have h_40 := gz_rg Af 3
    refine CPV (As := [.int (iZ (gz Af ((520 + (6 * kk)) + 1))), .int (iZ (gz Af 3))]) (rest := []) hx hb hml hown hts hKK (hP.sub (ws' := [(hm, .inr (12, [.ref Ma, .ref Mn, .int (iZ Mst), .long Mtp, .long Mbt, .ref Ms, .ref My, .ref Mt, .ref Mp, .ref Mx, .int (iZ Mtd), .int (iZ Msz), .int (iZ Mtk), .int (iZ Mfr), .int (iZ Men), .int (iZ Mva), .int (iZ Mfk), .int (iZ Mfp), .int (iZ Mfs), .int (iZ Mse), .int (iZ Mlt), .ref Mo, .int (iZ Mdp), .int (iZ Mct), .ref Mk, .ref Ml, .ref Mb, .ref Mh, .ref Mc, .int (iZ Mdr), .int (iZ Mrs), .ref Mz, .ref Mr, .ref Mq, .int (iZ Mit), .int (iZ Mmk)])), (Ma, .inl (k 1, 5340, .inl Af))]) [0, 1] rfl) (m_wore l D k ([.ref Ma, .ref Mn, .int (iZ Mst), .long Mtp, .long Mbt, .ref Ms, .ref My, .ref Mt, .ref Mp, .ref Mx, .int (iZ Mtd), .int (iZ Msz), .int (iZ Mtk), .int (iZ Mfr), .int (iZ Men), .int (iZ Mva), .int (iZ Mfk), .int (iZ Mfp), .int (iZ Mfs), .int (iZ Mse), .int (iZ Mlt), .ref Mo, .int (iZ Mdp), .int (iZ Mct), .ref Mk, .ref Ml, .ref Mb, .ref Mh, .ref Mc, .int (iZ Mdr), .int (iZ Mrs), .ref Mz, .ref Mr, .ref Mq, .int (iZ Mit), .int (iZ Mmk)]) hm Ma Af (gz Af ((520 + (6 * kk)) + 1)) (gz Af 3) rfl hM ⟨by omega, by omega⟩) ci_X12_woreIn qm_X12_363 ⟨Nat.le_of_ble_eq_true rfl, Nat.le_of_ble_eq_true rfl⟩ ⟨Nat.le_of_ble_eq_true rfl, Nat.le_of_ble_eq_true rfl⟩ 0 rfl rfl rfl hl.1 rfl (Nat.le_of_ble_eq_true rfl) dX12_holds_34 (fun z_41 hz_41 => ?_)
    have hbz_41 := hz_41.2
    refine lv_iconst (v := iZ 1) hx hb dX12_holds_37 rfl ?_
    refine lv_icmp_ne (tgt := 45) hx hb dX12_holds_38 rfl (fun c_42 => ?_) (fun c_42 => ?_)
    ·
      have c_42 := mt (zeq (x := iZ z_41) (y := iZ 1) rfl rfl ⟨by omega, by omega⟩ wn_1).mpr c_42
      refine lv_iconst (v := iZ 0) hx hb dX12_holds_45 rfl ?_
      exact EWz hx hb hr hlocks hS (0, 0, (Kf, Lf, Bf, Hf), ()) rfl rfl ⟨(show rgI Hf 0 1000000 120 from rgH), (show 0 = 0 ∨ 0 = 1 from (by omega)), (show 0 = hoZ (eR Af) (rL Af) (Pg.2.2.1 kk) (Pg.2.2.2.1 kk) (Pg.2.2.2.2.1 kk) from (by have h8 := hrow (); have u9 := hyU (); have h9 := hoZ_r hM hyT; have e8 : (520 + (6 * kk)) + 1 = (520 + (6 * kk)) + 1 := rfl; have b9 := wB_eq hz_41.1 hz_41.2; rw [show gz Af ((520 + (6 * kk)) + 1) = Pg.2.2.2.1 kk from by omega] at b9; omega))⟩ (hP.sub [0, 1, 2, 3, 4, 5] rfl) (hD.sub [0, 1, 2, 3, 4, 5] rfl rfl) dX12_holds_46
    ·
      have c_42 := (zeq (x := iZ z_41) (y := iZ 1) rfl rfl ⟨by omega, by omega⟩ wn_1).mp c_42
      refine lv_iconst (v := iZ 1) hx hb dX12_holds_41 rfl ?_
      refine lv_goto (tgt := 46) hx hb dX12_holds_42 rfl ?_
      exact EWz hx hb hr hlocks hS (1, 0, (Kf, Lf, Bf, Hf), ()) rfl rfl ⟨(show rgI Hf 0 1000000 120 from rgH), (show 1 = 0 ∨ 1 = 1 from (by omega)), (show 1 = hoZ (eR Af) (rL Af) (Pg.2.2.1 kk) (Pg.2.2.2.1 kk) (Pg.2.2.2.2.1 kk) from (by have h8 := hrow (); have u9 := hyU (); have h9 := hoZ_r hM hyT; have e8 : (520 + (6 * kk)) + 1 = (520 + (6 * kk)) + 1 := rfl; have b9 := wB_eq hz_41.1 hz_41.2; rw [show gz Af ((520 + (6 * kk)) + 1) = Pg.2.2.2.1 kk from by omega] at b9; omega))⟩ (hP.sub [0, 1, 2, 3, 4, 5] rfl) (hD.sub [0, 1, 2, 3, 4, 5] rfl rfl) dX12_holds_46
end

section
theorem yS_w {e : EV_} {P : PR_} {k d st ms we tu o0 : Int} {L : LS_} {q : Int → Int} (h2 : k < P.1) (h3 : ¬ P.2.1 k = 23) (h4 : ¬ 200 ≤ st) : yS e P (k, L, q, d, st, ms, we, tu, o0, 0) = yT e P (k, L, q, d, st + 1, ms, we, tu, o0, 0) := yS_t (by decide) h2 h3 h4
set_option maxHeartbeats 4000000 in
set_option maxRecDepth 100000 in
theorem r_behindEnds (l : Launch) (D : va_G) (k : Nat → ClassId) (fs : List Value) (hm : Nat) (Ma : Nat) (Mz : Nat) (Af : Nat → Int32) (Zf : Nat → Int32) (x : Int) (Pg : PR_) (f0 : fs[0]? = some (.ref Ma)) (f31 : fs[31]? = some (.ref Mz)) (hM : M0 Af) (hyM : yRM Af 0 Pg) (hok : okR (gz Af 0) Pg) (h9x : 0 ≤ x ∧ x ≤ 60) (hzq : okZ Zf) : WD (σ := ((Int) × (Int64) × ((Nat → Int32)) × (Unit))) l yX12_behindEnds cX12_behindEnds 5 (some .int) 0 0 0 D k [.ref hm, .int (iZ x)] [(hm, .inr (12, fs)), (Ma, .inl (k 1, 5340, .inl Af)), (Mz, .inl (k 1, 80, .inl Zf))] (fun u => some (.int (iZ u.1))) (fun u => (0 ≤ u.1 ∧ u.1 ≤ 60) ∧ (∀ (L9 : LS_) (d9 s9 m9 w9 t9 o9 : Int), Rc (yS (eR Af) Pg) (x, L9, rQ Zf, d9, s9, m9, w9, t9, o9, 0) (u.1, L9, rQ u.2.2.1, d9, s9, m9, w9, t9, o9, 0)) ∧ (u.1 < Pg.1 → ¬ Pg.2.1 u.1 = 23) ∧ (okZ u.2.2.1)) (fun u => [(hm, .inr (12, fs)), (Ma, .inl (k 1, 5340, .inl Af)), (Mz, .inl (k 1, 80, .inl u.2.2.1))]) := by
  refine MW (by decide) (Nat.le_of_ble_eq_true rfl) (fun p e s m below meth c ls A hx hb hml hr hlocks hin hts hown hKK hP hD hS hA hl => ?_)
  have hK := hKK.1
  have hl : lv_has ls 5 [(0, .ref hm), (1, .int (iZ x))] := hl
  obtain ⟨m0, m1, m3, m4, m5, mF, mO, mS⟩ := id hM
  have h5 : gz Af 5 = Pg.1 := hyM.1
  have hS0 := sumP_0 Zf 80
  refine lv_iload_n hx hb dX12_behindEnds_0 rfl (lv_at hl 1 rfl) ?_
  refine lv_istore_n (lv' := [(2, .int (iZ x)), (0, .ref hm), (1, .int (iZ x))]) hx hb dX12_behindEnds_1 rfl hl (bl rfl) rfl (fun ls hl => ?_)
  have HL1 : ∀ (fu : Nat) (k2 : Int) (Zf3 : Nat → Int32) (H : Heap) (locs : List Loc) (ls : Array Slot), (61 * sumP Zf3 80 + 61 - k2) < (fu : Int) → (0 ≤ k2 ∧ k2 ≤ 60) → (0 ≤ sumP Zf3 80) → (okZ Zf3) → (∀ (L9 : LS_) (d9 s9 m9 w9 t9 o9 : Int), Rc (yS (eR Af) Pg) (x, L9, rQ Zf, d9, s9, m9, w9, t9, o9, 0) (k2, L9, rQ Zf3, d9, s9, m9, w9, t9, o9, 0)) → va_P D vwCl [(hm, .inr (12, fs)), (Ma, .inl (k 1, 5340, .inl Af)), (Mz, .inl (k 1, 80, .inl Zf3))] H → va_D A [(hm, .inr (12, fs)), (Ma, .inl (k 1, 5340, .inl Af)), (Mz, .inl (k 1, 80, .inl Zf3))] → va_S A s.heap H locs → lv_has ls 5 [(2, .int (iZ k2)), (0, .ref hm), (1, .int (iZ x))] → W p l e (rj 0 0 0) s m [.ref hm, .int (iZ x)].toArray below meth c H locs 0 0 (MQ below (QW (σ := ((Int) × (Int64) × ((Nat → Int32)) × (Unit))) (fun u => some (.int (iZ u.1))) (fun u => (0 ≤ u.1 ∧ u.1 ≤ 60) ∧ (∀ (L9 : LS_) (d9 s9 m9 w9 t9 o9 : Int), Rc (yS (eR Af) Pg) (x, L9, rQ Zf, d9, s9, m9, w9, t9, o9, 0) (u.1, L9, rQ u.2.2.1, d9, s9, m9, w9, t9, o9, 0)) ∧ (u.1 < Pg.1 → ¬ Pg.2.1 u.1 = 23) ∧ (okZ u.2.2.1)) (fun u => [(hm, .inr (12, fs)), (Ma, .inl (k 1, 5340, .inl Af)), (Mz, .inl (k 1, 80, .inl u.2.2.1))]) D A) [.ref hm, .int (iZ x)].toArray s 0 0 A) (F0 m 2 ls []) := by
    intro fu
    induction fu with
    | zero => intro k2 Zf3 H locs ls hμ1 hk2 hS3 hzq3 hrc hP hD hS hl; exact absurd hμ1 (by omega)
    | succ fu ih1 =>
      intro k2 Zf3 H locs ls hμ1 hk2 hS3 hzq3 hrc hP hD hS hl
      refine lv_iload_n hx hb dX12_behindEnds_2 rfl (lv_at hl 0 rfl) ?_
      refine lv_aload_n hx hb dX12_behindEnds_3 rfl (lv_at hl 1 rfl) ?_
      refine va_get (D := D) (ci := 12) (v := .ref Ma) (C := RX12) (T := TX12) (N := 36) hx hb hts iX12 hown hK hP 0 rfl rfl 0 (bl rfl) (hts _ qf_X12_7) (fun _ h => h) f0 dX12_behindEnds_4 ?_
      refine lv_iconst (v := iZ 5) hx hb dX12_behindEnds_7 rfl ?_
      refine va_iald hx hb hK hP 1 1 rfl rfl (zin (e := 5) (n := 5340) ⟨by omega, by omega⟩ (bl rfl)) dX12_behindEnds_8 ?_
      refine lv_topi (fun x_1 ex_1 => ?_)
      obtain rfl : x_1 = iZ (gz Af 5) := ex_1.trans (gz_eq ⟨by omega, by omega⟩)
      have h_2 := gz_rg Af 5
      refine lv_icmp_ge (tgt := 117) hx hb dX12_behindEnds_9 rfl (fun c_3 => ?_) (fun c_3 => ?_)
      ·
        have c_3 := (zle (x := iZ (gz Af 5)) (y := iZ k2) rfl rfl (gz_rg Af 5) ⟨by omega, by omega⟩).mp c_3
        refine lv_iload_n hx hb dX12_behindEnds_117 rfl (lv_at hl 0 rfl) ?_
        exact EWi hx hb hr hlocks hS (k2, 0, Zf3, ()) rfl ⟨(show 0 ≤ k2 ∧ k2 ≤ 60 from (by omega)), (show ∀ (L9 : LS_) (d9 s9 m9 w9 t9 o9 : Int), Rc (yS (eR Af) Pg) (x, L9, rQ Zf, d9, s9, m9, w9, t9, o9, 0) (k2, L9, rQ Zf3, d9, s9, m9, w9, t9, o9, 0) from hrc), (show k2 < Pg.1 → ¬ Pg.2.1 k2 = 23 from (fun h7 => by have hrk := row_r hyM hok (k := k2) ⟨by omega, by omega⟩; omega)), (show okZ Zf3 from hzq3)⟩ (hP.sub [0, 1, 2] rfl) (hD.sub [0, 1, 2] rfl rfl) dX12_behindEnds_118
      ·
        have c_3 := mt (zle (x := iZ (gz Af 5)) (y := iZ k2) rfl rfl (gz_rg Af 5) ⟨by omega, by omega⟩).mpr c_3
        refine lv_aload_n hx hb dX12_behindEnds_12 rfl (lv_at hl 1 rfl) ?_
        refine va_get (D := D) (ci := 12) (v := .ref Ma) (C := RX12) (T := TX12) (N := 36) hx hb hts iX12 hown hK hP 0 rfl rfl 0 (bl rfl) (hts _ qf_X12_7) (fun _ h => h) f0 dX12_behindEnds_13 ?_
        refine lv_sipush (v := iZ 520) hx hb dX12_behindEnds_16 sip_520 ?_
        refine lv_bipush (v := iZ 6) hx hb dX12_behindEnds_19 bip_6 ?_
        refine lv_iload_n hx hb dX12_behindEnds_21 rfl (lv_at hl 0 rfl) ?_
        refine lv_imul hx hb dX12_behindEnds_22 ?_
        refine lv_topi (fun x_4 ex_4 => ?_)
        obtain rfl : x_4 = iZ (6 * k2) := ex_4.trans (iZ_mul 6 k2)
        refine lv_iadd hx hb dX12_behindEnds_23 ?_
        refine lv_topi (fun x_5 ex_5 => ?_)
        obtain rfl : x_5 = iZ (520 + (6 * k2)) := ex_5.trans (iZ_add 520 (6 * k2))
        refine va_iald hx hb hK hP 1 1 rfl rfl (zin (e := (520 + (6 * k2))) (n := 5340) ⟨by omega, by omega⟩ (bl rfl)) dX12_behindEnds_24 ?_
        refine lv_topi (fun x_6 ex_6 => ?_)
        obtain rfl : x_6 = iZ (gz Af (520 + (6 * k2))) := ex_6.trans (gz_eq ⟨by omega, by omega⟩)
        have h_7 := gz_rg Af (520 + (6 * k2))
        refine lv_bipush (v := iZ 21) hx hb dX12_behindEnds_25 bip_21 ?_
        refine lv_icmp_ne (tgt := 117) hx hb dX12_behindEnds_27 rfl (fun c_8 => ?_) (fun c_8 => ?_)
        ·
          have c_8 := mt (zeq (x := iZ (gz Af (520 + (6 * k2)))) (y := iZ 21) rfl rfl (gz_rg Af (520 + (6 * k2))) wn_21).mpr c_8
          refine lv_iload_n hx hb dX12_behindEnds_117 rfl (lv_at hl 0 rfl) ?_
          exact EWi hx hb hr hlocks hS (k2, 0, Zf3, ()) rfl ⟨(show 0 ≤ k2 ∧ k2 ≤ 60 from (by omega)), (show ∀ (L9 : LS_) (d9 s9 m9 w9 t9 o9 : Int), Rc (yS (eR Af) Pg) (x, L9, rQ Zf, d9, s9, m9, w9, t9, o9, 0) (k2, L9, rQ Zf3, d9, s9, m9, w9, t9, o9, 0) from hrc), (show k2 < Pg.1 → ¬ Pg.2.1 k2 = 23 from (fun h7 => by have hrk := row_r hyM hok (k := k2) ⟨by omega, by omega⟩; omega)), (show okZ Zf3 from hzq3)⟩ (hP.sub [0, 1, 2] rfl) (hD.sub [0, 1, 2] rfl rfl) dX12_behindEnds_118
        ·
          have c_8 := (zeq (x := iZ (gz Af (520 + (6 * k2)))) (y := iZ 21) rfl rfl (gz_rg Af (520 + (6 * k2))) wn_21).mp c_8
          have hst := mS k2 (by omega) (by omega)
          have hrk := row_r hyM hok (k := k2) ⟨by omega, by omega⟩
          have hk9 : Pg.2.1 k2 = 23 ∧ gz Af ((520 + (6 * k2)) + 4) = Pg.2.2.2.2.2 k2 := (by omega)
          clear hrk
          refine lv_aload_n hx hb dX12_behindEnds_30 rfl (lv_at hl 1 rfl) ?_
          refine va_get (D := D) (ci := 12) (v := .ref Ma) (C := RX12) (T := TX12) (N := 36) hx hb hts iX12 hown hK hP 0 rfl rfl 0 (bl rfl) (hts _ qf_X12_7) (fun _ h => h) f0 dX12_behindEnds_31 ?_
          refine lv_sipush (v := iZ 520) hx hb dX12_behindEnds_34 sip_520 ?_
          refine lv_bipush (v := iZ 6) hx hb dX12_behindEnds_37 bip_6 ?_
          refine lv_iload_n hx hb dX12_behindEnds_39 rfl (lv_at hl 0 rfl) ?_
          refine lv_imul hx hb dX12_behindEnds_40 ?_
          refine lv_topi (fun x_9 ex_9 => ?_)
          obtain rfl : x_9 = iZ (6 * k2) := ex_9.trans (iZ_mul 6 k2)
          refine lv_iadd hx hb dX12_behindEnds_41 ?_
          refine lv_topi (fun x_10 ex_10 => ?_)
          obtain rfl : x_10 = iZ (520 + (6 * k2)) := ex_10.trans (iZ_add 520 (6 * k2))
          refine lv_iconst (v := iZ 4) hx hb dX12_behindEnds_42 rfl ?_
          refine lv_iadd hx hb dX12_behindEnds_43 ?_
          refine lv_topi (fun x_11 ex_11 => ?_)
          obtain rfl : x_11 = iZ ((520 + (6 * k2)) + 4) := ex_11.trans (iZ_add (520 + (6 * k2)) 4)
          refine va_iald hx hb hK hP 1 1 rfl rfl (zin (e := ((520 + (6 * k2)) + 4)) (n := 5340) ⟨by omega, by omega⟩ (bl rfl)) dX12_behindEnds_44 ?_
          refine lv_topi (fun x_12 ex_12 => ?_)
          obtain rfl : x_12 = iZ (gz Af ((520 + (6 * k2)) + 4)) := ex_12.trans (gz_eq ⟨by omega, by omega⟩)
          have h_13 := gz_rg Af ((520 + (6 * k2)) + 4)
          refine lv_istore_n (lv' := [(3, .int (iZ (gz Af ((520 + (6 * k2)) + 4)))), (2, .int (iZ k2)), (0, .ref hm), (1, .int (iZ x))]) hx hb dX12_behindEnds_45 rfl hl (bl rfl) rfl (fun ls hl => ?_)
          have hrp := row_r hyM hok (k := gz Af ((520 + (6 * k2)) + 4)) ⟨by omega, by omega⟩
          have hp9 : (gz Af (520 + (6 * gz Af ((520 + (6 * k2)) + 4))) = 20 ∧ Pg.2.1 (gz Af ((520 + (6 * k2)) + 4)) = 22) ∨ (¬ gz Af (520 + (6 * gz Af ((520 + (6 * k2)) + 4))) = 20 ∧ ¬ Pg.2.1 (gz Af ((520 + (6 * k2)) + 4)) = 22) := (by omega)
          clear hrp
          have hz9 := hzq3 (gz Af ((520 + (6 * k2)) + 4)) (by omega) (by omega)
          refine lv_aload_n hx hb dX12_behindEnds_46 rfl (lv_at hl 2 rfl) ?_
          refine va_get (D := D) (ci := 12) (v := .ref Ma) (C := RX12) (T := TX12) (N := 36) hx hb hts iX12 hown hK hP 0 rfl rfl 0 (bl rfl) (hts _ qf_X12_7) (fun _ h => h) f0 dX12_behindEnds_47 ?_
          refine lv_sipush (v := iZ 520) hx hb dX12_behindEnds_50 sip_520 ?_
          refine lv_bipush (v := iZ 6) hx hb dX12_behindEnds_53 bip_6 ?_
          refine lv_iload_n hx hb dX12_behindEnds_55 rfl (lv_at hl 0 rfl) ?_
          refine lv_imul hx hb dX12_behindEnds_56 ?_
          refine lv_topi (fun x_14 ex_14 => ?_)
          obtain rfl : x_14 = iZ (6 * (gz Af ((520 + (6 * k2)) + 4))) := ex_14.trans (iZ_mul 6 (gz Af ((520 + (6 * k2)) + 4)))
          refine lv_iadd hx hb dX12_behindEnds_57 ?_
          refine lv_topi (fun x_15 ex_15 => ?_)
          obtain rfl : x_15 = iZ (520 + (6 * (gz Af ((520 + (6 * k2)) + 4)))) := ex_15.trans (iZ_add 520 (6 * (gz Af ((520 + (6 * k2)) + 4))))
          refine va_iald hx hb hK hP 1 1 rfl rfl (zin (e := (520 + (6 * (gz Af ((520 + (6 * k2)) + 4))))) (n := 5340) ⟨by omega, by omega⟩ (bl rfl)) dX12_behindEnds_58 ?_
          refine lv_topi (fun x_16 ex_16 => ?_)
          obtain rfl : x_16 = iZ (gz Af (520 + (6 * (gz Af ((520 + (6 * k2)) + 4))))) := ex_16.trans (gz_eq ⟨by omega, by omega⟩)
          have h_17 := gz_rg Af (520 + (6 * (gz Af ((520 + (6 * k2)) + 4))))
          refine lv_bipush (v := iZ 20) hx hb dX12_behindEnds_59 bip_20 ?_
          refine lv_icmp_ne (tgt := 77) hx hb dX12_behindEnds_61 rfl (fun c_18 => ?_) (fun c_18 => ?_)
          ·
            have c_18 := mt (zeq (x := iZ (gz Af (520 + (6 * (gz Af ((520 + (6 * k2)) + 4)))))) (y := iZ 20) rfl rfl (gz_rg Af (520 + (6 * (gz Af ((520 + (6 * k2)) + 4))))) wn_20).mpr c_18
            refine lv_iconst (v := iZ 0) hx hb dX12_behindEnds_77 rfl ?_
            refine lv_istore (lv' := [(4, .int (iZ 0)), (3, .int (iZ (gz Af ((520 + (6 * k2)) + 4)))), (2, .int (iZ k2)), (0, .ref hm), (1, .int (iZ x))]) hx hb dX12_behindEnds_78 hl (bl rfl) rfl (fun ls hl => ?_)
            refine lv_aload_n hx hb dX12_behindEnds_80 rfl (lv_at hl 3 rfl) ?_
            refine va_get (D := D) (ci := 12) (v := .ref Mz) (C := RX12) (T := TX12) (N := 36) hx hb hts iX12 hown hK hP 0 rfl rfl 31 (bl rfl) (hts _ qf_X12_62) (fun _ h => h) f31 dX12_behindEnds_81 ?_
            refine lv_iload_n hx hb dX12_behindEnds_84 rfl (lv_at hl 1 rfl) ?_
            refine lv_dup2_11 hx hb dX12_behindEnds_85 rfl rfl ?_
            refine va_iald hx hb hK hP 2 1 rfl rfl (zin (e := (gz Af ((520 + (6 * k2)) + 4))) (n := 80) ⟨by omega, by omega⟩ (bl rfl)) dX12_behindEnds_86 ?_
            refine lv_topi (fun x_19 ex_19 => ?_)
            obtain rfl : x_19 = iZ (gz Zf3 (gz Af ((520 + (6 * k2)) + 4))) := ex_19.trans (gz_eq ⟨by omega, by omega⟩)
            have h_20 := gz_rg Zf3 (gz Af ((520 + (6 * k2)) + 4))
            refine lv_iload hx hb dX12_behindEnds_87 (lv_at hl 0 rfl) ?_
            refine lv_if_eq (tgt := 96) hx hb dX12_behindEnds_89 rfl (fun _ => ?_) (fun c => absurd (by decide) c)
            refine lv_iconst (v := iZ 0) hx hb dX12_behindEnds_96 rfl ?_
            refine lv_isub hx hb dX12_behindEnds_97 ?_
            refine lv_topi (fun x_22 ex_22 => ?_)
            obtain rfl : x_22 = iZ ((gz Zf3 (gz Af ((520 + (6 * k2)) + 4))) - 0) := ex_22.trans (iZ_sub (gz Zf3 (gz Af ((520 + (6 * k2)) + 4))) 0)
            refine va_iast hx hb hK hP hD hS 2 1 rfl rfl (zin (e := (gz Af ((520 + (6 * k2)) + 4))) (n := 80) ⟨by omega, by omega⟩ (bl rfl)) dX12_behindEnds_98 (fun H locs hP hD hS => ?_)
            obtain ⟨f_23, hf_23⟩ : ∃ gg9, gg9 = upd Zf3 (iZ (gz Af ((520 + (6 * k2)) + 4))).toNatClampNeg (iZ ((gz Zf3 (gz Af ((520 + (6 * k2)) + 4))) - 0)) := ⟨_, rfl⟩
            rw [← hf_23] at hP hD
            have hS_24 := sumP_up hf_23 ⟨by omega, by omega⟩ ⟨by omega, by omega⟩ 80
            refine lv_iload hx hb dX12_behindEnds_99 (lv_at hl 0 rfl) ?_
            refine lv_if_eq (tgt := 110) hx hb dX12_behindEnds_101 rfl (fun _ => ?_) (fun c => absurd (by decide) c)
            refine lv_iload_n hx hb dX12_behindEnds_110 rfl (lv_at hl 2 rfl) ?_
            refine lv_iconst (v := iZ 1) hx hb dX12_behindEnds_111 rfl ?_
            refine lv_iadd hx hb dX12_behindEnds_112 ?_
            refine lv_topi (fun x_26 ex_26 => ?_)
            obtain rfl : x_26 = iZ (k2 + 1) := ex_26.trans (iZ_add k2 1)
            refine lv_istore_n (lv' := [(2, .int (iZ (k2 + 1))), (4, .int (iZ 0)), (3, .int (iZ (gz Af ((520 + (6 * k2)) + 4)))), (0, .ref hm), (1, .int (iZ x))]) hx hb dX12_behindEnds_113 rfl hl (bl rfl) rfl (fun ls hl => ?_)
            refine lv_goto (tgt := 2) hx hb dX12_behindEnds_114 rfl ?_
            exact ih1  (k2 + 1) f_23 _ _ _ (by omega) (show 0 ≤ (k2 + 1) ∧ (k2 + 1) ≤ 60 from ⟨by omega, by omega⟩) (show 0 ≤ sumP f_23 80 from (sumP_0 _ _)) (show okZ f_23 from (hzq3.up ⟨by omega, by omega⟩ hf_23 ⟨by omega, by omega⟩)) (show ∀ (L9 : LS_) (d9 s9 m9 w9 t9 o9 : Int), Rc (yS (eR Af) Pg) (x, L9, rQ Zf, d9, s9, m9, w9, t9, o9, 0) ((k2 + 1), L9, rQ f_23, d9, s9, m9, w9, t9, o9, 0) from (fun L9 d9 s9 m9 w9 t9 o9 => by have s8 := (hrc L9 d9 s9 m9 w9 t9 o9).st; rw [yS_e (by decide) (show k2 < Pg.1 by omega) hk9.1, yE_n (by rw [← hk9.2, rQ_in ⟨by omega, by omega⟩]; omega)] at s8; rw [rQ_up (v := ((gz Zf3 (gz Af ((520 + (6 * k2)) + 4))) - 0)) ⟨by omega, by omega⟩ hf_23 ⟨by omega, by omega⟩, xUp_id (by rw [rQ_in ⟨by omega, by omega⟩]; omega)]; exact s8)) (hP.sub [0, 1, 2] rfl) (hD.sub [0, 1, 2] rfl rfl) hS (lv_sub hl [0, 3, 4] rfl)
          ·
            have c_18 := (zeq (x := iZ (gz Af (520 + (6 * (gz Af ((520 + (6 * k2)) + 4)))))) (y := iZ 20) rfl rfl (gz_rg Af (520 + (6 * (gz Af ((520 + (6 * k2)) + 4))))) wn_20).mp c_18
            refine lv_aload_n hx hb dX12_behindEnds_64 rfl (lv_at hl 2 rfl) ?_
            refine va_get (D := D) (ci := 12) (v := .ref Mz) (C := RX12) (T := TX12) (N := 36) hx hb hts iX12 hown hK hP 0 rfl rfl 31 (bl rfl) (hts _ qf_X12_62) (fun _ h => h) f31 dX12_behindEnds_65 ?_
            refine lv_iload_n hx hb dX12_behindEnds_68 rfl (lv_at hl 0 rfl) ?_
            refine va_iald hx hb hK hP 2 1 rfl rfl (zin (e := (gz Af ((520 + (6 * k2)) + 4))) (n := 80) ⟨by omega, by omega⟩ (bl rfl)) dX12_behindEnds_69 ?_
            refine lv_topi (fun x_27 ex_27 => ?_)
            obtain rfl : x_27 = iZ (gz Zf3 (gz Af ((520 + (6 * k2)) + 4))) := ex_27.trans (gz_eq ⟨by omega, by omega⟩)
            have h_28 := gz_rg Zf3 (gz Af ((520 + (6 * k2)) + 4))
            refine lv_if_le (tgt := 77) hx hb dX12_behindEnds_70 rfl (fun c_29 => ?_) (fun c_29 => ?_)
            ·
              have c_29 := (zle (x := iZ (gz Zf3 (gz Af ((520 + (6 * k2)) + 4)))) (y := iZ 0) rfl rfl (gz_rg Zf3 (gz Af ((520 + (6 * k2)) + 4))) wn_0).mp c_29
              refine lv_iconst (v := iZ 0) hx hb dX12_behindEnds_77 rfl ?_
              refine lv_istore (lv' := [(4, .int (iZ 0)), (3, .int (iZ (gz Af ((520 + (6 * k2)) + 4)))), (2, .int (iZ k2)), (0, .ref hm), (1, .int (iZ x))]) hx hb dX12_behindEnds_78 hl (bl rfl) rfl (fun ls hl => ?_)
              refine lv_aload_n hx hb dX12_behindEnds_80 rfl (lv_at hl 3 rfl) ?_
              refine va_get (D := D) (ci := 12) (v := .ref Mz) (C := RX12) (T := TX12) (N := 36) hx hb hts iX12 hown hK hP 0 rfl rfl 31 (bl rfl) (hts _ qf_X12_62) (fun _ h => h) f31 dX12_behindEnds_81 ?_
              refine lv_iload_n hx hb dX12_behindEnds_84 rfl (lv_at hl 1 rfl) ?_
              refine lv_dup2_11 hx hb dX12_behindEnds_85 rfl rfl ?_
              refine va_iald hx hb hK hP 2 1 rfl rfl (zin (e := (gz Af ((520 + (6 * k2)) + 4))) (n := 80) ⟨by omega, by omega⟩ (bl rfl)) dX12_behindEnds_86 ?_
              refine lv_topi (fun x_30 ex_30 => ?_)
              obtain rfl : x_30 = iZ (gz Zf3 (gz Af ((520 + (6 * k2)) + 4))) := ex_30.trans (gz_eq ⟨by omega, by omega⟩)
              have h_31 := gz_rg Zf3 (gz Af ((520 + (6 * k2)) + 4))
              refine lv_iload hx hb dX12_behindEnds_87 (lv_at hl 0 rfl) ?_
              refine lv_if_eq (tgt := 96) hx hb dX12_behindEnds_89 rfl (fun _ => ?_) (fun c => absurd (by decide) c)
              refine lv_iconst (v := iZ 0) hx hb dX12_behindEnds_96 rfl ?_
              refine lv_isub hx hb dX12_behindEnds_97 ?_
              refine lv_topi (fun x_33 ex_33 => ?_)
              obtain rfl : x_33 = iZ ((gz Zf3 (gz Af ((520 + (6 * k2)) + 4))) - 0) := ex_33.trans (iZ_sub (gz Zf3 (gz Af ((520 + (6 * k2)) + 4))) 0)
              refine va_iast hx hb hK hP hD hS 2 1 rfl rfl (zin (e := (gz Af ((520 + (6 * k2)) + 4))) (n := 80) ⟨by omega, by omega⟩ (bl rfl)) dX12_behindEnds_98 (fun H locs hP hD hS => ?_)
              obtain ⟨f_34, hf_34⟩ : ∃ gg9, gg9 = upd Zf3 (iZ (gz Af ((520 + (6 * k2)) + 4))).toNatClampNeg (iZ ((gz Zf3 (gz Af ((520 + (6 * k2)) + 4))) - 0)) := ⟨_, rfl⟩
              rw [← hf_34] at hP hD
              have hS_35 := sumP_up hf_34 ⟨by omega, by omega⟩ ⟨by omega, by omega⟩ 80
              refine lv_iload hx hb dX12_behindEnds_99 (lv_at hl 0 rfl) ?_
              refine lv_if_eq (tgt := 110) hx hb dX12_behindEnds_101 rfl (fun _ => ?_) (fun c => absurd (by decide) c)
              refine lv_iload_n hx hb dX12_behindEnds_110 rfl (lv_at hl 2 rfl) ?_
              refine lv_iconst (v := iZ 1) hx hb dX12_behindEnds_111 rfl ?_
              refine lv_iadd hx hb dX12_behindEnds_112 ?_
              refine lv_topi (fun x_37 ex_37 => ?_)
              obtain rfl : x_37 = iZ (k2 + 1) := ex_37.trans (iZ_add k2 1)
              refine lv_istore_n (lv' := [(2, .int (iZ (k2 + 1))), (4, .int (iZ 0)), (3, .int (iZ (gz Af ((520 + (6 * k2)) + 4)))), (0, .ref hm), (1, .int (iZ x))]) hx hb dX12_behindEnds_113 rfl hl (bl rfl) rfl (fun ls hl => ?_)
              refine lv_goto (tgt := 2) hx hb dX12_behindEnds_114 rfl ?_
              exact ih1  (k2 + 1) f_34 _ _ _ (by omega) (show 0 ≤ (k2 + 1) ∧ (k2 + 1) ≤ 60 from ⟨by omega, by omega⟩) (show 0 ≤ sumP f_34 80 from (sumP_0 _ _)) (show okZ f_34 from (hzq3.up ⟨by omega, by omega⟩ hf_34 ⟨by omega, by omega⟩)) (show ∀ (L9 : LS_) (d9 s9 m9 w9 t9 o9 : Int), Rc (yS (eR Af) Pg) (x, L9, rQ Zf, d9, s9, m9, w9, t9, o9, 0) ((k2 + 1), L9, rQ f_34, d9, s9, m9, w9, t9, o9, 0) from (fun L9 d9 s9 m9 w9 t9 o9 => by have s8 := (hrc L9 d9 s9 m9 w9 t9 o9).st; rw [yS_e (by decide) (show k2 < Pg.1 by omega) hk9.1, yE_n (by rw [← hk9.2, rQ_in ⟨by omega, by omega⟩]; omega)] at s8; rw [rQ_up (v := ((gz Zf3 (gz Af ((520 + (6 * k2)) + 4))) - 0)) ⟨by omega, by omega⟩ hf_34 ⟨by omega, by omega⟩, xUp_id (by rw [rQ_in ⟨by omega, by omega⟩]; omega)]; exact s8)) (hP.sub [0, 1, 2] rfl) (hD.sub [0, 1, 2] rfl rfl) hS (lv_sub hl [0, 3, 4] rfl)
            ·
              have c_29 := mt (zle (x := iZ (gz Zf3 (gz Af ((520 + (6 * k2)) + 4)))) (y := iZ 0) rfl rfl (gz_rg Zf3 (gz Af ((520 + (6 * k2)) + 4))) wn_0).mpr c_29
              refine lv_iconst (v := iZ 1) hx hb dX12_behindEnds_73 rfl ?_
              refine lv_goto (tgt := 78) hx hb dX12_behindEnds_74 rfl ?_
              refine lv_istore (lv' := [(4, .int (iZ 1)), (3, .int (iZ (gz Af ((520 + (6 * k2)) + 4)))), (2, .int (iZ k2)), (0, .ref hm), (1, .int (iZ x))]) hx hb dX12_behindEnds_78 hl (bl rfl) rfl (fun ls hl => ?_)
              refine lv_aload_n hx hb dX12_behindEnds_80 rfl (lv_at hl 3 rfl) ?_
              refine va_get (D := D) (ci := 12) (v := .ref Mz) (C := RX12) (T := TX12) (N := 36) hx hb hts iX12 hown hK hP 0 rfl rfl 31 (bl rfl) (hts _ qf_X12_62) (fun _ h => h) f31 dX12_behindEnds_81 ?_
              refine lv_iload_n hx hb dX12_behindEnds_84 rfl (lv_at hl 1 rfl) ?_
              refine lv_dup2_11 hx hb dX12_behindEnds_85 rfl rfl ?_
              refine va_iald hx hb hK hP 2 1 rfl rfl (zin (e := (gz Af ((520 + (6 * k2)) + 4))) (n := 80) ⟨by omega, by omega⟩ (bl rfl)) dX12_behindEnds_86 ?_
              refine lv_topi (fun x_38 ex_38 => ?_)
              obtain rfl : x_38 = iZ (gz Zf3 (gz Af ((520 + (6 * k2)) + 4))) := ex_38.trans (gz_eq ⟨by omega, by omega⟩)
              have h_39 := gz_rg Zf3 (gz Af ((520 + (6 * k2)) + 4))
              refine lv_iload hx hb dX12_behindEnds_87 (lv_at hl 0 rfl) ?_
              refine lv_if_eq (tgt := 96) hx hb dX12_behindEnds_89 rfl (fun c => absurd c (by decide)) (fun _ => ?_)
              refine lv_iconst (v := iZ 1) hx hb dX12_behindEnds_92 rfl ?_
              refine lv_goto (tgt := 97) hx hb dX12_behindEnds_93 rfl ?_
              refine lv_isub hx hb dX12_behindEnds_97 ?_
              refine lv_topi (fun x_41 ex_41 => ?_)
              obtain rfl : x_41 = iZ ((gz Zf3 (gz Af ((520 + (6 * k2)) + 4))) - 1) := ex_41.trans (iZ_sub (gz Zf3 (gz Af ((520 + (6 * k2)) + 4))) 1)
              refine va_iast hx hb hK hP hD hS 2 1 rfl rfl (zin (e := (gz Af ((520 + (6 * k2)) + 4))) (n := 80) ⟨by omega, by omega⟩ (bl rfl)) dX12_behindEnds_98 (fun H locs hP hD hS => ?_)
              obtain ⟨f_42, hf_42⟩ : ∃ gg9, gg9 = upd Zf3 (iZ (gz Af ((520 + (6 * k2)) + 4))).toNatClampNeg (iZ ((gz Zf3 (gz Af ((520 + (6 * k2)) + 4))) - 1)) := ⟨_, rfl⟩
              rw [← hf_42] at hP hD
              have hS_43 := sumP_up hf_42 ⟨by omega, by omega⟩ ⟨by omega, by omega⟩ 80
              refine lv_iload hx hb dX12_behindEnds_99 (lv_at hl 0 rfl) ?_
              refine lv_if_eq (tgt := 110) hx hb dX12_behindEnds_101 rfl (fun c => absurd c (by decide)) (fun _ => ?_)
              refine lv_iload_n hx hb dX12_behindEnds_104 rfl (lv_at hl 1 rfl) ?_
              refine lv_iconst (v := iZ 1) hx hb dX12_behindEnds_105 rfl ?_
              refine lv_iadd hx hb dX12_behindEnds_106 ?_
              refine lv_topi (fun x_45 ex_45 => ?_)
              obtain rfl : x_45 = iZ ((gz Af ((520 + (6 * k2)) + 4)) + 1) := ex_45.trans (iZ_add (gz Af ((520 + (6 * k2)) + 4)) 1)
              refine lv_goto (tgt := 113) hx hb dX12_behindEnds_107 rfl ?_
              refine lv_istore_n (lv' := [(2, .int (iZ ((gz Af ((520 + (6 * k2)) + 4)) + 1))), (4, .int (iZ 1)), (3, .int (iZ (gz Af ((520 + (6 * k2)) + 4)))), (0, .ref hm), (1, .int (iZ x))]) hx hb dX12_behindEnds_113 rfl hl (bl rfl) rfl (fun ls hl => ?_)
              refine lv_goto (tgt := 2) hx hb dX12_behindEnds_114 rfl ?_
              exact ih1  ((gz Af ((520 + (6 * k2)) + 4)) + 1) f_42 _ _ _ (by omega) (show 0 ≤ ((gz Af ((520 + (6 * k2)) + 4)) + 1) ∧ ((gz Af ((520 + (6 * k2)) + 4)) + 1) ≤ 60 from ⟨by omega, by omega⟩) (show 0 ≤ sumP f_42 80 from (sumP_0 _ _)) (show okZ f_42 from (hzq3.up ⟨by omega, by omega⟩ hf_42 ⟨by omega, by omega⟩)) (show ∀ (L9 : LS_) (d9 s9 m9 w9 t9 o9 : Int), Rc (yS (eR Af) Pg) (x, L9, rQ Zf, d9, s9, m9, w9, t9, o9, 0) (((gz Af ((520 + (6 * k2)) + 4)) + 1), L9, rQ f_42, d9, s9, m9, w9, t9, o9, 0) from (fun L9 d9 s9 m9 w9 t9 o9 => by have s8 := (hrc L9 d9 s9 m9 w9 t9 o9).st; rw [yS_e (by decide) (show k2 < Pg.1 by omega) hk9.1, yE_y ⟨by rw [← hk9.2]; omega, by rw [← hk9.2, rQ_in ⟨by omega, by omega⟩]; omega⟩, ← hk9.2, rQ_in ⟨by omega, by omega⟩, ← rQ_up ⟨by omega, by omega⟩ hf_42 ⟨by omega, by omega⟩] at s8; exact s8)) (hP.sub [0, 1, 2] rfl) (hD.sub [0, 1, 2] rfl rfl) hS (lv_sub hl [0, 3, 4] rfl)
  exact HL1 (61 * sumP Zf 80 + 62).toNat x Zf _ _ _ (by omega) (show 0 ≤ x ∧ x ≤ 60 from ⟨by omega, by omega⟩) (show 0 ≤ sumP Zf 80 from (sumP_0 _ _)) (show okZ Zf from hzq) (show ∀ (L9 : LS_) (d9 s9 m9 w9 t9 o9 : Int), Rc (yS (eR Af) Pg) (x, L9, rQ Zf, d9, s9, m9, w9, t9, o9, 0) (x, L9, rQ Zf, d9, s9, m9, w9, t9, o9, 0) from (fun L9 d9 s9 m9 w9 t9 o9 => Rc.rf _ _)) (hP.sub [0, 1, 2] rfl) (hD.sub [0, 1, 2] rfl rfl) hS (lv_sub hl [0, 1, 2] rfl)
end

section
theorem okR_fr {A B : Nat → Int32} {P : PR_} (h : okR (gz A 0) P) (k : FR B A) : okR (gz B 0) P := by rw [k.2.1]; exact h
section LI
variable {e : EV_} {P : PR_} {k d s m we tu o0 z j : Int} {L : LS_} {q q2 : Int → Int}
theorem li_19 (hw : P.2.1 k = 19) (hz : z = hoZ e L (P.2.2.1 k) (P.2.2.2.1 k) (P.2.2.2.2.1 k)) (hj : (z = 1 ∧ j = k + 1) ∨ (¬ z = 1 ∧ j = P.2.2.2.2.2 k + 1)) : yT e P (k, L, q, d, s, m, we, tu, o0, 0) = (j, L, q, d, s, m, we, tu, o0, 0) := by
  rw [yT_19 hw, ← hz]
  rcases hj with ⟨h1, h2⟩ | ⟨h1, h2⟩
  · rw [if_pos h1, h2]
  · rw [if_neg h1, h2]
theorem li_22 (hw : P.2.1 k = 22) (hq : q2 = xUp q k (P.2.2.1 k - 1)) : yT e P (k, L, q, d, s, m, we, tu, o0, 0) = (k + 1, L, q2, d, s, m, we, tu, o0, 0) := by
  rw [yT_22 hw, hq]
theorem li_24 (hw : P.2.1 k = 24) : yT e P (k, L, q, d, s, m, we, tu, o0, 0) = (P.1, L, q, d, s, m, we, tu, o0, 0) := yT_24 ⟨by omega, by omega, by omega, by omega, by omega, by omega⟩
end LI
set_option maxHeartbeats 4000000 in
set_option maxRecDepth 100000 in
theorem r_lives (l : Launch) (D : va_G) (k : Nat → ClassId) (hm : Nat) (Ma : Nat) (Mn : Nat) (Ms : Nat) (My : Nat) (Mt : Nat) (Mp : Nat) (Mx : Nat) (Mo : Nat) (Mk : Nat) (Ml : Nat) (Mb : Nat) (Mh : Nat) (Mc : Nat) (Mz : Nat) (Mr : Nat) (Mq : Nat) (Mst : Int) (Mtd : Int) (Msz : Int) (Mtk : Int) (Mfr : Int) (Men : Int) (Mva : Int) (Mfk : Int) (Mfp : Int) (Mfs : Int) (Mse : Int) (Mlt : Int) (Mdp : Int) (Mct : Int) (Mdr : Int) (Mrs : Int) (Mit : Int) (Mmk : Int) (Mtp : Int64) (Mbt : Int64) (Af : Nat → Int32) (Kf : Nat → Int32) (Lf : Nat → Int32) (Bf : Nat → Int32) (Hf : Nat → Int32) (Zf : Nat → Int32) (Rf : Nat → Int32) (x : Int) (Pg : PR_) (hM : M0 Af) (h9x : 0 ≤ x ∧ x ≤ 65535) (rgH : rgI Hf 0 1000000 120) (hyM : yRM Af 0 Pg) (hok : okR (gz Af 0) Pg) (hzq : okZ Zf) : WD (σ := ((Int × Int × Int) × (Int64) × ((Nat → Int32) × (Nat → Int32) × (Nat → Int32) × (Nat → Int32) × (Nat → Int32) × (Nat → Int32) × (Nat → Int32)) × (Unit))) l yX12_lives cX12_lives 4 none 9 0 0 D k [.ref hm, .int (iZ x)] [(hm, .inr (12, [.ref Ma, .ref Mn, .int (iZ Mst), .long Mtp, .long Mbt, .ref Ms, .ref My, .ref Mt, .ref Mp, .ref Mx, .int (iZ Mtd), .int (iZ Msz), .int (iZ Mtk), .int (iZ Mfr), .int (iZ Men), .int (iZ Mva), .int (iZ Mfk), .int (iZ Mfp), .int (iZ Mfs), .int (iZ Mse), .int (iZ Mlt), .ref Mo, .int (iZ Mdp), .int (iZ Mct), .ref Mk, .ref Ml, .ref Mb, .ref Mh, .ref Mc, .int (iZ Mdr), .int (iZ Mrs), .ref Mz, .ref Mr, .ref Mq, .int (iZ Mit), .int (iZ Mmk)])), (Ma, .inl (k 1, 5340, .inl Af)), (Mk, .inl (k 1, 6, .inl Kf)), (Ml, .inl (k 1, 6, .inl Lf)), (Mb, .inl (k 1, 6, .inl Bf)), (Mh, .inl (k 1, 120, .inl Hf)), (Mz, .inl (k 1, 80, .inl Zf)), (Mr, .inl (k 1, 5, .inl Rf))] (fun _ => none) (fun u => (M0 u.2.2.1.1) ∧ (FR u.2.2.1.1 Af) ∧ (0 ≤ u.1.2.1 ∧ u.1.2.1 ≤ 65535) ∧ (rgI u.2.2.1.2.2.2.2.1 0 1000000 120) ∧ (0 ≤ u.1.2.2 ∧ u.1.2.2 ≤ 200) ∧ (∃ r9 : Int, isRn_ (yS (eR Af) Pg) (0, rL Af, rQ Zf, x, 0, 0, 0, 0, 0, 0) (r9, rL u.2.2.1.1, rQ u.2.2.1.2.2.2.2.2.1, u.1.2.1, u.1.2.2, gz u.2.2.1.2.2.2.2.2.2 0, gz u.2.2.1.2.2.2.2.2.2 1, gz u.2.2.1.2.2.2.2.2.2 2, gz u.2.2.1.2.2.2.2.2.2 3, gz u.2.2.1.2.2.2.2.2.2 4)) ∧ (okZ u.2.2.1.2.2.2.2.2.1) ∧ (∀ j : Int, 0 ≤ j → j < 5 → 0 ≤ gz u.2.2.1.2.2.2.2.2.2 j ∧ gz u.2.2.1.2.2.2.2.2.2 j ≤ 30000)) (fun u => [(hm, .inr (12, [.ref Ma, .ref Mn, .int (iZ Mst), .long Mtp, .long Mbt, .ref Ms, .ref My, .ref Mt, .ref Mp, .ref Mx, .int (iZ Mtd), .int (iZ Msz), .int (iZ Mtk), .int (iZ Mfr), .int (iZ Men), .int (iZ Mva), .int (iZ Mfk), .int (iZ Mfp), .int (iZ Mfs), .int (iZ Mse), .int (iZ Mlt), .ref Mo, .int (iZ Mdp), .int (iZ Mct), .ref Mk, .ref Ml, .ref Mb, .ref Mh, .ref Mc, .int (iZ u.1.2.1), .int (iZ u.1.2.2), .ref Mz, .ref Mr, .ref Mq, .int (iZ Mit), .int (iZ Mmk)])), (Ma, .inl (k 1, 5340, .inl u.2.2.1.1)), (Mk, .inl (k 1, 6, .inl u.2.2.1.2.1)), (Ml, .inl (k 1, 6, .inl u.2.2.1.2.2.1)), (Mb, .inl (k 1, 6, .inl u.2.2.1.2.2.2.1)), (Mh, .inl (k 1, 120, .inl u.2.2.1.2.2.2.2.1)), (Mz, .inl (k 1, 80, .inl u.2.2.1.2.2.2.2.2.1)), (Mr, .inl (k 1, 5, .inl u.2.2.1.2.2.2.2.2.2))]) := by
  refine MW (by decide) (Nat.le_of_ble_eq_true rfl) (fun p e s m below meth c ls A hx hb hml hr hlocks hin hts hown hKK hP hD hS hA hl => ?_)
  have hK := hKK.1
  have hl : lv_has ls 4 [(0, .ref hm), (1, .int (iZ x))] := hl
  obtain ⟨m0, m1, m3, m4, m5, mF, mO, mS⟩ := id hM
  have h5 : gz Af 5 = Pg.1 := hyM.1
  refine lv_aload_n hx hb dX12_lives_0 rfl (lv_at hl 0 rfl) ?_
  refine lv_iload_n hx hb dX12_lives_1 rfl (lv_at hl 1 rfl) ?_
  refine va_put (D := D) (ci := 12) (v := .int (iZ x)) (ty := .int) (C := RX12) (T := TX12) (N := 36) hx hb hts iX12 tyX12 tyX12_ok nmX12 hown hK hP hD hS 0 rfl rfl 29 (bl rfl) (hts _ qf_X12_380) (fun _ h => h) rfl (by decide +kernel) rfl rfl (Nat.le_of_ble_eq_true rfl) dX12_lives_2 (fun H locs hP hD hS => ?_)
  refine lv_aload_n hx hb dX12_lives_5 rfl (lv_at hl 0 rfl) ?_
  refine lv_iconst (v := iZ 0) hx hb dX12_lives_6 rfl ?_
  refine va_put (D := D) (ci := 12) (v := .int (iZ 0)) (ty := .int) (C := RX12) (T := TX12) (N := 36) hx hb hts iX12 tyX12 tyX12_ok nmX12 hown hK hP hD hS 0 rfl rfl 30 (bl rfl) (hts _ qf_X12_387) (fun _ h => h) rfl (by decide +kernel) rfl rfl (Nat.le_of_ble_eq_true rfl) dX12_lives_7 (fun H locs hP hD hS => ?_)
  refine lv_iconst (v := iZ 0) hx hb dX12_lives_10 rfl ?_
  refine lv_istore_n (lv' := [(2, .int (iZ 0)), (0, .ref hm), (1, .int (iZ x))]) hx hb dX12_lives_11 rfl hl (bl rfl) rfl (fun ls hl => ?_)
  have HL12 : ∀ (fu : Nat) (v2_12 : Int) (Rfq12 : Nat → Int32) (H : Heap) (locs : List Loc) (ls : Array Slot), ((4) + 2 - v2_12) < (fu : Int) → ((0 ≤ v2_12 ∧ v2_12 ≤ (4) + 1)) → (∀ j : Int, 0 ≤ j → j < v2_12 → gz Rfq12 j = 0) → va_P D vwCl [(hm, .inr (12, [.ref Ma, .ref Mn, .int (iZ Mst), .long Mtp, .long Mbt, .ref Ms, .ref My, .ref Mt, .ref Mp, .ref Mx, .int (iZ Mtd), .int (iZ Msz), .int (iZ Mtk), .int (iZ Mfr), .int (iZ Men), .int (iZ Mva), .int (iZ Mfk), .int (iZ Mfp), .int (iZ Mfs), .int (iZ Mse), .int (iZ Mlt), .ref Mo, .int (iZ Mdp), .int (iZ Mct), .ref Mk, .ref Ml, .ref Mb, .ref Mh, .ref Mc, .int (iZ x), .int (iZ 0), .ref Mz, .ref Mr, .ref Mq, .int (iZ Mit), .int (iZ Mmk)])), (Ma, .inl (k 1, 5340, .inl Af)), (Mk, .inl (k 1, 6, .inl Kf)), (Ml, .inl (k 1, 6, .inl Lf)), (Mb, .inl (k 1, 6, .inl Bf)), (Mh, .inl (k 1, 120, .inl Hf)), (Mz, .inl (k 1, 80, .inl Zf)), (Mr, .inl (k 1, 5, .inl Rfq12))] H → va_D A [(hm, .inr (12, [.ref Ma, .ref Mn, .int (iZ Mst), .long Mtp, .long Mbt, .ref Ms, .ref My, .ref Mt, .ref Mp, .ref Mx, .int (iZ Mtd), .int (iZ Msz), .int (iZ Mtk), .int (iZ Mfr), .int (iZ Men), .int (iZ Mva), .int (iZ Mfk), .int (iZ Mfp), .int (iZ Mfs), .int (iZ Mse), .int (iZ Mlt), .ref Mo, .int (iZ Mdp), .int (iZ Mct), .ref Mk, .ref Ml, .ref Mb, .ref Mh, .ref Mc, .int (iZ x), .int (iZ 0), .ref Mz, .ref Mr, .ref Mq, .int (iZ Mit), .int (iZ Mmk)])), (Ma, .inl (k 1, 5340, .inl Af)), (Mk, .inl (k 1, 6, .inl Kf)), (Ml, .inl (k 1, 6, .inl Lf)), (Mb, .inl (k 1, 6, .inl Bf)), (Mh, .inl (k 1, 120, .inl Hf)), (Mz, .inl (k 1, 80, .inl Zf)), (Mr, .inl (k 1, 5, .inl Rfq12))] → va_S A s.heap H locs → lv_has ls 4 [(2, .int (iZ v2_12)), (0, .ref hm), (1, .int (iZ x))] → W p l e (rj 9 0 0) s m [.ref hm, .int (iZ x)].toArray below meth c H locs 0 0 (MQ below (QW (σ := ((Int × Int × Int) × (Int64) × ((Nat → Int32) × (Nat → Int32) × (Nat → Int32) × (Nat → Int32) × (Nat → Int32) × (Nat → Int32) × (Nat → Int32)) × (Unit))) (fun _ => none) (fun u => (M0 u.2.2.1.1) ∧ (FR u.2.2.1.1 Af) ∧ (0 ≤ u.1.2.1 ∧ u.1.2.1 ≤ 65535) ∧ (rgI u.2.2.1.2.2.2.2.1 0 1000000 120) ∧ (0 ≤ u.1.2.2 ∧ u.1.2.2 ≤ 200) ∧ (∃ r9 : Int, isRn_ (yS (eR Af) Pg) (0, rL Af, rQ Zf, x, 0, 0, 0, 0, 0, 0) (r9, rL u.2.2.1.1, rQ u.2.2.1.2.2.2.2.2.1, u.1.2.1, u.1.2.2, gz u.2.2.1.2.2.2.2.2.2 0, gz u.2.2.1.2.2.2.2.2.2 1, gz u.2.2.1.2.2.2.2.2.2 2, gz u.2.2.1.2.2.2.2.2.2 3, gz u.2.2.1.2.2.2.2.2.2 4)) ∧ (okZ u.2.2.1.2.2.2.2.2.1) ∧ (∀ j : Int, 0 ≤ j → j < 5 → 0 ≤ gz u.2.2.1.2.2.2.2.2.2 j ∧ gz u.2.2.1.2.2.2.2.2.2 j ≤ 30000)) (fun u => [(hm, .inr (12, [.ref Ma, .ref Mn, .int (iZ Mst), .long Mtp, .long Mbt, .ref Ms, .ref My, .ref Mt, .ref Mp, .ref Mx, .int (iZ Mtd), .int (iZ Msz), .int (iZ Mtk), .int (iZ Mfr), .int (iZ Men), .int (iZ Mva), .int (iZ Mfk), .int (iZ Mfp), .int (iZ Mfs), .int (iZ Mse), .int (iZ Mlt), .ref Mo, .int (iZ Mdp), .int (iZ Mct), .ref Mk, .ref Ml, .ref Mb, .ref Mh, .ref Mc, .int (iZ u.1.2.1), .int (iZ u.1.2.2), .ref Mz, .ref Mr, .ref Mq, .int (iZ Mit), .int (iZ Mmk)])), (Ma, .inl (k 1, 5340, .inl u.2.2.1.1)), (Mk, .inl (k 1, 6, .inl u.2.2.1.2.1)), (Ml, .inl (k 1, 6, .inl u.2.2.1.2.2.1)), (Mb, .inl (k 1, 6, .inl u.2.2.1.2.2.2.1)), (Mh, .inl (k 1, 120, .inl u.2.2.1.2.2.2.2.1)), (Mz, .inl (k 1, 80, .inl u.2.2.1.2.2.2.2.2.1)), (Mr, .inl (k 1, 5, .inl u.2.2.1.2.2.2.2.2.2))]) D A) [.ref hm, .int (iZ x)].toArray s 0 0 A) (F0 m 12 ls []) := by
    intro fu
    induction fu with
    | zero => intro v2_12 Rfq12 H locs ls hμ12 hi12 hcl hP hD hS hl; exact absurd hμ12 (by omega)
    | succ fu ih12 =>
      intro v2_12 Rfq12 H locs ls hμ12 hi12 hcl hP hD hS hl
      refine lv_iload_n hx hb dX12_lives_12 rfl (lv_at hl 0 rfl) ?_
      refine lv_iconst (v := iZ 5) hx hb dX12_lives_13 rfl ?_
      refine lv_icmp_ge (tgt := 30) hx hb dX12_lives_14 rfl (fun c_1 => ?_) (fun c_1 => ?_)
      ·
        have c_1 := (zle (x := iZ 5) (y := iZ v2_12) rfl rfl wn_5 ⟨by omega, by omega⟩).mp c_1
        refine lv_iconst (v := iZ 0) hx hb dX12_lives_30 rfl ?_
        refine lv_istore_n (lv' := [(2, .int (iZ 0)), (0, .ref hm), (1, .int (iZ x))]) hx hb dX12_lives_31 rfl hl (bl rfl) rfl (fun ls hl => ?_)
        have HL32 : ∀ (fu : Nat) (v2_32 : Int) (Mdrq32 : Int) (Mrsq32 : Int) (Afq32 : Nat → Int32) (Kfq32 : Nat → Int32) (Lfq32 : Nat → Int32) (Bfq32 : Nat → Int32) (Hfq32 : Nat → Int32) (Zfq32 : Nat → Int32) (Rfq32 : Nat → Int32) (H : Heap) (locs : List Loc) (ls : Array Slot), (201 - Mrsq32) < (fu : Int) → ((0 ≤ v2_32 ∧ v2_32 ≤ (60) + 1)) → (0 ≤ Mrsq32 ∧ Mrsq32 ≤ 200) → (0 ≤ Mdrq32 ∧ Mdrq32 ≤ 65535) → (rgI Hfq32 0 1000000 120) → (Rc (yS (eR Af) Pg) (0, rL Af, rQ Zf, x, 0, 0, 0, 0, 0, 0) (v2_32, rL Afq32, rQ Zfq32, Mdrq32, Mrsq32, gz Rfq32 0, gz Rfq32 1, gz Rfq32 2, gz Rfq32 3, gz Rfq32 4)) → (gz Rfq32 4 = 0) → (v2_32 < Pg.1 → ¬ Pg.2.1 v2_32 = 23) → (okZ Zfq32) → (∀ j : Int, 0 ≤ j → j < 5 → 0 ≤ gz Rfq32 j ∧ gz Rfq32 j ≤ 101 * Mrsq32) → (yRM Afq32 0 Pg) → (okR (gz Afq32 0) Pg) → (M0 Afq32) → (FR Afq32 Af) → va_P D vwCl [(hm, .inr (12, [.ref Ma, .ref Mn, .int (iZ Mst), .long Mtp, .long Mbt, .ref Ms, .ref My, .ref Mt, .ref Mp, .ref Mx, .int (iZ Mtd), .int (iZ Msz), .int (iZ Mtk), .int (iZ Mfr), .int (iZ Men), .int (iZ Mva), .int (iZ Mfk), .int (iZ Mfp), .int (iZ Mfs), .int (iZ Mse), .int (iZ Mlt), .ref Mo, .int (iZ Mdp), .int (iZ Mct), .ref Mk, .ref Ml, .ref Mb, .ref Mh, .ref Mc, .int (iZ Mdrq32), .int (iZ Mrsq32), .ref Mz, .ref Mr, .ref Mq, .int (iZ Mit), .int (iZ Mmk)])), (Ma, .inl (k 1, 5340, .inl Afq32)), (Mk, .inl (k 1, 6, .inl Kfq32)), (Ml, .inl (k 1, 6, .inl Lfq32)), (Mb, .inl (k 1, 6, .inl Bfq32)), (Mh, .inl (k 1, 120, .inl Hfq32)), (Mz, .inl (k 1, 80, .inl Zfq32)), (Mr, .inl (k 1, 5, .inl Rfq32))] H → va_D A [(hm, .inr (12, [.ref Ma, .ref Mn, .int (iZ Mst), .long Mtp, .long Mbt, .ref Ms, .ref My, .ref Mt, .ref Mp, .ref Mx, .int (iZ Mtd), .int (iZ Msz), .int (iZ Mtk), .int (iZ Mfr), .int (iZ Men), .int (iZ Mva), .int (iZ Mfk), .int (iZ Mfp), .int (iZ Mfs), .int (iZ Mse), .int (iZ Mlt), .ref Mo, .int (iZ Mdp), .int (iZ Mct), .ref Mk, .ref Ml, .ref Mb, .ref Mh, .ref Mc, .int (iZ Mdrq32), .int (iZ Mrsq32), .ref Mz, .ref Mr, .ref Mq, .int (iZ Mit), .int (iZ Mmk)])), (Ma, .inl (k 1, 5340, .inl Afq32)), (Mk, .inl (k 1, 6, .inl Kfq32)), (Ml, .inl (k 1, 6, .inl Lfq32)), (Mb, .inl (k 1, 6, .inl Bfq32)), (Mh, .inl (k 1, 120, .inl Hfq32)), (Mz, .inl (k 1, 80, .inl Zfq32)), (Mr, .inl (k 1, 5, .inl Rfq32))] → va_S A s.heap H locs → lv_has ls 4 [(2, .int (iZ v2_32)), (0, .ref hm), (1, .int (iZ x))] → W p l e (rj 9 0 0) s m [.ref hm, .int (iZ x)].toArray below meth c H locs 0 0 (MQ below (QW (σ := ((Int × Int × Int) × (Int64) × ((Nat → Int32) × (Nat → Int32) × (Nat → Int32) × (Nat → Int32) × (Nat → Int32) × (Nat → Int32) × (Nat → Int32)) × (Unit))) (fun _ => none) (fun u => (M0 u.2.2.1.1) ∧ (FR u.2.2.1.1 Af) ∧ (0 ≤ u.1.2.1 ∧ u.1.2.1 ≤ 65535) ∧ (rgI u.2.2.1.2.2.2.2.1 0 1000000 120) ∧ (0 ≤ u.1.2.2 ∧ u.1.2.2 ≤ 200) ∧ (∃ r9 : Int, isRn_ (yS (eR Af) Pg) (0, rL Af, rQ Zf, x, 0, 0, 0, 0, 0, 0) (r9, rL u.2.2.1.1, rQ u.2.2.1.2.2.2.2.2.1, u.1.2.1, u.1.2.2, gz u.2.2.1.2.2.2.2.2.2 0, gz u.2.2.1.2.2.2.2.2.2 1, gz u.2.2.1.2.2.2.2.2.2 2, gz u.2.2.1.2.2.2.2.2.2 3, gz u.2.2.1.2.2.2.2.2.2 4)) ∧ (okZ u.2.2.1.2.2.2.2.2.1) ∧ (∀ j : Int, 0 ≤ j → j < 5 → 0 ≤ gz u.2.2.1.2.2.2.2.2.2 j ∧ gz u.2.2.1.2.2.2.2.2.2 j ≤ 30000)) (fun u => [(hm, .inr (12, [.ref Ma, .ref Mn, .int (iZ Mst), .long Mtp, .long Mbt, .ref Ms, .ref My, .ref Mt, .ref Mp, .ref Mx, .int (iZ Mtd), .int (iZ Msz), .int (iZ Mtk), .int (iZ Mfr), .int (iZ Men), .int (iZ Mva), .int (iZ Mfk), .int (iZ Mfp), .int (iZ Mfs), .int (iZ Mse), .int (iZ Mlt), .ref Mo, .int (iZ Mdp), .int (iZ Mct), .ref Mk, .ref Ml, .ref Mb, .ref Mh, .ref Mc, .int (iZ u.1.2.1), .int (iZ u.1.2.2), .ref Mz, .ref Mr, .ref Mq, .int (iZ Mit), .int (iZ Mmk)])), (Ma, .inl (k 1, 5340, .inl u.2.2.1.1)), (Mk, .inl (k 1, 6, .inl u.2.2.1.2.1)), (Ml, .inl (k 1, 6, .inl u.2.2.1.2.2.1)), (Mb, .inl (k 1, 6, .inl u.2.2.1.2.2.2.1)), (Mh, .inl (k 1, 120, .inl u.2.2.1.2.2.2.2.1)), (Mz, .inl (k 1, 80, .inl u.2.2.1.2.2.2.2.2.1)), (Mr, .inl (k 1, 5, .inl u.2.2.1.2.2.2.2.2.2))]) D A) [.ref hm, .int (iZ x)].toArray s 0 0 A) (F0 m 32 ls []) := by
          intro fu
          induction fu with
          | zero => intro v2_32 Mdrq32 Mrsq32 Afq32 Kfq32 Lfq32 Bfq32 Hfq32 Zfq32 Rfq32 H locs ls hμ32 hi32 hrs2 hdr2 rgh2 hrc hr4 hn23 hzq2 hrb hyq hoq hM32 hF32 hP hD hS hl; exact absurd hμ32 (by omega)
          | succ fu ih32 =>
            intro v2_32 Mdrq32 Mrsq32 Afq32 Kfq32 Lfq32 Bfq32 Hfq32 Zfq32 Rfq32 H locs ls hμ32 hi32 hrs2 hdr2 rgh2 hrc hr4 hn23 hzq2 hrb hyq hoq hM32 hF32 hP hD hS hl
            obtain ⟨m0l32, m1l32, m3l32, m4l32, m5l32, mFl32, mOl32, mSl32⟩ := id hM32
            have frl32 := FR.z hF32
            refine lv_iload_n hx hb dX12_lives_32 rfl (lv_at hl 0 rfl) ?_
            refine lv_aload_n hx hb dX12_lives_33 rfl (lv_at hl 1 rfl) ?_
            refine va_get (D := D) (ci := 12) (v := .ref Ma) (C := RX12) (T := TX12) (N := 36) hx hb hts iX12 hown hK hP 0 rfl rfl 0 (bl rfl) (hts _ qf_X12_7) (fun _ h => h) rfl dX12_lives_34 ?_
            refine lv_iconst (v := iZ 5) hx hb dX12_lives_37 rfl ?_
            refine va_iald hx hb hK hP 1 1 rfl rfl (zin (e := 5) (n := 5340) ⟨by omega, by omega⟩ (bl rfl)) dX12_lives_38 ?_
            refine lv_topi (fun x_2 ex_2 => ?_)
            obtain rfl : x_2 = iZ (gz Afq32 5) := ex_2.trans (gz_eq ⟨by omega, by omega⟩)
            have h_3 := gz_rg Afq32 5
            refine lv_icmp_ge (tgt := 184) hx hb dX12_lives_39 rfl (fun c_4 => ?_) (fun c_4 => ?_)
            ·
              have c_4 := (zle (x := iZ (gz Afq32 5)) (y := iZ v2_32) rfl rfl (gz_rg Afq32 5) ⟨by omega, by omega⟩).mp c_4
              exact EWv hx hb hr hlocks hS ((0, Mdrq32, Mrsq32), 0, (Afq32, Kfq32, Lfq32, Bfq32, Hfq32, Zfq32, Rfq32), ()) rfl ⟨(show M0 Afq32 from hM32), (show FR Afq32 Af from hF32), (show 0 ≤ Mdrq32 ∧ Mdrq32 ≤ 65535 from (by omega)), (show rgI Hfq32 0 1000000 120 from rgh2), (show 0 ≤ Mrsq32 ∧ Mrsq32 ≤ 200 from (by omega)), (show ∃ r9 : Int, isRn_ (yS (eR Af) Pg) (0, rL Af, rQ Zf, x, 0, 0, 0, 0, 0, 0) (r9, rL Afq32, rQ Zfq32, Mdrq32, Mrsq32, gz Rfq32 0, gz Rfq32 1, gz Rfq32 2, gz Rfq32 3, gz Rfq32 4) from ⟨v2_32, hrc, yS_f (Or.inr (by have h5q : gz Afq32 5 = Pg.1 := hyq.1; omega))⟩), (show okZ Zfq32 from hzq2), (show ∀ j : Int, 0 ≤ j → j < 5 → 0 ≤ gz Rfq32 j ∧ gz Rfq32 j ≤ 30000 from (fun j a b => by have := hrb j a b; omega))⟩ (hP.sub [0, 1, 2, 3, 4, 5, 6, 7] rfl) (hD.sub [0, 1, 2, 3, 4, 5, 6, 7] rfl rfl) dX12_lives_184
            ·
              have c_4 := mt (zle (x := iZ (gz Afq32 5)) (y := iZ v2_32) rfl rfl (gz_rg Afq32 5) ⟨by omega, by omega⟩).mpr c_4
              have h5q : gz Afq32 5 = Pg.1 := hyq.1
              have hrow := row_r hyq hoq (k := v2_32) ⟨by omega, by omega⟩
              replace hrow : Unit → _ := fun _ => hrow
              have hn23q := hn23 (by omega)
              have hrfq : ∀ j : Int, 0 ≤ j → j < 5 → 0 ≤ gz Rfq32 j ∧ gz Rfq32 j ≤ 30000 := (fun j a b => by have := hrb j a b; omega)
              have hrf0 := hrfq 0 (by omega) (by omega)
              refine lv_aload_n hx hb dX12_lives_42 rfl (lv_at hl 1 rfl) ?_
              refine va_get (D := D) (ci := 12) (v := .int (iZ Mrsq32)) (C := RX12) (T := TX12) (N := 36) hx hb hts iX12 hown hK hP 0 rfl rfl 30 (bl rfl) (hts _ qf_X12_387) (fun _ h => h) rfl dX12_lives_43 ?_
              refine lv_sipush (v := iZ 200) hx hb dX12_lives_46 sip_200 ?_
              refine lv_icmp_ne (tgt := 60) hx hb dX12_lives_49 rfl (fun c_5 => ?_) (fun c_5 => ?_)
              ·
                have c_5 := mt (zeq (x := iZ Mrsq32) (y := iZ 200) rfl rfl ⟨by omega, by omega⟩ wn_200).mpr c_5
                refine lv_sipush (v := iZ 520) hx hb dX12_lives_60 sip_520 ?_
                refine lv_bipush (v := iZ 6) hx hb dX12_lives_63 bip_6 ?_
                refine lv_iload_n hx hb dX12_lives_65 rfl (lv_at hl 0 rfl) ?_
                refine lv_imul hx hb dX12_lives_66 ?_
                refine lv_topi (fun x_6 ex_6 => ?_)
                obtain rfl : x_6 = iZ (6 * v2_32) := ex_6.trans (iZ_mul 6 v2_32)
                refine lv_iadd hx hb dX12_lives_67 ?_
                refine lv_topi (fun x_7 ex_7 => ?_)
                obtain rfl : x_7 = iZ (520 + (6 * v2_32)) := ex_7.trans (iZ_add 520 (6 * v2_32))
                refine lv_istore_n (lv' := [(3, .int (iZ (520 + (6 * v2_32)))), (2, .int (iZ v2_32)), (0, .ref hm), (1, .int (iZ x))]) hx hb dX12_lives_68 rfl hl (bl rfl) rfl (fun ls hl => ?_)
                refine lv_aload_n hx hb dX12_lives_69 rfl (lv_at hl 2 rfl) ?_
                refine lv_dup hx hb dX12_lives_70 rfl ?_
                refine va_get (D := D) (ci := 12) (v := .int (iZ Mrsq32)) (C := RX12) (T := TX12) (N := 36) hx hb hts iX12 hown hK hP 0 rfl rfl 30 (bl rfl) (hts _ qf_X12_387) (fun _ h => h) rfl dX12_lives_71 ?_
                refine lv_iconst (v := iZ 1) hx hb dX12_lives_74 rfl ?_
                refine lv_iadd hx hb dX12_lives_75 ?_
                refine lv_topi (fun x_8 ex_8 => ?_)
                obtain rfl : x_8 = iZ (Mrsq32 + 1) := ex_8.trans (iZ_add Mrsq32 1)
                refine va_put (D := D) (ci := 12) (v := .int (iZ (Mrsq32 + 1))) (ty := .int) (C := RX12) (T := TX12) (N := 36) hx hb hts iX12 tyX12 tyX12_ok nmX12 hown hK hP hD hS 0 rfl rfl 30 (bl rfl) (hts _ qf_X12_387) (fun _ h => h) rfl (by decide +kernel) rfl rfl (Nat.le_of_ble_eq_true rfl) dX12_lives_76 (fun H locs hP hD hS => ?_)
                refine lv_aload_n hx hb dX12_lives_79 rfl (lv_at hl 2 rfl) ?_
                refine va_get (D := D) (ci := 12) (v := .ref Ma) (C := RX12) (T := TX12) (N := 36) hx hb hts iX12 hown hK hP 0 rfl rfl 0 (bl rfl) (hts _ qf_X12_7) (fun _ h => h) rfl dX12_lives_80 ?_
                refine lv_iload_n hx hb dX12_lives_83 rfl (lv_at hl 0 rfl) ?_
                refine va_iald hx hb hK hP 1 1 rfl rfl (zin (e := (520 + (6 * v2_32))) (n := 5340) ⟨by omega, by omega⟩ (bl rfl)) dX12_lives_84 ?_
                refine lv_topi (fun x_9 ex_9 => ?_)
                obtain rfl : x_9 = iZ (gz Afq32 (520 + (6 * v2_32))) := ex_9.trans (gz_eq ⟨by omega, by omega⟩)
                have h_10 := gz_rg Afq32 (520 + (6 * v2_32))
                refine lv_bipush (v := iZ 22) hx hb dX12_lives_85 bip_22 ?_
                refine lv_icmp_ne (tgt := 91) hx hb dX12_lives_87 rfl (fun c_11 => ?_) (fun c_11 => ?_)
                ·
                  have c_11 := mt (zeq (x := iZ (gz Afq32 (520 + (6 * v2_32)))) (y := iZ 22) rfl rfl (gz_rg Afq32 (520 + (6 * v2_32))) wn_22).mpr c_11
                  refine lv_aload_n hx hb dX12_lives_91 rfl (lv_at hl 2 rfl) ?_
                  refine va_get (D := D) (ci := 12) (v := .ref Mr) (C := RX12) (T := TX12) (N := 36) hx hb hts iX12 hown hK hP 0 rfl rfl 32 (bl rfl) (hts _ qf_X12_65) (fun _ h => h) rfl dX12_lives_92 ?_
                  refine lv_iconst (v := iZ 0) hx hb dX12_lives_95 rfl ?_
                  refine lv_dup2_11 hx hb dX12_lives_96 rfl rfl ?_
                  refine va_iald hx hb hK hP 7 1 rfl rfl (zin (e := 0) (n := 5) ⟨by omega, by omega⟩ (bl rfl)) dX12_lives_97 ?_
                  refine lv_topi (fun x_12 ex_12 => ?_)
                  obtain rfl : x_12 = iZ (gz Rfq32 0) := ex_12.trans (gz_eq ⟨by omega, by omega⟩)
                  have h_13 := gz_rg Rfq32 0
                  refine lv_aload_n hx hb dX12_lives_98 rfl (lv_at hl 2 rfl) ?_
                  refine lv_iload_n hx hb dX12_lives_99 rfl (lv_at hl 0 rfl) ?_
                  refine CWV (As := [.int (iZ (520 + (6 * v2_32)))]) (rest := [.int (iZ (gz Rfq32 0)), .int (iZ 0), .ref Mr]) (wc := _) (wr := [(Mk, .inl (k 1, 6, .inl Kfq32)), (Ml, .inl (k 1, 6, .inl Lfq32)), (Mb, .inl (k 1, 6, .inl Bfq32)), (Mh, .inl (k 1, 120, .inl Hfq32)), (Mz, .inl (k 1, 80, .inl Zfq32))]) hx hb hml hown hts hKK hP hD hS hA (r_does l D k hm Ma Mn Ms My Mt Mp Mx Mo Mk Ml Mb Mh Mc Mz Mr Mq Mst Mtd Msz Mtk Mfr Men Mva Mfk Mfp Mfs Mse Mlt Mdp Mct Mdrq32 (Mrsq32 + 1) Mit Mmk Mtp Mbt Afq32 Rfq32 (520 + (6 * v2_32)) v2_32 Pg hM32 rfl hyq hoq ⟨by omega, by omega⟩ ⟨by omega, by omega⟩ hrfq (by omega)) ci_X12_does qm_X12_390 ⟨Nat.le_of_ble_eq_true rfl, Nat.le_of_ble_eq_true rfl⟩ ⟨Nat.le_of_ble_eq_true rfl, Nat.le_of_ble_eq_true rfl⟩ [0, 1, 7] [2, 3, 4, 5, 6] rfl rfl rfl rfl rfl (dj rfl) 0 rfl rfl rfl hl.1 rfl (Nat.le_of_ble_eq_true rfl) dX12_lives_100 (fun u_14 H locs hφ hP hD hS => ?_)
                  obtain ⟨p_15, p_16, p_17, p_18, p_19, p_20, p_21⟩ : (M0 u_14.2.2.1.1) ∧ (FR u_14.2.2.1.1 Afq32) ∧ (0 ≤ u_14.1.2 ∧ u_14.1.2 ≤ 65535) ∧ ((u_14.1.1 : Int) = 0 ∨ (u_14.1.1 : Int) = 1) ∧ ((Pg.2.1 v2_32 ≤ 18 ∧ ∀ (q9 : Int → Int) (s9 m9 : Int), yT (eR Afq32) Pg (v2_32, rL Afq32, q9, Mdrq32, s9, m9, gz Rfq32 1, gz Rfq32 2, gz Rfq32 3, 0) = (v2_32 + 1, rL u_14.2.2.1.1, q9, u_14.1.2, s9, m9 + (1 - u_14.1.1), gz u_14.2.2.1.2 1, gz u_14.2.2.1.2 2, gz u_14.2.2.1.2 3, 0)) ∨ (¬ Pg.2.1 v2_32 ≤ 18 ∧ u_14.2.2.1.1 = Afq32 ∧ u_14.1.2 = Mdrq32 ∧ gz u_14.2.2.1.2 1 = gz Rfq32 1 ∧ gz u_14.2.2.1.2 2 = gz Rfq32 2 ∧ gz u_14.2.2.1.2 3 = gz Rfq32 3 ∧ (u_14.1.1 : Int) = 1)) ∧ (gz u_14.2.2.1.2 0 = gz Rfq32 0 ∧ gz u_14.2.2.1.2 4 = gz Rfq32 4) ∧ (∀ j : Int, 0 ≤ j → j < 5 → gz Rfq32 j ≤ gz u_14.2.2.1.2 j ∧ gz u_14.2.2.1.2 j ≤ gz Rfq32 j + 100) := hφ
                  obtain ⟨m0m_22, m1m_22, m3m_22, m4m_22, m5m_22, mFm_22, mOm_22, mSm_22⟩ := id p_15
                  have frm_22 := FR.z p_16
                  have hyq_23 := yRM.fr hyq hoq p_16
                  have hoq_23 := okR_fr hoq p_16
                  refine W.eq (g2 := F0 m 103 ls [.int (iZ u_14.1.1), .int (iZ (gz Rfq32 0)), .int (iZ 0), .ref Mr]) rfl ?_
                  rcases (show (u_14.1.1 = 0) ∨ (u_14.1.1 = 1) from (by omega)) with s_24 | s_24
                  ·
                    rw [s_24]
                    refine lv_if_eq (tgt := 110) hx hb dX12_lives_103 rfl (fun _ => ?_) (fun c => absurd (by decide) c)
                    refine lv_iconst (v := iZ 1) hx hb dX12_lives_110 rfl ?_
                    refine lv_iadd hx hb dX12_lives_111 ?_
                    refine lv_topi (fun x_26 ex_26 => ?_)
                    obtain rfl : x_26 = iZ ((gz Rfq32 0) + 1) := ex_26.trans (iZ_add (gz Rfq32 0) 1)
                    refine va_iast hx hb hK hP hD hS 7 1 rfl rfl (zin (e := 0) (n := 5) ⟨by omega, by omega⟩ (bl rfl)) dX12_lives_112 (fun H locs hP hD hS => ?_)
                    obtain ⟨f_27, hf_27⟩ : ∃ gg9, gg9 = upd u_14.2.2.1.2 (iZ 0).toNatClampNeg (iZ ((gz Rfq32 0) + 1)) := ⟨_, rfl⟩
                    rw [← hf_27] at hP hD
                    have hq20 := p_16.1 (520 + (6 * v2_32)) (by omega)
                    have hq24 := p_16.1 ((520 + (6 * v2_32)) + 4) (by omega)
                    have hq21 := p_16.1 ((520 + (6 * v2_32)) + 1) (by omega)
                    refine lv_aload_n hx hb dX12_lives_113 rfl (lv_at hl 2 rfl) ?_
                    refine va_get (D := D) (ci := 12) (v := .ref Ma) (C := RX12) (T := TX12) (N := 36) hx hb hts iX12 hown hK hP 5 rfl rfl 0 (bl rfl) (hts _ qf_X12_7) (fun _ h => h) rfl dX12_lives_114 ?_
                    refine lv_iload_n hx hb dX12_lives_117 rfl (lv_at hl 0 rfl) ?_
                    refine va_iald hx hb hK hP 6 1 rfl rfl (zin (e := (520 + (6 * v2_32))) (n := 5340) ⟨by omega, by omega⟩ (bl rfl)) dX12_lives_118 ?_
                    refine lv_topi (fun x_28 ex_28 => ?_)
                    obtain rfl : x_28 = iZ (gz u_14.2.2.1.1 (520 + (6 * v2_32))) := ex_28.trans (gz_eq ⟨by omega, by omega⟩)
                    have h_29 := gz_rg u_14.2.2.1.1 (520 + (6 * v2_32))
                    refine lv_bipush (v := iZ 20) hx hb dX12_lives_119 bip_20 ?_
                    refine lv_icmp_ne (tgt := 140) hx hb dX12_lives_121 rfl (fun c_30 => ?_) (fun c_30 => ?_)
                    ·
                      have c_30 := mt (zeq (x := iZ (gz u_14.2.2.1.1 (520 + (6 * v2_32)))) (y := iZ 20) rfl rfl (gz_rg u_14.2.2.1.1 (520 + (6 * v2_32))) wn_20).mpr c_30
                      refine lv_aload_n hx hb dX12_lives_140 rfl (lv_at hl 2 rfl) ?_
                      refine lv_aload_n hx hb dX12_lives_141 rfl (lv_at hl 2 rfl) ?_
                      refine va_get (D := D) (ci := 12) (v := .ref Ma) (C := RX12) (T := TX12) (N := 36) hx hb hts iX12 hown hK hP 5 rfl rfl 0 (bl rfl) (hts _ qf_X12_7) (fun _ h => h) rfl dX12_lives_142 ?_
                      refine lv_iload_n hx hb dX12_lives_145 rfl (lv_at hl 0 rfl) ?_
                      refine va_iald hx hb hK hP 6 1 rfl rfl (zin (e := (520 + (6 * v2_32))) (n := 5340) ⟨by omega, by omega⟩ (bl rfl)) dX12_lives_146 ?_
                      refine lv_topi (fun x_31 ex_31 => ?_)
                      obtain rfl : x_31 = iZ (gz u_14.2.2.1.1 (520 + (6 * v2_32))) := ex_31.trans (gz_eq ⟨by omega, by omega⟩)
                      have h_32 := gz_rg u_14.2.2.1.1 (520 + (6 * v2_32))
                      refine lv_sipush (v := iZ 1900) hx hb dX12_lives_147 sip_1900 ?_
                      refine lv_icmp_lt (tgt := 174) hx hb dX12_lives_150 rfl (fun c_33 => ?_) (fun c_33 => ?_)
                      ·
                        have c_33 := (zlt (x := iZ (gz u_14.2.2.1.1 (520 + (6 * v2_32)))) (y := iZ 1900) rfl rfl (gz_rg u_14.2.2.1.1 (520 + (6 * v2_32))) wn_1900).mp c_33
                        refine lv_iload_n hx hb dX12_lives_174 rfl (lv_at hl 1 rfl) ?_
                        refine lv_iconst (v := iZ 1) hx hb dX12_lives_175 rfl ?_
                        refine lv_iadd hx hb dX12_lives_176 ?_
                        refine lv_topi (fun x_34 ex_34 => ?_)
                        obtain rfl : x_34 = iZ (v2_32 + 1) := ex_34.trans (iZ_add v2_32 1)
                        refine CWV (As := [.int (iZ (v2_32 + 1))]) (rest := []) (wc := _) (wr := [(Mk, .inl (k 1, 6, .inl Kfq32)), (Ml, .inl (k 1, 6, .inl Lfq32)), (Mb, .inl (k 1, 6, .inl Bfq32)), (Mh, .inl (k 1, 120, .inl Hfq32)), (Mr, .inl (k 1, 5, .inl f_27))]) hx hb hml hown hts hKK hP hD hS hA (r_behindEnds l D k ([.ref Ma, .ref Mn, .int (iZ Mst), .long Mtp, .long Mbt, .ref Ms, .ref My, .ref Mt, .ref Mp, .ref Mx, .int (iZ Mtd), .int (iZ Msz), .int (iZ Mtk), .int (iZ Mfr), .int (iZ Men), .int (iZ Mva), .int (iZ Mfk), .int (iZ Mfp), .int (iZ Mfs), .int (iZ Mse), .int (iZ Mlt), .ref Mo, .int (iZ Mdp), .int (iZ Mct), .ref Mk, .ref Ml, .ref Mb, .ref Mh, .ref Mc, .int (iZ u_14.1.2), .int (iZ (Mrsq32 + 1)), .ref Mz, .ref Mr, .ref Mq, .int (iZ Mit), .int (iZ Mmk)]) hm Ma Mz u_14.2.2.1.1 Zfq32 (v2_32 + 1) Pg rfl rfl p_15 hyq_23 hoq_23 ⟨by omega, by omega⟩ hzq2) ci_X12_behindEnds qm_X12_396 ⟨Nat.le_of_ble_eq_true rfl, Nat.le_of_ble_eq_true rfl⟩ ⟨Nat.le_of_ble_eq_true rfl, Nat.le_of_ble_eq_true rfl⟩ [5, 6, 4] [0, 1, 2, 3, 7] rfl rfl rfl rfl rfl (dj rfl) 0 rfl rfl rfl hl.1 rfl (Nat.le_of_ble_eq_true rfl) dX12_lives_177 (fun u_35 H locs hφ hP hD hS => ?_)
                        obtain ⟨p_36, p_37, p_38, p_39⟩ : (0 ≤ u_35.1 ∧ u_35.1 ≤ 60) ∧ (∀ (L9 : LS_) (d9 s9 m9 w9 t9 o9 : Int), Rc (yS (eR u_14.2.2.1.1) Pg) ((v2_32 + 1), L9, rQ Zfq32, d9, s9, m9, w9, t9, o9, 0) (u_35.1, L9, rQ u_35.2.2.1, d9, s9, m9, w9, t9, o9, 0)) ∧ (u_35.1 < Pg.1 → ¬ Pg.2.1 u_35.1 = 23) ∧ (okZ u_35.2.2.1) := hφ
                        refine W.eq (g2 := F0 m 180 ls [.int (iZ u_35.1)]) rfl ?_
                        refine lv_istore_n (lv' := [(2, .int (iZ u_35.1)), (3, .int (iZ (520 + (6 * v2_32)))), (0, .ref hm), (1, .int (iZ x))]) hx hb dX12_lives_180 rfl hl (bl rfl) rfl (fun ls hl => ?_)
                        refine lv_goto (tgt := 32) hx hb dX12_lives_181 rfl ?_
                        have s8 := hrc.st
                        rw [hr4, yS_w (by omega) (by omega) (by omega), ← eR_fr hM hF32] at s8
                        have d9 := p_19
                        have r90 := gz_up hf_27 ⟨by omega, by omega⟩ ⟨by omega, by omega⟩ (j := 0) (by omega)
                        have r91 := gz_up hf_27 ⟨by omega, by omega⟩ ⟨by omega, by omega⟩ (j := 1) (by omega)
                        have r92 := gz_up hf_27 ⟨by omega, by omega⟩ ⟨by omega, by omega⟩ (j := 2) (by omega)
                        have r93 := gz_up hf_27 ⟨by omega, by omega⟩ ⟨by omega, by omega⟩ (j := 3) (by omega)
                        have r94 := gz_up hf_27 ⟨by omega, by omega⟩ ⟨by omega, by omega⟩ (j := 4) (by omega)
                        rw [if_neg (by omega)] at r91
                        rw [if_neg (by omega)] at r92
                        rw [if_neg (by omega)] at r93
                        rw [if_neg (by omega)] at r94
                        rw [if_pos rfl] at r90
                        have n9 := p_20
                        have hr4x : gz f_27 4 = 0 := (by omega)
                        have d8 := (d9.resolve_right (fun z9 => z9.1 (by have h9 := hrow (); omega))).2 (rQ Zfq32) (Mrsq32 + 1) (gz Rfq32 0)
                        rw [d8] at s8
                        exact ih32  u_35.1 u_14.1.2 (Mrsq32 + 1) u_14.2.2.1.1 Kfq32 Lfq32 Bfq32 Hfq32 u_35.2.2.1 f_27 _ _ _ (by omega) (show (0 ≤ u_35.1 ∧ u_35.1 ≤ (60) + 1) from ⟨by omega, by omega⟩) (show 0 ≤ (Mrsq32 + 1) ∧ (Mrsq32 + 1) ≤ 200 from ⟨by omega, by omega⟩) (show 0 ≤ u_14.1.2 ∧ u_14.1.2 ≤ 65535 from ⟨by omega, by omega⟩) (show rgI Hfq32 0 1000000 120 from rgh2) (show Rc (yS (eR Af) Pg) (0, rL Af, rQ Zf, x, 0, 0, 0, 0, 0, 0) (u_35.1, rL u_14.2.2.1.1, rQ u_35.2.2.1, u_14.1.2, (Mrsq32 + 1), gz f_27 0, gz f_27 1, gz f_27 2, gz f_27 3, gz f_27 4) from (by rw [hr4x]; have b9 := p_37 (rL u_14.2.2.1.1) u_14.1.2 (Mrsq32 + 1) (gz f_27 0) (gz f_27 1) (gz f_27 2) (gz f_27 3); rw [eR_fr hM (FR.tr p_16 hF32)] at b9; rw [eR_fr hM hF32] at s8; exact Rc.tr (Rc_eq s8 (rs_eq rfl rfl rfl rfl rfl (by omega) (by omega) (by omega) (by omega) rfl)) b9)) (show gz f_27 4 = 0 from hr4x) (show u_35.1 < Pg.1 → ¬ Pg.2.1 u_35.1 = 23 from p_38) (show okZ u_35.2.2.1 from p_39) (show ∀ j : Int, 0 ≤ j → j < 5 → 0 ≤ gz f_27 j ∧ gz f_27 j ≤ 101 * (Mrsq32 + 1) from (fun j a b => by have q1 := hrb j a b; have q2 := p_21 j a b; have q3 := gz_up hf_27 ⟨by omega, by omega⟩ ⟨by omega, by omega⟩ (j := j) a; by_cases c : j = 0; rw [if_pos c] at q3; rw [c] at q1 q2 q3 ⊢; omega; rw [if_neg c] at q3; omega)) (show yRM u_14.2.2.1.1 0 Pg from hyq_23) (show okR (gz u_14.2.2.1.1 0) Pg from hoq_23) (show M0 u_14.2.2.1.1 from p_15) (show FR u_14.2.2.1.1 Af from (FR.tr p_16 hF32)) (hP.sub [5, 6, 0, 1, 2, 3, 7, 4] rfl) (hD.sub [5, 6, 0, 1, 2, 3, 7, 4] rfl rfl) hS (lv_sub hl [0, 2, 3] rfl)
                      ·
                        have c_33 := mt (zlt (x := iZ (gz u_14.2.2.1.1 (520 + (6 * v2_32)))) (y := iZ 1900) rfl rfl (gz_rg u_14.2.2.1.1 (520 + (6 * v2_32))) wn_1900).mpr c_33
                        refine lv_aload_n hx hb dX12_lives_153 rfl (lv_at hl 2 rfl) ?_
                        refine lv_iload_n hx hb dX12_lives_154 rfl (lv_at hl 0 rfl) ?_
                        refine CWV (As := [.int (iZ (520 + (6 * v2_32)))]) (rest := [.ref hm]) (wc := _) (wr := [(Mz, .inl (k 1, 80, .inl Zfq32)), (Mr, .inl (k 1, 5, .inl f_27))]) hx hb hml hown hts hKK hP hD hS hA (r_holds l D k hm Ma Mn Ms My Mt Mp Mx Mo Mk Ml Mb Mh Mc Mz Mr Mq Mst Mtd Msz Mtk Mfr Men Mva Mfk Mfp Mfs Mse Mlt Mdp Mct u_14.1.2 (Mrsq32 + 1) Mit Mmk Mtp Mbt u_14.2.2.1.1 Kfq32 Lfq32 Bfq32 Hfq32 (520 + (6 * v2_32)) v2_32 Pg p_15 rfl hyq_23 hoq_23 ⟨by omega, by omega⟩ rgh2 (by have h9 := hrow (); omega)) ci_X12_holds qm_X12_393 ⟨Nat.le_of_ble_eq_true rfl, Nat.le_of_ble_eq_true rfl⟩ ⟨Nat.le_of_ble_eq_true rfl, Nat.le_of_ble_eq_true rfl⟩ [5, 6, 0, 1, 2, 3] [4, 7] rfl rfl rfl rfl rfl (dj rfl) 0 rfl rfl rfl hl.1 rfl (Nat.le_of_ble_eq_true rfl) dX12_lives_155 (fun u_40 H locs hφ hP hD hS => ?_)
                        obtain ⟨p_41, p_42, p_43⟩ : (rgI u_40.2.2.1.2.2.2 0 1000000 120) ∧ (u_40.1 = 0 ∨ u_40.1 = 1) ∧ (u_40.1 = hoZ (eR u_14.2.2.1.1) (rL u_14.2.2.1.1) (Pg.2.2.1 v2_32) (Pg.2.2.2.1 v2_32) (Pg.2.2.2.2.1 v2_32)) := hφ
                        refine W.eq (g2 := F0 m 158 ls [.int (iZ u_40.1), .ref hm]) rfl ?_
                        rcases (show (u_40.1 = 0) ∨ (u_40.1 = 1) from (by omega)) with s_44 | s_44
                        ·
                          rw [s_44]
                          refine lv_if_ne (tgt := 174) hx hb dX12_lives_158 rfl (fun c => absurd (by decide) c) (fun _ => ?_)
                          have hst := mSm_22 v2_32 (by omega) (by omega)
                          refine lv_aload_n hx hb dX12_lives_161 rfl (lv_at hl 2 rfl) ?_
                          refine va_get (D := D) (ci := 12) (v := .ref Ma) (C := RX12) (T := TX12) (N := 36) hx hb hts iX12 hown hK hP 2 rfl rfl 0 (bl rfl) (hts _ qf_X12_7) (fun _ h => h) rfl dX12_lives_162 ?_
                          refine lv_iload_n hx hb dX12_lives_165 rfl (lv_at hl 0 rfl) ?_
                          refine lv_iconst (v := iZ 4) hx hb dX12_lives_166 rfl ?_
                          refine lv_iadd hx hb dX12_lives_167 ?_
                          refine lv_topi (fun x_46 ex_46 => ?_)
                          obtain rfl : x_46 = iZ ((520 + (6 * v2_32)) + 4) := ex_46.trans (iZ_add (520 + (6 * v2_32)) 4)
                          refine va_iald hx hb hK hP 3 1 rfl rfl (zin (e := ((520 + (6 * v2_32)) + 4)) (n := 5340) ⟨by omega, by omega⟩ (bl rfl)) dX12_lives_168 ?_
                          refine lv_topi (fun x_47 ex_47 => ?_)
                          obtain rfl : x_47 = iZ (gz u_14.2.2.1.1 ((520 + (6 * v2_32)) + 4)) := ex_47.trans (gz_eq ⟨by omega, by omega⟩)
                          have h_48 := gz_rg u_14.2.2.1.1 ((520 + (6 * v2_32)) + 4)
                          refine lv_iconst (v := iZ 1) hx hb dX12_lives_169 rfl ?_
                          refine lv_iadd hx hb dX12_lives_170 ?_
                          refine lv_topi (fun x_49 ex_49 => ?_)
                          obtain rfl : x_49 = iZ ((gz u_14.2.2.1.1 ((520 + (6 * v2_32)) + 4)) + 1) := ex_49.trans (iZ_add (gz u_14.2.2.1.1 ((520 + (6 * v2_32)) + 4)) 1)
                          refine lv_goto (tgt := 177) hx hb dX12_lives_171 rfl ?_
                          refine CWV (As := [.int (iZ ((gz u_14.2.2.1.1 ((520 + (6 * v2_32)) + 4)) + 1))]) (rest := []) (wc := _) (wr := [(Mr, .inl (k 1, 5, .inl f_27)), (Mk, .inl (k 1, 6, .inl u_40.2.2.1.1)), (Ml, .inl (k 1, 6, .inl u_40.2.2.1.2.1)), (Mb, .inl (k 1, 6, .inl u_40.2.2.1.2.2.1)), (Mh, .inl (k 1, 120, .inl u_40.2.2.1.2.2.2))]) hx hb hml hown hts hKK hP hD hS hA (r_behindEnds l D k ([.ref Ma, .ref Mn, .int (iZ Mst), .long Mtp, .long Mbt, .ref Ms, .ref My, .ref Mt, .ref Mp, .ref Mx, .int (iZ Mtd), .int (iZ Msz), .int (iZ Mtk), .int (iZ Mfr), .int (iZ Men), .int (iZ Mva), .int (iZ Mfk), .int (iZ Mfp), .int (iZ Mfs), .int (iZ Mse), .int (iZ Mlt), .ref Mo, .int (iZ Mdp), .int (iZ Mct), .ref Mk, .ref Ml, .ref Mb, .ref Mh, .ref Mc, .int (iZ u_14.1.2), .int (iZ (Mrsq32 + 1)), .ref Mz, .ref Mr, .ref Mq, .int (iZ Mit), .int (iZ Mmk)]) hm Ma Mz u_14.2.2.1.1 Zfq32 ((gz u_14.2.2.1.1 ((520 + (6 * v2_32)) + 4)) + 1) Pg rfl rfl p_15 hyq_23 hoq_23 ⟨by omega, by omega⟩ hzq2) ci_X12_behindEnds qm_X12_396 ⟨Nat.le_of_ble_eq_true rfl, Nat.le_of_ble_eq_true rfl⟩ ⟨Nat.le_of_ble_eq_true rfl, Nat.le_of_ble_eq_true rfl⟩ [2, 3, 0] [1, 4, 5, 6, 7] rfl rfl rfl rfl rfl (dj rfl) 0 rfl rfl rfl hl.1 rfl (Nat.le_of_ble_eq_true rfl) dX12_lives_177 (fun u_50 H locs hφ hP hD hS => ?_)
                          obtain ⟨p_51, p_52, p_53, p_54⟩ : (0 ≤ u_50.1 ∧ u_50.1 ≤ 60) ∧ (∀ (L9 : LS_) (d9 s9 m9 w9 t9 o9 : Int), Rc (yS (eR u_14.2.2.1.1) Pg) (((gz u_14.2.2.1.1 ((520 + (6 * v2_32)) + 4)) + 1), L9, rQ Zfq32, d9, s9, m9, w9, t9, o9, 0) (u_50.1, L9, rQ u_50.2.2.1, d9, s9, m9, w9, t9, o9, 0)) ∧ (u_50.1 < Pg.1 → ¬ Pg.2.1 u_50.1 = 23) ∧ (okZ u_50.2.2.1) := hφ
                          refine W.eq (g2 := F0 m 180 ls [.int (iZ u_50.1)]) rfl ?_
                          refine lv_istore_n (lv' := [(2, .int (iZ u_50.1)), (3, .int (iZ (520 + (6 * v2_32)))), (0, .ref hm), (1, .int (iZ x))]) hx hb dX12_lives_180 rfl hl (bl rfl) rfl (fun ls hl => ?_)
                          refine lv_goto (tgt := 32) hx hb dX12_lives_181 rfl ?_
                          have s8 := hrc.st
                          rw [hr4, yS_w (by omega) (by omega) (by omega), ← eR_fr hM hF32] at s8
                          have d9 := p_19
                          have r90 := gz_up hf_27 ⟨by omega, by omega⟩ ⟨by omega, by omega⟩ (j := 0) (by omega)
                          have r91 := gz_up hf_27 ⟨by omega, by omega⟩ ⟨by omega, by omega⟩ (j := 1) (by omega)
                          have r92 := gz_up hf_27 ⟨by omega, by omega⟩ ⟨by omega, by omega⟩ (j := 2) (by omega)
                          have r93 := gz_up hf_27 ⟨by omega, by omega⟩ ⟨by omega, by omega⟩ (j := 3) (by omega)
                          have r94 := gz_up hf_27 ⟨by omega, by omega⟩ ⟨by omega, by omega⟩ (j := 4) (by omega)
                          rw [if_neg (by omega)] at r91
                          rw [if_neg (by omega)] at r92
                          rw [if_neg (by omega)] at r93
                          rw [if_neg (by omega)] at r94
                          rw [if_pos rfl] at r90
                          have n9 := p_20
                          have hr4x : gz f_27 4 = 0 := (by omega)
                          have d8 := (d9.resolve_left (fun z9 => absurd z9.1 (by have h9 := hrow (); omega))).2
                          have hz8 := p_43
                          rw [d8.1, eR_fr hM hF32] at hz8
                          rw [eR_fr hM hF32, li_19 (j := ((gz u_14.2.2.1.1 ((520 + (6 * v2_32)) + 4)) + 1)) (by have h9 := hrow (); omega) hz8 (by have h9 := hrow (); omega)] at s8
                          exact ih32  u_50.1 u_14.1.2 (Mrsq32 + 1) u_14.2.2.1.1 u_40.2.2.1.1 u_40.2.2.1.2.1 u_40.2.2.1.2.2.1 u_40.2.2.1.2.2.2 u_50.2.2.1 f_27 _ _ _ (by omega) (show (0 ≤ u_50.1 ∧ u_50.1 ≤ (60) + 1) from ⟨by omega, by omega⟩) (show 0 ≤ (Mrsq32 + 1) ∧ (Mrsq32 + 1) ≤ 200 from ⟨by omega, by omega⟩) (show 0 ≤ u_14.1.2 ∧ u_14.1.2 ≤ 65535 from ⟨by omega, by omega⟩) (show rgI u_40.2.2.1.2.2.2 0 1000000 120 from p_41) (show Rc (yS (eR Af) Pg) (0, rL Af, rQ Zf, x, 0, 0, 0, 0, 0, 0) (u_50.1, rL u_14.2.2.1.1, rQ u_50.2.2.1, u_14.1.2, (Mrsq32 + 1), gz f_27 0, gz f_27 1, gz f_27 2, gz f_27 3, gz f_27 4) from (by rw [hr4x]; have b9 := p_52 (rL u_14.2.2.1.1) u_14.1.2 (Mrsq32 + 1) (gz f_27 0) (gz f_27 1) (gz f_27 2) (gz f_27 3); rw [eR_fr hM (FR.tr p_16 hF32)] at b9; exact Rc.tr (Rc_eq s8 (rs_eq rfl (by rw [d8.1]) rfl d8.2.1.symm rfl (by omega) (by omega) (by omega) (by omega) rfl)) b9)) (show gz f_27 4 = 0 from hr4x) (show u_50.1 < Pg.1 → ¬ Pg.2.1 u_50.1 = 23 from p_53) (show okZ u_50.2.2.1 from p_54) (show ∀ j : Int, 0 ≤ j → j < 5 → 0 ≤ gz f_27 j ∧ gz f_27 j ≤ 101 * (Mrsq32 + 1) from (fun j a b => by have q1 := hrb j a b; have q2 := p_21 j a b; have q3 := gz_up hf_27 ⟨by omega, by omega⟩ ⟨by omega, by omega⟩ (j := j) a; by_cases c : j = 0; rw [if_pos c] at q3; rw [c] at q1 q2 q3 ⊢; omega; rw [if_neg c] at q3; omega)) (show yRM u_14.2.2.1.1 0 Pg from hyq_23) (show okR (gz u_14.2.2.1.1 0) Pg from hoq_23) (show M0 u_14.2.2.1.1 from p_15) (show FR u_14.2.2.1.1 Af from (FR.tr p_16 hF32)) (hP.sub [5, 6, 1, 2, 3, 4, 7, 0] rfl) (hD.sub [5, 6, 1, 2, 3, 4, 7, 0] rfl rfl) hS (lv_sub hl [0, 2, 3] rfl)
                        ·
                          rw [s_44]
                          refine lv_if_ne (tgt := 174) hx hb dX12_lives_158 rfl (fun _ => ?_) (fun c => absurd c (by decide))
                          refine lv_iload_n hx hb dX12_lives_174 rfl (lv_at hl 1 rfl) ?_
                          refine lv_iconst (v := iZ 1) hx hb dX12_lives_175 rfl ?_
                          refine lv_iadd hx hb dX12_lives_176 ?_
                          refine lv_topi (fun x_56 ex_56 => ?_)
                          obtain rfl : x_56 = iZ (v2_32 + 1) := ex_56.trans (iZ_add v2_32 1)
                          refine CWV (As := [.int (iZ (v2_32 + 1))]) (rest := []) (wc := _) (wr := [(Mr, .inl (k 1, 5, .inl f_27)), (Mk, .inl (k 1, 6, .inl u_40.2.2.1.1)), (Ml, .inl (k 1, 6, .inl u_40.2.2.1.2.1)), (Mb, .inl (k 1, 6, .inl u_40.2.2.1.2.2.1)), (Mh, .inl (k 1, 120, .inl u_40.2.2.1.2.2.2))]) hx hb hml hown hts hKK hP hD hS hA (r_behindEnds l D k ([.ref Ma, .ref Mn, .int (iZ Mst), .long Mtp, .long Mbt, .ref Ms, .ref My, .ref Mt, .ref Mp, .ref Mx, .int (iZ Mtd), .int (iZ Msz), .int (iZ Mtk), .int (iZ Mfr), .int (iZ Men), .int (iZ Mva), .int (iZ Mfk), .int (iZ Mfp), .int (iZ Mfs), .int (iZ Mse), .int (iZ Mlt), .ref Mo, .int (iZ Mdp), .int (iZ Mct), .ref Mk, .ref Ml, .ref Mb, .ref Mh, .ref Mc, .int (iZ u_14.1.2), .int (iZ (Mrsq32 + 1)), .ref Mz, .ref Mr, .ref Mq, .int (iZ Mit), .int (iZ Mmk)]) hm Ma Mz u_14.2.2.1.1 Zfq32 (v2_32 + 1) Pg rfl rfl p_15 hyq_23 hoq_23 ⟨by omega, by omega⟩ hzq2) ci_X12_behindEnds qm_X12_396 ⟨Nat.le_of_ble_eq_true rfl, Nat.le_of_ble_eq_true rfl⟩ ⟨Nat.le_of_ble_eq_true rfl, Nat.le_of_ble_eq_true rfl⟩ [2, 3, 0] [1, 4, 5, 6, 7] rfl rfl rfl rfl rfl (dj rfl) 0 rfl rfl rfl hl.1 rfl (Nat.le_of_ble_eq_true rfl) dX12_lives_177 (fun u_57 H locs hφ hP hD hS => ?_)
                          obtain ⟨p_58, p_59, p_60, p_61⟩ : (0 ≤ u_57.1 ∧ u_57.1 ≤ 60) ∧ (∀ (L9 : LS_) (d9 s9 m9 w9 t9 o9 : Int), Rc (yS (eR u_14.2.2.1.1) Pg) ((v2_32 + 1), L9, rQ Zfq32, d9, s9, m9, w9, t9, o9, 0) (u_57.1, L9, rQ u_57.2.2.1, d9, s9, m9, w9, t9, o9, 0)) ∧ (u_57.1 < Pg.1 → ¬ Pg.2.1 u_57.1 = 23) ∧ (okZ u_57.2.2.1) := hφ
                          refine W.eq (g2 := F0 m 180 ls [.int (iZ u_57.1)]) rfl ?_
                          refine lv_istore_n (lv' := [(2, .int (iZ u_57.1)), (3, .int (iZ (520 + (6 * v2_32)))), (0, .ref hm), (1, .int (iZ x))]) hx hb dX12_lives_180 rfl hl (bl rfl) rfl (fun ls hl => ?_)
                          refine lv_goto (tgt := 32) hx hb dX12_lives_181 rfl ?_
                          have s8 := hrc.st
                          rw [hr4, yS_w (by omega) (by omega) (by omega), ← eR_fr hM hF32] at s8
                          have d9 := p_19
                          have r90 := gz_up hf_27 ⟨by omega, by omega⟩ ⟨by omega, by omega⟩ (j := 0) (by omega)
                          have r91 := gz_up hf_27 ⟨by omega, by omega⟩ ⟨by omega, by omega⟩ (j := 1) (by omega)
                          have r92 := gz_up hf_27 ⟨by omega, by omega⟩ ⟨by omega, by omega⟩ (j := 2) (by omega)
                          have r93 := gz_up hf_27 ⟨by omega, by omega⟩ ⟨by omega, by omega⟩ (j := 3) (by omega)
                          have r94 := gz_up hf_27 ⟨by omega, by omega⟩ ⟨by omega, by omega⟩ (j := 4) (by omega)
                          rw [if_neg (by omega)] at r91
                          rw [if_neg (by omega)] at r92
                          rw [if_neg (by omega)] at r93
                          rw [if_neg (by omega)] at r94
                          rw [if_pos rfl] at r90
                          have n9 := p_20
                          have hr4x : gz f_27 4 = 0 := (by omega)
                          have d8 := (d9.resolve_left (fun z9 => absurd z9.1 (by have h9 := hrow (); omega))).2
                          have hz8 := p_43
                          rw [d8.1, eR_fr hM hF32] at hz8
                          rw [eR_fr hM hF32, li_19 (j := (v2_32 + 1)) (by have h9 := hrow (); omega) hz8 (by have h9 := hrow (); omega)] at s8
                          exact ih32  u_57.1 u_14.1.2 (Mrsq32 + 1) u_14.2.2.1.1 u_40.2.2.1.1 u_40.2.2.1.2.1 u_40.2.2.1.2.2.1 u_40.2.2.1.2.2.2 u_57.2.2.1 f_27 _ _ _ (by omega) (show (0 ≤ u_57.1 ∧ u_57.1 ≤ (60) + 1) from ⟨by omega, by omega⟩) (show 0 ≤ (Mrsq32 + 1) ∧ (Mrsq32 + 1) ≤ 200 from ⟨by omega, by omega⟩) (show 0 ≤ u_14.1.2 ∧ u_14.1.2 ≤ 65535 from ⟨by omega, by omega⟩) (show rgI u_40.2.2.1.2.2.2 0 1000000 120 from p_41) (show Rc (yS (eR Af) Pg) (0, rL Af, rQ Zf, x, 0, 0, 0, 0, 0, 0) (u_57.1, rL u_14.2.2.1.1, rQ u_57.2.2.1, u_14.1.2, (Mrsq32 + 1), gz f_27 0, gz f_27 1, gz f_27 2, gz f_27 3, gz f_27 4) from (by rw [hr4x]; have b9 := p_59 (rL u_14.2.2.1.1) u_14.1.2 (Mrsq32 + 1) (gz f_27 0) (gz f_27 1) (gz f_27 2) (gz f_27 3); rw [eR_fr hM (FR.tr p_16 hF32)] at b9; exact Rc.tr (Rc_eq s8 (rs_eq rfl (by rw [d8.1]) rfl d8.2.1.symm rfl (by omega) (by omega) (by omega) (by omega) rfl)) b9)) (show gz f_27 4 = 0 from hr4x) (show u_57.1 < Pg.1 → ¬ Pg.2.1 u_57.1 = 23 from p_60) (show okZ u_57.2.2.1 from p_61) (show ∀ j : Int, 0 ≤ j → j < 5 → 0 ≤ gz f_27 j ∧ gz f_27 j ≤ 101 * (Mrsq32 + 1) from (fun j a b => by have q1 := hrb j a b; have q2 := p_21 j a b; have q3 := gz_up hf_27 ⟨by omega, by omega⟩ ⟨by omega, by omega⟩ (j := j) a; by_cases c : j = 0; rw [if_pos c] at q3; rw [c] at q1 q2 q3 ⊢; omega; rw [if_neg c] at q3; omega)) (show yRM u_14.2.2.1.1 0 Pg from hyq_23) (show okR (gz u_14.2.2.1.1 0) Pg from hoq_23) (show M0 u_14.2.2.1.1 from p_15) (show FR u_14.2.2.1.1 Af from (FR.tr p_16 hF32)) (hP.sub [5, 6, 1, 2, 3, 4, 7, 0] rfl) (hD.sub [5, 6, 1, 2, 3, 4, 7, 0] rfl rfl) hS (lv_sub hl [0, 2, 3] rfl)
                    ·
                      have c_30 := (zeq (x := iZ (gz u_14.2.2.1.1 (520 + (6 * v2_32)))) (y := iZ 20) rfl rfl (gz_rg u_14.2.2.1.1 (520 + (6 * v2_32))) wn_20).mp c_30
                      have d9w := (p_19).imp (fun q9 => q9.1) (fun q9 => q9.2.2.2.2.2.2)
                      obtain ⟨-, ⟨hn15, -⟩, -, -⟩ := hoq.2.2 v2_32 (by omega) (by omega)
                      refine lv_aload_n hx hb dX12_lives_124 rfl (lv_at hl 2 rfl) ?_
                      refine va_get (D := D) (ci := 12) (v := .ref Mz) (C := RX12) (T := TX12) (N := 36) hx hb hts iX12 hown hK hP 5 rfl rfl 31 (bl rfl) (hts _ qf_X12_62) (fun _ h => h) rfl dX12_lives_125 ?_
                      refine lv_iload_n hx hb dX12_lives_128 rfl (lv_at hl 1 rfl) ?_
                      refine lv_aload_n hx hb dX12_lives_129 rfl (lv_at hl 2 rfl) ?_
                      refine va_get (D := D) (ci := 12) (v := .ref Ma) (C := RX12) (T := TX12) (N := 36) hx hb hts iX12 hown hK hP 5 rfl rfl 0 (bl rfl) (hts _ qf_X12_7) (fun _ h => h) rfl dX12_lives_130 ?_
                      refine lv_iload_n hx hb dX12_lives_133 rfl (lv_at hl 0 rfl) ?_
                      refine lv_iconst (v := iZ 1) hx hb dX12_lives_134 rfl ?_
                      refine lv_iadd hx hb dX12_lives_135 ?_
                      refine lv_topi (fun x_62 ex_62 => ?_)
                      obtain rfl : x_62 = iZ ((520 + (6 * v2_32)) + 1) := ex_62.trans (iZ_add (520 + (6 * v2_32)) 1)
                      refine va_iald hx hb hK hP 6 1 rfl rfl (zin (e := ((520 + (6 * v2_32)) + 1)) (n := 5340) ⟨by omega, by omega⟩ (bl rfl)) dX12_lives_136 ?_
                      refine lv_topi (fun x_63 ex_63 => ?_)
                      obtain rfl : x_63 = iZ (gz u_14.2.2.1.1 ((520 + (6 * v2_32)) + 1)) := ex_63.trans (gz_eq ⟨by omega, by omega⟩)
                      have h_64 := gz_rg u_14.2.2.1.1 ((520 + (6 * v2_32)) + 1)
                      refine lv_iconst (v := iZ 1) hx hb dX12_lives_137 rfl ?_
                      refine lv_isub hx hb dX12_lives_138 ?_
                      refine lv_topi (fun x_65 ex_65 => ?_)
                      obtain rfl : x_65 = iZ ((gz u_14.2.2.1.1 ((520 + (6 * v2_32)) + 1)) - 1) := ex_65.trans (iZ_sub (gz u_14.2.2.1.1 ((520 + (6 * v2_32)) + 1)) 1)
                      refine va_iast hx hb hK hP hD hS 4 1 rfl rfl (zin (e := v2_32) (n := 80) ⟨by omega, by omega⟩ (bl rfl)) dX12_lives_139 (fun H locs hP hD hS => ?_)
                      obtain ⟨f_66, hf_66⟩ : ∃ gg9, gg9 = upd Zfq32 (iZ v2_32).toNatClampNeg (iZ ((gz u_14.2.2.1.1 ((520 + (6 * v2_32)) + 1)) - 1)) := ⟨_, rfl⟩
                      rw [← hf_66] at hP hD
                      have hzL_67 := okZ.up hzq2 ⟨by omega, by omega⟩ hf_66 ⟨by have h9 := hrow (); omega, by have h9 := hrow (); omega⟩
                      refine lv_aload_n hx hb dX12_lives_140 rfl (lv_at hl 2 rfl) ?_
                      refine lv_aload_n hx hb dX12_lives_141 rfl (lv_at hl 2 rfl) ?_
                      refine va_get (D := D) (ci := 12) (v := .ref Ma) (C := RX12) (T := TX12) (N := 36) hx hb hts iX12 hown hK hP 5 rfl rfl 0 (bl rfl) (hts _ qf_X12_7) (fun _ h => h) rfl dX12_lives_142 ?_
                      refine lv_iload_n hx hb dX12_lives_145 rfl (lv_at hl 0 rfl) ?_
                      refine va_iald hx hb hK hP 6 1 rfl rfl (zin (e := (520 + (6 * v2_32))) (n := 5340) ⟨by omega, by omega⟩ (bl rfl)) dX12_lives_146 ?_
                      refine lv_topi (fun x_68 ex_68 => ?_)
                      obtain rfl : x_68 = iZ (gz u_14.2.2.1.1 (520 + (6 * v2_32))) := ex_68.trans (gz_eq ⟨by omega, by omega⟩)
                      have h_69 := gz_rg u_14.2.2.1.1 (520 + (6 * v2_32))
                      refine lv_sipush (v := iZ 1900) hx hb dX12_lives_147 sip_1900 ?_
                      refine lv_icmp_lt (tgt := 174) hx hb dX12_lives_150 rfl (fun c_70 => ?_) (fun c_70 => ?_)
                      ·
                        have c_70 := (zlt (x := iZ (gz u_14.2.2.1.1 (520 + (6 * v2_32)))) (y := iZ 1900) rfl rfl (gz_rg u_14.2.2.1.1 (520 + (6 * v2_32))) wn_1900).mp c_70
                        refine lv_iload_n hx hb dX12_lives_174 rfl (lv_at hl 1 rfl) ?_
                        refine lv_iconst (v := iZ 1) hx hb dX12_lives_175 rfl ?_
                        refine lv_iadd hx hb dX12_lives_176 ?_
                        refine lv_topi (fun x_71 ex_71 => ?_)
                        obtain rfl : x_71 = iZ (v2_32 + 1) := ex_71.trans (iZ_add v2_32 1)
                        refine CWV (As := [.int (iZ (v2_32 + 1))]) (rest := []) (wc := _) (wr := [(Mk, .inl (k 1, 6, .inl Kfq32)), (Ml, .inl (k 1, 6, .inl Lfq32)), (Mb, .inl (k 1, 6, .inl Bfq32)), (Mh, .inl (k 1, 120, .inl Hfq32)), (Mr, .inl (k 1, 5, .inl f_27))]) hx hb hml hown hts hKK hP hD hS hA (r_behindEnds l D k ([.ref Ma, .ref Mn, .int (iZ Mst), .long Mtp, .long Mbt, .ref Ms, .ref My, .ref Mt, .ref Mp, .ref Mx, .int (iZ Mtd), .int (iZ Msz), .int (iZ Mtk), .int (iZ Mfr), .int (iZ Men), .int (iZ Mva), .int (iZ Mfk), .int (iZ Mfp), .int (iZ Mfs), .int (iZ Mse), .int (iZ Mlt), .ref Mo, .int (iZ Mdp), .int (iZ Mct), .ref Mk, .ref Ml, .ref Mb, .ref Mh, .ref Mc, .int (iZ u_14.1.2), .int (iZ (Mrsq32 + 1)), .ref Mz, .ref Mr, .ref Mq, .int (iZ Mit), .int (iZ Mmk)]) hm Ma Mz u_14.2.2.1.1 f_66 (v2_32 + 1) Pg rfl rfl p_15 hyq_23 hoq_23 ⟨by omega, by omega⟩ hzL_67) ci_X12_behindEnds qm_X12_396 ⟨Nat.le_of_ble_eq_true rfl, Nat.le_of_ble_eq_true rfl⟩ ⟨Nat.le_of_ble_eq_true rfl, Nat.le_of_ble_eq_true rfl⟩ [5, 6, 4] [0, 1, 2, 3, 7] rfl rfl rfl rfl rfl (dj rfl) 0 rfl rfl rfl hl.1 rfl (Nat.le_of_ble_eq_true rfl) dX12_lives_177 (fun u_72 H locs hφ hP hD hS => ?_)
                        obtain ⟨p_73, p_74, p_75, p_76⟩ : (0 ≤ u_72.1 ∧ u_72.1 ≤ 60) ∧ (∀ (L9 : LS_) (d9 s9 m9 w9 t9 o9 : Int), Rc (yS (eR u_14.2.2.1.1) Pg) ((v2_32 + 1), L9, rQ f_66, d9, s9, m9, w9, t9, o9, 0) (u_72.1, L9, rQ u_72.2.2.1, d9, s9, m9, w9, t9, o9, 0)) ∧ (u_72.1 < Pg.1 → ¬ Pg.2.1 u_72.1 = 23) ∧ (okZ u_72.2.2.1) := hφ
                        refine W.eq (g2 := F0 m 180 ls [.int (iZ u_72.1)]) rfl ?_
                        refine lv_istore_n (lv' := [(2, .int (iZ u_72.1)), (3, .int (iZ (520 + (6 * v2_32)))), (0, .ref hm), (1, .int (iZ x))]) hx hb dX12_lives_180 rfl hl (bl rfl) rfl (fun ls hl => ?_)
                        refine lv_goto (tgt := 32) hx hb dX12_lives_181 rfl ?_
                        have s8 := hrc.st
                        rw [hr4, yS_w (by omega) (by omega) (by omega), ← eR_fr hM hF32] at s8
                        have d9 := p_19
                        have r90 := gz_up hf_27 ⟨by omega, by omega⟩ ⟨by omega, by omega⟩ (j := 0) (by omega)
                        have r91 := gz_up hf_27 ⟨by omega, by omega⟩ ⟨by omega, by omega⟩ (j := 1) (by omega)
                        have r92 := gz_up hf_27 ⟨by omega, by omega⟩ ⟨by omega, by omega⟩ (j := 2) (by omega)
                        have r93 := gz_up hf_27 ⟨by omega, by omega⟩ ⟨by omega, by omega⟩ (j := 3) (by omega)
                        have r94 := gz_up hf_27 ⟨by omega, by omega⟩ ⟨by omega, by omega⟩ (j := 4) (by omega)
                        rw [if_neg (by omega)] at r91
                        rw [if_neg (by omega)] at r92
                        rw [if_neg (by omega)] at r93
                        rw [if_neg (by omega)] at r94
                        rw [if_pos rfl] at r90
                        have n9 := p_20
                        have hr4x : gz f_27 4 = 0 := (by omega)
                        have d8 := (d9.resolve_left (fun z9 => absurd z9.1 (by have h9 := hrow (); omega))).2
                        rw [li_22 (q2 := rQ f_66) (by have h9 := hrow (); omega) (by rw [rQ_up (v := ((gz u_14.2.2.1.1 ((520 + (6 * v2_32)) + 1)) - 1)) ⟨by omega, by omega⟩ hf_66 ⟨by have h9 := hrow (); omega, by have h9 := hrow (); omega⟩, show ((gz u_14.2.2.1.1 ((520 + (6 * v2_32)) + 1)) - 1) = Pg.2.2.1 v2_32 - 1 from by have h9 := hrow (); omega])] at s8
                        exact ih32  u_72.1 u_14.1.2 (Mrsq32 + 1) u_14.2.2.1.1 Kfq32 Lfq32 Bfq32 Hfq32 u_72.2.2.1 f_27 _ _ _ (by omega) (show (0 ≤ u_72.1 ∧ u_72.1 ≤ (60) + 1) from ⟨by omega, by omega⟩) (show 0 ≤ (Mrsq32 + 1) ∧ (Mrsq32 + 1) ≤ 200 from ⟨by omega, by omega⟩) (show 0 ≤ u_14.1.2 ∧ u_14.1.2 ≤ 65535 from ⟨by omega, by omega⟩) (show rgI Hfq32 0 1000000 120 from rgh2) (show Rc (yS (eR Af) Pg) (0, rL Af, rQ Zf, x, 0, 0, 0, 0, 0, 0) (u_72.1, rL u_14.2.2.1.1, rQ u_72.2.2.1, u_14.1.2, (Mrsq32 + 1), gz f_27 0, gz f_27 1, gz f_27 2, gz f_27 3, gz f_27 4) from (by rw [hr4x]; have b9 := p_74 (rL u_14.2.2.1.1) u_14.1.2 (Mrsq32 + 1) (gz f_27 0) (gz f_27 1) (gz f_27 2) (gz f_27 3); rw [eR_fr hM (FR.tr p_16 hF32)] at b9; rw [eR_fr hM hF32] at s8; exact Rc.tr (Rc_eq s8 (rs_eq rfl (by rw [d8.1]) rfl d8.2.1.symm rfl (by omega) (by omega) (by omega) (by omega) rfl)) b9)) (show gz f_27 4 = 0 from hr4x) (show u_72.1 < Pg.1 → ¬ Pg.2.1 u_72.1 = 23 from p_75) (show okZ u_72.2.2.1 from p_76) (show ∀ j : Int, 0 ≤ j → j < 5 → 0 ≤ gz f_27 j ∧ gz f_27 j ≤ 101 * (Mrsq32 + 1) from (fun j a b => by have q1 := hrb j a b; have q2 := p_21 j a b; have q3 := gz_up hf_27 ⟨by omega, by omega⟩ ⟨by omega, by omega⟩ (j := j) a; by_cases c : j = 0; rw [if_pos c] at q3; rw [c] at q1 q2 q3 ⊢; omega; rw [if_neg c] at q3; omega)) (show yRM u_14.2.2.1.1 0 Pg from hyq_23) (show okR (gz u_14.2.2.1.1 0) Pg from hoq_23) (show M0 u_14.2.2.1.1 from p_15) (show FR u_14.2.2.1.1 Af from (FR.tr p_16 hF32)) (hP.sub [5, 6, 0, 1, 2, 3, 7, 4] rfl) (hD.sub [5, 6, 0, 1, 2, 3, 7, 4] rfl rfl) hS (lv_sub hl [0, 2, 3] rfl)
                      ·
                        have c_70 := mt (zlt (x := iZ (gz u_14.2.2.1.1 (520 + (6 * v2_32)))) (y := iZ 1900) rfl rfl (gz_rg u_14.2.2.1.1 (520 + (6 * v2_32))) wn_1900).mpr c_70
                        exact absurd c_70 (by omega)
                  ·
                    rw [s_24]
                    refine lv_if_eq (tgt := 110) hx hb dX12_lives_103 rfl (fun c => absurd c (by decide)) (fun _ => ?_)
                    refine lv_iconst (v := iZ 0) hx hb dX12_lives_106 rfl ?_
                    refine lv_goto (tgt := 111) hx hb dX12_lives_107 rfl ?_
                    refine lv_iadd hx hb dX12_lives_111 ?_
                    refine lv_topi (fun x_78 ex_78 => ?_)
                    obtain rfl : x_78 = iZ ((gz Rfq32 0) + 0) := ex_78.trans (iZ_add (gz Rfq32 0) 0)
                    refine va_iast hx hb hK hP hD hS 7 1 rfl rfl (zin (e := 0) (n := 5) ⟨by omega, by omega⟩ (bl rfl)) dX12_lives_112 (fun H locs hP hD hS => ?_)
                    obtain ⟨f_79, hf_79⟩ : ∃ gg9, gg9 = upd u_14.2.2.1.2 (iZ 0).toNatClampNeg (iZ ((gz Rfq32 0) + 0)) := ⟨_, rfl⟩
                    rw [← hf_79] at hP hD
                    have hq20 := p_16.1 (520 + (6 * v2_32)) (by omega)
                    have hq24 := p_16.1 ((520 + (6 * v2_32)) + 4) (by omega)
                    have hq21 := p_16.1 ((520 + (6 * v2_32)) + 1) (by omega)
                    refine lv_aload_n hx hb dX12_lives_113 rfl (lv_at hl 2 rfl) ?_
                    refine va_get (D := D) (ci := 12) (v := .ref Ma) (C := RX12) (T := TX12) (N := 36) hx hb hts iX12 hown hK hP 5 rfl rfl 0 (bl rfl) (hts _ qf_X12_7) (fun _ h => h) rfl dX12_lives_114 ?_
                    refine lv_iload_n hx hb dX12_lives_117 rfl (lv_at hl 0 rfl) ?_
                    refine va_iald hx hb hK hP 6 1 rfl rfl (zin (e := (520 + (6 * v2_32))) (n := 5340) ⟨by omega, by omega⟩ (bl rfl)) dX12_lives_118 ?_
                    refine lv_topi (fun x_80 ex_80 => ?_)
                    obtain rfl : x_80 = iZ (gz u_14.2.2.1.1 (520 + (6 * v2_32))) := ex_80.trans (gz_eq ⟨by omega, by omega⟩)
                    have h_81 := gz_rg u_14.2.2.1.1 (520 + (6 * v2_32))
                    refine lv_bipush (v := iZ 20) hx hb dX12_lives_119 bip_20 ?_
                    refine lv_icmp_ne (tgt := 140) hx hb dX12_lives_121 rfl (fun c_82 => ?_) (fun c_82 => ?_)
                    ·
                      have c_82 := mt (zeq (x := iZ (gz u_14.2.2.1.1 (520 + (6 * v2_32)))) (y := iZ 20) rfl rfl (gz_rg u_14.2.2.1.1 (520 + (6 * v2_32))) wn_20).mpr c_82
                      refine lv_aload_n hx hb dX12_lives_140 rfl (lv_at hl 2 rfl) ?_
                      refine lv_aload_n hx hb dX12_lives_141 rfl (lv_at hl 2 rfl) ?_
                      refine va_get (D := D) (ci := 12) (v := .ref Ma) (C := RX12) (T := TX12) (N := 36) hx hb hts iX12 hown hK hP 5 rfl rfl 0 (bl rfl) (hts _ qf_X12_7) (fun _ h => h) rfl dX12_lives_142 ?_
                      refine lv_iload_n hx hb dX12_lives_145 rfl (lv_at hl 0 rfl) ?_
                      refine va_iald hx hb hK hP 6 1 rfl rfl (zin (e := (520 + (6 * v2_32))) (n := 5340) ⟨by omega, by omega⟩ (bl rfl)) dX12_lives_146 ?_
                      refine lv_topi (fun x_83 ex_83 => ?_)
                      obtain rfl : x_83 = iZ (gz u_14.2.2.1.1 (520 + (6 * v2_32))) := ex_83.trans (gz_eq ⟨by omega, by omega⟩)
                      have h_84 := gz_rg u_14.2.2.1.1 (520 + (6 * v2_32))
                      refine lv_sipush (v := iZ 1900) hx hb dX12_lives_147 sip_1900 ?_
                      refine lv_icmp_lt (tgt := 174) hx hb dX12_lives_150 rfl (fun c_85 => ?_) (fun c_85 => ?_)
                      ·
                        have c_85 := (zlt (x := iZ (gz u_14.2.2.1.1 (520 + (6 * v2_32)))) (y := iZ 1900) rfl rfl (gz_rg u_14.2.2.1.1 (520 + (6 * v2_32))) wn_1900).mp c_85
                        refine lv_iload_n hx hb dX12_lives_174 rfl (lv_at hl 1 rfl) ?_
                        refine lv_iconst (v := iZ 1) hx hb dX12_lives_175 rfl ?_
                        refine lv_iadd hx hb dX12_lives_176 ?_
                        refine lv_topi (fun x_86 ex_86 => ?_)
                        obtain rfl : x_86 = iZ (v2_32 + 1) := ex_86.trans (iZ_add v2_32 1)
                        refine CWV (As := [.int (iZ (v2_32 + 1))]) (rest := []) (wc := _) (wr := [(Mk, .inl (k 1, 6, .inl Kfq32)), (Ml, .inl (k 1, 6, .inl Lfq32)), (Mb, .inl (k 1, 6, .inl Bfq32)), (Mh, .inl (k 1, 120, .inl Hfq32)), (Mr, .inl (k 1, 5, .inl f_79))]) hx hb hml hown hts hKK hP hD hS hA (r_behindEnds l D k ([.ref Ma, .ref Mn, .int (iZ Mst), .long Mtp, .long Mbt, .ref Ms, .ref My, .ref Mt, .ref Mp, .ref Mx, .int (iZ Mtd), .int (iZ Msz), .int (iZ Mtk), .int (iZ Mfr), .int (iZ Men), .int (iZ Mva), .int (iZ Mfk), .int (iZ Mfp), .int (iZ Mfs), .int (iZ Mse), .int (iZ Mlt), .ref Mo, .int (iZ Mdp), .int (iZ Mct), .ref Mk, .ref Ml, .ref Mb, .ref Mh, .ref Mc, .int (iZ u_14.1.2), .int (iZ (Mrsq32 + 1)), .ref Mz, .ref Mr, .ref Mq, .int (iZ Mit), .int (iZ Mmk)]) hm Ma Mz u_14.2.2.1.1 Zfq32 (v2_32 + 1) Pg rfl rfl p_15 hyq_23 hoq_23 ⟨by omega, by omega⟩ hzq2) ci_X12_behindEnds qm_X12_396 ⟨Nat.le_of_ble_eq_true rfl, Nat.le_of_ble_eq_true rfl⟩ ⟨Nat.le_of_ble_eq_true rfl, Nat.le_of_ble_eq_true rfl⟩ [5, 6, 4] [0, 1, 2, 3, 7] rfl rfl rfl rfl rfl (dj rfl) 0 rfl rfl rfl hl.1 rfl (Nat.le_of_ble_eq_true rfl) dX12_lives_177 (fun u_87 H locs hφ hP hD hS => ?_)
                        obtain ⟨p_88, p_89, p_90, p_91⟩ : (0 ≤ u_87.1 ∧ u_87.1 ≤ 60) ∧ (∀ (L9 : LS_) (d9 s9 m9 w9 t9 o9 : Int), Rc (yS (eR u_14.2.2.1.1) Pg) ((v2_32 + 1), L9, rQ Zfq32, d9, s9, m9, w9, t9, o9, 0) (u_87.1, L9, rQ u_87.2.2.1, d9, s9, m9, w9, t9, o9, 0)) ∧ (u_87.1 < Pg.1 → ¬ Pg.2.1 u_87.1 = 23) ∧ (okZ u_87.2.2.1) := hφ
                        refine W.eq (g2 := F0 m 180 ls [.int (iZ u_87.1)]) rfl ?_
                        refine lv_istore_n (lv' := [(2, .int (iZ u_87.1)), (3, .int (iZ (520 + (6 * v2_32)))), (0, .ref hm), (1, .int (iZ x))]) hx hb dX12_lives_180 rfl hl (bl rfl) rfl (fun ls hl => ?_)
                        refine lv_goto (tgt := 32) hx hb dX12_lives_181 rfl ?_
                        have s8 := hrc.st
                        rw [hr4, yS_w (by omega) (by omega) (by omega), ← eR_fr hM hF32] at s8
                        have d9 := p_19
                        have r90 := gz_up hf_79 ⟨by omega, by omega⟩ ⟨by omega, by omega⟩ (j := 0) (by omega)
                        have r91 := gz_up hf_79 ⟨by omega, by omega⟩ ⟨by omega, by omega⟩ (j := 1) (by omega)
                        have r92 := gz_up hf_79 ⟨by omega, by omega⟩ ⟨by omega, by omega⟩ (j := 2) (by omega)
                        have r93 := gz_up hf_79 ⟨by omega, by omega⟩ ⟨by omega, by omega⟩ (j := 3) (by omega)
                        have r94 := gz_up hf_79 ⟨by omega, by omega⟩ ⟨by omega, by omega⟩ (j := 4) (by omega)
                        rw [if_neg (by omega)] at r91
                        rw [if_neg (by omega)] at r92
                        rw [if_neg (by omega)] at r93
                        rw [if_neg (by omega)] at r94
                        rw [if_pos rfl] at r90
                        have n9 := p_20
                        have hr4x : gz f_79 4 = 0 := (by omega)
                        have d8 := (d9.resolve_right (fun z9 => z9.1 (by have h9 := hrow (); omega))).2 (rQ Zfq32) (Mrsq32 + 1) (gz Rfq32 0)
                        rw [d8] at s8
                        exact ih32  u_87.1 u_14.1.2 (Mrsq32 + 1) u_14.2.2.1.1 Kfq32 Lfq32 Bfq32 Hfq32 u_87.2.2.1 f_79 _ _ _ (by omega) (show (0 ≤ u_87.1 ∧ u_87.1 ≤ (60) + 1) from ⟨by omega, by omega⟩) (show 0 ≤ (Mrsq32 + 1) ∧ (Mrsq32 + 1) ≤ 200 from ⟨by omega, by omega⟩) (show 0 ≤ u_14.1.2 ∧ u_14.1.2 ≤ 65535 from ⟨by omega, by omega⟩) (show rgI Hfq32 0 1000000 120 from rgh2) (show Rc (yS (eR Af) Pg) (0, rL Af, rQ Zf, x, 0, 0, 0, 0, 0, 0) (u_87.1, rL u_14.2.2.1.1, rQ u_87.2.2.1, u_14.1.2, (Mrsq32 + 1), gz f_79 0, gz f_79 1, gz f_79 2, gz f_79 3, gz f_79 4) from (by rw [hr4x]; have b9 := p_89 (rL u_14.2.2.1.1) u_14.1.2 (Mrsq32 + 1) (gz f_79 0) (gz f_79 1) (gz f_79 2) (gz f_79 3); rw [eR_fr hM (FR.tr p_16 hF32)] at b9; rw [eR_fr hM hF32] at s8; exact Rc.tr (Rc_eq s8 (rs_eq rfl rfl rfl rfl rfl (by omega) (by omega) (by omega) (by omega) rfl)) b9)) (show gz f_79 4 = 0 from hr4x) (show u_87.1 < Pg.1 → ¬ Pg.2.1 u_87.1 = 23 from p_90) (show okZ u_87.2.2.1 from p_91) (show ∀ j : Int, 0 ≤ j → j < 5 → 0 ≤ gz f_79 j ∧ gz f_79 j ≤ 101 * (Mrsq32 + 1) from (fun j a b => by have q1 := hrb j a b; have q2 := p_21 j a b; have q3 := gz_up hf_79 ⟨by omega, by omega⟩ ⟨by omega, by omega⟩ (j := j) a; by_cases c : j = 0; rw [if_pos c] at q3; rw [c] at q1 q2 q3 ⊢; omega; rw [if_neg c] at q3; omega)) (show yRM u_14.2.2.1.1 0 Pg from hyq_23) (show okR (gz u_14.2.2.1.1 0) Pg from hoq_23) (show M0 u_14.2.2.1.1 from p_15) (show FR u_14.2.2.1.1 Af from (FR.tr p_16 hF32)) (hP.sub [5, 6, 0, 1, 2, 3, 7, 4] rfl) (hD.sub [5, 6, 0, 1, 2, 3, 7, 4] rfl rfl) hS (lv_sub hl [0, 2, 3] rfl)
                      ·
                        have c_85 := mt (zlt (x := iZ (gz u_14.2.2.1.1 (520 + (6 * v2_32)))) (y := iZ 1900) rfl rfl (gz_rg u_14.2.2.1.1 (520 + (6 * v2_32))) wn_1900).mpr c_85
                        refine lv_aload_n hx hb dX12_lives_153 rfl (lv_at hl 2 rfl) ?_
                        refine lv_iload_n hx hb dX12_lives_154 rfl (lv_at hl 0 rfl) ?_
                        refine CWV (As := [.int (iZ (520 + (6 * v2_32)))]) (rest := [.ref hm]) (wc := _) (wr := [(Mz, .inl (k 1, 80, .inl Zfq32)), (Mr, .inl (k 1, 5, .inl f_79))]) hx hb hml hown hts hKK hP hD hS hA (r_holds l D k hm Ma Mn Ms My Mt Mp Mx Mo Mk Ml Mb Mh Mc Mz Mr Mq Mst Mtd Msz Mtk Mfr Men Mva Mfk Mfp Mfs Mse Mlt Mdp Mct u_14.1.2 (Mrsq32 + 1) Mit Mmk Mtp Mbt u_14.2.2.1.1 Kfq32 Lfq32 Bfq32 Hfq32 (520 + (6 * v2_32)) v2_32 Pg p_15 rfl hyq_23 hoq_23 ⟨by omega, by omega⟩ rgh2 (by have h9 := hrow (); omega)) ci_X12_holds qm_X12_393 ⟨Nat.le_of_ble_eq_true rfl, Nat.le_of_ble_eq_true rfl⟩ ⟨Nat.le_of_ble_eq_true rfl, Nat.le_of_ble_eq_true rfl⟩ [5, 6, 0, 1, 2, 3] [4, 7] rfl rfl rfl rfl rfl (dj rfl) 0 rfl rfl rfl hl.1 rfl (Nat.le_of_ble_eq_true rfl) dX12_lives_155 (fun u_92 H locs hφ hP hD hS => ?_)
                        obtain ⟨p_93, p_94, p_95⟩ : (rgI u_92.2.2.1.2.2.2 0 1000000 120) ∧ (u_92.1 = 0 ∨ u_92.1 = 1) ∧ (u_92.1 = hoZ (eR u_14.2.2.1.1) (rL u_14.2.2.1.1) (Pg.2.2.1 v2_32) (Pg.2.2.2.1 v2_32) (Pg.2.2.2.2.1 v2_32)) := hφ
                        refine W.eq (g2 := F0 m 158 ls [.int (iZ u_92.1), .ref hm]) rfl ?_
                        rcases (show (u_92.1 = 0) ∨ (u_92.1 = 1) from (by omega)) with s_96 | s_96
                        ·
                          rw [s_96]
                          refine lv_if_ne (tgt := 174) hx hb dX12_lives_158 rfl (fun c => absurd (by decide) c) (fun _ => ?_)
                          have hst := mSm_22 v2_32 (by omega) (by omega)
                          refine lv_aload_n hx hb dX12_lives_161 rfl (lv_at hl 2 rfl) ?_
                          refine va_get (D := D) (ci := 12) (v := .ref Ma) (C := RX12) (T := TX12) (N := 36) hx hb hts iX12 hown hK hP 2 rfl rfl 0 (bl rfl) (hts _ qf_X12_7) (fun _ h => h) rfl dX12_lives_162 ?_
                          refine lv_iload_n hx hb dX12_lives_165 rfl (lv_at hl 0 rfl) ?_
                          refine lv_iconst (v := iZ 4) hx hb dX12_lives_166 rfl ?_
                          refine lv_iadd hx hb dX12_lives_167 ?_
                          refine lv_topi (fun x_98 ex_98 => ?_)
                          obtain rfl : x_98 = iZ ((520 + (6 * v2_32)) + 4) := ex_98.trans (iZ_add (520 + (6 * v2_32)) 4)
                          refine va_iald hx hb hK hP 3 1 rfl rfl (zin (e := ((520 + (6 * v2_32)) + 4)) (n := 5340) ⟨by omega, by omega⟩ (bl rfl)) dX12_lives_168 ?_
                          refine lv_topi (fun x_99 ex_99 => ?_)
                          obtain rfl : x_99 = iZ (gz u_14.2.2.1.1 ((520 + (6 * v2_32)) + 4)) := ex_99.trans (gz_eq ⟨by omega, by omega⟩)
                          have h_100 := gz_rg u_14.2.2.1.1 ((520 + (6 * v2_32)) + 4)
                          refine lv_iconst (v := iZ 1) hx hb dX12_lives_169 rfl ?_
                          refine lv_iadd hx hb dX12_lives_170 ?_
                          refine lv_topi (fun x_101 ex_101 => ?_)
                          obtain rfl : x_101 = iZ ((gz u_14.2.2.1.1 ((520 + (6 * v2_32)) + 4)) + 1) := ex_101.trans (iZ_add (gz u_14.2.2.1.1 ((520 + (6 * v2_32)) + 4)) 1)
                          refine lv_goto (tgt := 177) hx hb dX12_lives_171 rfl ?_
                          refine CWV (As := [.int (iZ ((gz u_14.2.2.1.1 ((520 + (6 * v2_32)) + 4)) + 1))]) (rest := []) (wc := _) (wr := [(Mr, .inl (k 1, 5, .inl f_79)), (Mk, .inl (k 1, 6, .inl u_92.2.2.1.1)), (Ml, .inl (k 1, 6, .inl u_92.2.2.1.2.1)), (Mb, .inl (k 1, 6, .inl u_92.2.2.1.2.2.1)), (Mh, .inl (k 1, 120, .inl u_92.2.2.1.2.2.2))]) hx hb hml hown hts hKK hP hD hS hA (r_behindEnds l D k ([.ref Ma, .ref Mn, .int (iZ Mst), .long Mtp, .long Mbt, .ref Ms, .ref My, .ref Mt, .ref Mp, .ref Mx, .int (iZ Mtd), .int (iZ Msz), .int (iZ Mtk), .int (iZ Mfr), .int (iZ Men), .int (iZ Mva), .int (iZ Mfk), .int (iZ Mfp), .int (iZ Mfs), .int (iZ Mse), .int (iZ Mlt), .ref Mo, .int (iZ Mdp), .int (iZ Mct), .ref Mk, .ref Ml, .ref Mb, .ref Mh, .ref Mc, .int (iZ u_14.1.2), .int (iZ (Mrsq32 + 1)), .ref Mz, .ref Mr, .ref Mq, .int (iZ Mit), .int (iZ Mmk)]) hm Ma Mz u_14.2.2.1.1 Zfq32 ((gz u_14.2.2.1.1 ((520 + (6 * v2_32)) + 4)) + 1) Pg rfl rfl p_15 hyq_23 hoq_23 ⟨by omega, by omega⟩ hzq2) ci_X12_behindEnds qm_X12_396 ⟨Nat.le_of_ble_eq_true rfl, Nat.le_of_ble_eq_true rfl⟩ ⟨Nat.le_of_ble_eq_true rfl, Nat.le_of_ble_eq_true rfl⟩ [2, 3, 0] [1, 4, 5, 6, 7] rfl rfl rfl rfl rfl (dj rfl) 0 rfl rfl rfl hl.1 rfl (Nat.le_of_ble_eq_true rfl) dX12_lives_177 (fun u_102 H locs hφ hP hD hS => ?_)
                          obtain ⟨p_103, p_104, p_105, p_106⟩ : (0 ≤ u_102.1 ∧ u_102.1 ≤ 60) ∧ (∀ (L9 : LS_) (d9 s9 m9 w9 t9 o9 : Int), Rc (yS (eR u_14.2.2.1.1) Pg) (((gz u_14.2.2.1.1 ((520 + (6 * v2_32)) + 4)) + 1), L9, rQ Zfq32, d9, s9, m9, w9, t9, o9, 0) (u_102.1, L9, rQ u_102.2.2.1, d9, s9, m9, w9, t9, o9, 0)) ∧ (u_102.1 < Pg.1 → ¬ Pg.2.1 u_102.1 = 23) ∧ (okZ u_102.2.2.1) := hφ
                          refine W.eq (g2 := F0 m 180 ls [.int (iZ u_102.1)]) rfl ?_
                          refine lv_istore_n (lv' := [(2, .int (iZ u_102.1)), (3, .int (iZ (520 + (6 * v2_32)))), (0, .ref hm), (1, .int (iZ x))]) hx hb dX12_lives_180 rfl hl (bl rfl) rfl (fun ls hl => ?_)
                          refine lv_goto (tgt := 32) hx hb dX12_lives_181 rfl ?_
                          have s8 := hrc.st
                          rw [hr4, yS_w (by omega) (by omega) (by omega), ← eR_fr hM hF32] at s8
                          have d9 := p_19
                          have r90 := gz_up hf_79 ⟨by omega, by omega⟩ ⟨by omega, by omega⟩ (j := 0) (by omega)
                          have r91 := gz_up hf_79 ⟨by omega, by omega⟩ ⟨by omega, by omega⟩ (j := 1) (by omega)
                          have r92 := gz_up hf_79 ⟨by omega, by omega⟩ ⟨by omega, by omega⟩ (j := 2) (by omega)
                          have r93 := gz_up hf_79 ⟨by omega, by omega⟩ ⟨by omega, by omega⟩ (j := 3) (by omega)
                          have r94 := gz_up hf_79 ⟨by omega, by omega⟩ ⟨by omega, by omega⟩ (j := 4) (by omega)
                          rw [if_neg (by omega)] at r91
                          rw [if_neg (by omega)] at r92
                          rw [if_neg (by omega)] at r93
                          rw [if_neg (by omega)] at r94
                          rw [if_pos rfl] at r90
                          have n9 := p_20
                          have hr4x : gz f_79 4 = 0 := (by omega)
                          have d8 := (d9.resolve_left (fun z9 => absurd z9.1 (by have h9 := hrow (); omega))).2
                          have hz8 := p_95
                          rw [d8.1, eR_fr hM hF32] at hz8
                          rw [eR_fr hM hF32, li_19 (j := ((gz u_14.2.2.1.1 ((520 + (6 * v2_32)) + 4)) + 1)) (by have h9 := hrow (); omega) hz8 (by have h9 := hrow (); omega)] at s8
                          exact ih32  u_102.1 u_14.1.2 (Mrsq32 + 1) u_14.2.2.1.1 u_92.2.2.1.1 u_92.2.2.1.2.1 u_92.2.2.1.2.2.1 u_92.2.2.1.2.2.2 u_102.2.2.1 f_79 _ _ _ (by omega) (show (0 ≤ u_102.1 ∧ u_102.1 ≤ (60) + 1) from ⟨by omega, by omega⟩) (show 0 ≤ (Mrsq32 + 1) ∧ (Mrsq32 + 1) ≤ 200 from ⟨by omega, by omega⟩) (show 0 ≤ u_14.1.2 ∧ u_14.1.2 ≤ 65535 from ⟨by omega, by omega⟩) (show rgI u_92.2.2.1.2.2.2 0 1000000 120 from p_93) (show Rc (yS (eR Af) Pg) (0, rL Af, rQ Zf, x, 0, 0, 0, 0, 0, 0) (u_102.1, rL u_14.2.2.1.1, rQ u_102.2.2.1, u_14.1.2, (Mrsq32 + 1), gz f_79 0, gz f_79 1, gz f_79 2, gz f_79 3, gz f_79 4) from (by rw [hr4x]; have b9 := p_104 (rL u_14.2.2.1.1) u_14.1.2 (Mrsq32 + 1) (gz f_79 0) (gz f_79 1) (gz f_79 2) (gz f_79 3); rw [eR_fr hM (FR.tr p_16 hF32)] at b9; exact Rc.tr (Rc_eq s8 (rs_eq rfl (by rw [d8.1]) rfl d8.2.1.symm rfl (by omega) (by omega) (by omega) (by omega) rfl)) b9)) (show gz f_79 4 = 0 from hr4x) (show u_102.1 < Pg.1 → ¬ Pg.2.1 u_102.1 = 23 from p_105) (show okZ u_102.2.2.1 from p_106) (show ∀ j : Int, 0 ≤ j → j < 5 → 0 ≤ gz f_79 j ∧ gz f_79 j ≤ 101 * (Mrsq32 + 1) from (fun j a b => by have q1 := hrb j a b; have q2 := p_21 j a b; have q3 := gz_up hf_79 ⟨by omega, by omega⟩ ⟨by omega, by omega⟩ (j := j) a; by_cases c : j = 0; rw [if_pos c] at q3; rw [c] at q1 q2 q3 ⊢; omega; rw [if_neg c] at q3; omega)) (show yRM u_14.2.2.1.1 0 Pg from hyq_23) (show okR (gz u_14.2.2.1.1 0) Pg from hoq_23) (show M0 u_14.2.2.1.1 from p_15) (show FR u_14.2.2.1.1 Af from (FR.tr p_16 hF32)) (hP.sub [5, 6, 1, 2, 3, 4, 7, 0] rfl) (hD.sub [5, 6, 1, 2, 3, 4, 7, 0] rfl rfl) hS (lv_sub hl [0, 2, 3] rfl)
                        ·
                          rw [s_96]
                          refine lv_if_ne (tgt := 174) hx hb dX12_lives_158 rfl (fun _ => ?_) (fun c => absurd c (by decide))
                          refine lv_iload_n hx hb dX12_lives_174 rfl (lv_at hl 1 rfl) ?_
                          refine lv_iconst (v := iZ 1) hx hb dX12_lives_175 rfl ?_
                          refine lv_iadd hx hb dX12_lives_176 ?_
                          refine lv_topi (fun x_108 ex_108 => ?_)
                          obtain rfl : x_108 = iZ (v2_32 + 1) := ex_108.trans (iZ_add v2_32 1)
                          refine CWV (As := [.int (iZ (v2_32 + 1))]) (rest := []) (wc := _) (wr := [(Mr, .inl (k 1, 5, .inl f_79)), (Mk, .inl (k 1, 6, .inl u_92.2.2.1.1)), (Ml, .inl (k 1, 6, .inl u_92.2.2.1.2.1)), (Mb, .inl (k 1, 6, .inl u_92.2.2.1.2.2.1)), (Mh, .inl (k 1, 120, .inl u_92.2.2.1.2.2.2))]) hx hb hml hown hts hKK hP hD hS hA (r_behindEnds l D k ([.ref Ma, .ref Mn, .int (iZ Mst), .long Mtp, .long Mbt, .ref Ms, .ref My, .ref Mt, .ref Mp, .ref Mx, .int (iZ Mtd), .int (iZ Msz), .int (iZ Mtk), .int (iZ Mfr), .int (iZ Men), .int (iZ Mva), .int (iZ Mfk), .int (iZ Mfp), .int (iZ Mfs), .int (iZ Mse), .int (iZ Mlt), .ref Mo, .int (iZ Mdp), .int (iZ Mct), .ref Mk, .ref Ml, .ref Mb, .ref Mh, .ref Mc, .int (iZ u_14.1.2), .int (iZ (Mrsq32 + 1)), .ref Mz, .ref Mr, .ref Mq, .int (iZ Mit), .int (iZ Mmk)]) hm Ma Mz u_14.2.2.1.1 Zfq32 (v2_32 + 1) Pg rfl rfl p_15 hyq_23 hoq_23 ⟨by omega, by omega⟩ hzq2) ci_X12_behindEnds qm_X12_396 ⟨Nat.le_of_ble_eq_true rfl, Nat.le_of_ble_eq_true rfl⟩ ⟨Nat.le_of_ble_eq_true rfl, Nat.le_of_ble_eq_true rfl⟩ [2, 3, 0] [1, 4, 5, 6, 7] rfl rfl rfl rfl rfl (dj rfl) 0 rfl rfl rfl hl.1 rfl (Nat.le_of_ble_eq_true rfl) dX12_lives_177 (fun u_109 H locs hφ hP hD hS => ?_)
                          obtain ⟨p_110, p_111, p_112, p_113⟩ : (0 ≤ u_109.1 ∧ u_109.1 ≤ 60) ∧ (∀ (L9 : LS_) (d9 s9 m9 w9 t9 o9 : Int), Rc (yS (eR u_14.2.2.1.1) Pg) ((v2_32 + 1), L9, rQ Zfq32, d9, s9, m9, w9, t9, o9, 0) (u_109.1, L9, rQ u_109.2.2.1, d9, s9, m9, w9, t9, o9, 0)) ∧ (u_109.1 < Pg.1 → ¬ Pg.2.1 u_109.1 = 23) ∧ (okZ u_109.2.2.1) := hφ
                          refine W.eq (g2 := F0 m 180 ls [.int (iZ u_109.1)]) rfl ?_
                          refine lv_istore_n (lv' := [(2, .int (iZ u_109.1)), (3, .int (iZ (520 + (6 * v2_32)))), (0, .ref hm), (1, .int (iZ x))]) hx hb dX12_lives_180 rfl hl (bl rfl) rfl (fun ls hl => ?_)
                          refine lv_goto (tgt := 32) hx hb dX12_lives_181 rfl ?_
                          have s8 := hrc.st
                          rw [hr4, yS_w (by omega) (by omega) (by omega), ← eR_fr hM hF32] at s8
                          have d9 := p_19
                          have r90 := gz_up hf_79 ⟨by omega, by omega⟩ ⟨by omega, by omega⟩ (j := 0) (by omega)
                          have r91 := gz_up hf_79 ⟨by omega, by omega⟩ ⟨by omega, by omega⟩ (j := 1) (by omega)
                          have r92 := gz_up hf_79 ⟨by omega, by omega⟩ ⟨by omega, by omega⟩ (j := 2) (by omega)
                          have r93 := gz_up hf_79 ⟨by omega, by omega⟩ ⟨by omega, by omega⟩ (j := 3) (by omega)
                          have r94 := gz_up hf_79 ⟨by omega, by omega⟩ ⟨by omega, by omega⟩ (j := 4) (by omega)
                          rw [if_neg (by omega)] at r91
                          rw [if_neg (by omega)] at r92
                          rw [if_neg (by omega)] at r93
                          rw [if_neg (by omega)] at r94
                          rw [if_pos rfl] at r90
                          have n9 := p_20
                          have hr4x : gz f_79 4 = 0 := (by omega)
                          have d8 := (d9.resolve_left (fun z9 => absurd z9.1 (by have h9 := hrow (); omega))).2
                          have hz8 := p_95
                          rw [d8.1, eR_fr hM hF32] at hz8
                          rw [eR_fr hM hF32, li_19 (j := (v2_32 + 1)) (by have h9 := hrow (); omega) hz8 (by have h9 := hrow (); omega)] at s8
                          exact ih32  u_109.1 u_14.1.2 (Mrsq32 + 1) u_14.2.2.1.1 u_92.2.2.1.1 u_92.2.2.1.2.1 u_92.2.2.1.2.2.1 u_92.2.2.1.2.2.2 u_109.2.2.1 f_79 _ _ _ (by omega) (show (0 ≤ u_109.1 ∧ u_109.1 ≤ (60) + 1) from ⟨by omega, by omega⟩) (show 0 ≤ (Mrsq32 + 1) ∧ (Mrsq32 + 1) ≤ 200 from ⟨by omega, by omega⟩) (show 0 ≤ u_14.1.2 ∧ u_14.1.2 ≤ 65535 from ⟨by omega, by omega⟩) (show rgI u_92.2.2.1.2.2.2 0 1000000 120 from p_93) (show Rc (yS (eR Af) Pg) (0, rL Af, rQ Zf, x, 0, 0, 0, 0, 0, 0) (u_109.1, rL u_14.2.2.1.1, rQ u_109.2.2.1, u_14.1.2, (Mrsq32 + 1), gz f_79 0, gz f_79 1, gz f_79 2, gz f_79 3, gz f_79 4) from (by rw [hr4x]; have b9 := p_111 (rL u_14.2.2.1.1) u_14.1.2 (Mrsq32 + 1) (gz f_79 0) (gz f_79 1) (gz f_79 2) (gz f_79 3); rw [eR_fr hM (FR.tr p_16 hF32)] at b9; exact Rc.tr (Rc_eq s8 (rs_eq rfl (by rw [d8.1]) rfl d8.2.1.symm rfl (by omega) (by omega) (by omega) (by omega) rfl)) b9)) (show gz f_79 4 = 0 from hr4x) (show u_109.1 < Pg.1 → ¬ Pg.2.1 u_109.1 = 23 from p_112) (show okZ u_109.2.2.1 from p_113) (show ∀ j : Int, 0 ≤ j → j < 5 → 0 ≤ gz f_79 j ∧ gz f_79 j ≤ 101 * (Mrsq32 + 1) from (fun j a b => by have q1 := hrb j a b; have q2 := p_21 j a b; have q3 := gz_up hf_79 ⟨by omega, by omega⟩ ⟨by omega, by omega⟩ (j := j) a; by_cases c : j = 0; rw [if_pos c] at q3; rw [c] at q1 q2 q3 ⊢; omega; rw [if_neg c] at q3; omega)) (show yRM u_14.2.2.1.1 0 Pg from hyq_23) (show okR (gz u_14.2.2.1.1 0) Pg from hoq_23) (show M0 u_14.2.2.1.1 from p_15) (show FR u_14.2.2.1.1 Af from (FR.tr p_16 hF32)) (hP.sub [5, 6, 1, 2, 3, 4, 7, 0] rfl) (hD.sub [5, 6, 1, 2, 3, 4, 7, 0] rfl rfl) hS (lv_sub hl [0, 2, 3] rfl)
                    ·
                      have c_82 := (zeq (x := iZ (gz u_14.2.2.1.1 (520 + (6 * v2_32)))) (y := iZ 20) rfl rfl (gz_rg u_14.2.2.1.1 (520 + (6 * v2_32))) wn_20).mp c_82
                      have d9w := (p_19).imp (fun q9 => q9.1) (fun q9 => q9.2.2.2.2.2.2)
                      obtain ⟨-, ⟨hn15, -⟩, -, -⟩ := hoq.2.2 v2_32 (by omega) (by omega)
                      refine lv_aload_n hx hb dX12_lives_124 rfl (lv_at hl 2 rfl) ?_
                      refine va_get (D := D) (ci := 12) (v := .ref Mz) (C := RX12) (T := TX12) (N := 36) hx hb hts iX12 hown hK hP 5 rfl rfl 31 (bl rfl) (hts _ qf_X12_62) (fun _ h => h) rfl dX12_lives_125 ?_
                      refine lv_iload_n hx hb dX12_lives_128 rfl (lv_at hl 1 rfl) ?_
                      refine lv_aload_n hx hb dX12_lives_129 rfl (lv_at hl 2 rfl) ?_
                      refine va_get (D := D) (ci := 12) (v := .ref Ma) (C := RX12) (T := TX12) (N := 36) hx hb hts iX12 hown hK hP 5 rfl rfl 0 (bl rfl) (hts _ qf_X12_7) (fun _ h => h) rfl dX12_lives_130 ?_
                      refine lv_iload_n hx hb dX12_lives_133 rfl (lv_at hl 0 rfl) ?_
                      refine lv_iconst (v := iZ 1) hx hb dX12_lives_134 rfl ?_
                      refine lv_iadd hx hb dX12_lives_135 ?_
                      refine lv_topi (fun x_114 ex_114 => ?_)
                      obtain rfl : x_114 = iZ ((520 + (6 * v2_32)) + 1) := ex_114.trans (iZ_add (520 + (6 * v2_32)) 1)
                      refine va_iald hx hb hK hP 6 1 rfl rfl (zin (e := ((520 + (6 * v2_32)) + 1)) (n := 5340) ⟨by omega, by omega⟩ (bl rfl)) dX12_lives_136 ?_
                      refine lv_topi (fun x_115 ex_115 => ?_)
                      obtain rfl : x_115 = iZ (gz u_14.2.2.1.1 ((520 + (6 * v2_32)) + 1)) := ex_115.trans (gz_eq ⟨by omega, by omega⟩)
                      have h_116 := gz_rg u_14.2.2.1.1 ((520 + (6 * v2_32)) + 1)
                      refine lv_iconst (v := iZ 1) hx hb dX12_lives_137 rfl ?_
                      refine lv_isub hx hb dX12_lives_138 ?_
                      refine lv_topi (fun x_117 ex_117 => ?_)
                      obtain rfl : x_117 = iZ ((gz u_14.2.2.1.1 ((520 + (6 * v2_32)) + 1)) - 1) := ex_117.trans (iZ_sub (gz u_14.2.2.1.1 ((520 + (6 * v2_32)) + 1)) 1)
                      refine va_iast hx hb hK hP hD hS 4 1 rfl rfl (zin (e := v2_32) (n := 80) ⟨by omega, by omega⟩ (bl rfl)) dX12_lives_139 (fun H locs hP hD hS => ?_)
                      obtain ⟨f_118, hf_118⟩ : ∃ gg9, gg9 = upd Zfq32 (iZ v2_32).toNatClampNeg (iZ ((gz u_14.2.2.1.1 ((520 + (6 * v2_32)) + 1)) - 1)) := ⟨_, rfl⟩
                      rw [← hf_118] at hP hD
                      have hzL_119 := okZ.up hzq2 ⟨by omega, by omega⟩ hf_118 ⟨by have h9 := hrow (); omega, by have h9 := hrow (); omega⟩
                      refine lv_aload_n hx hb dX12_lives_140 rfl (lv_at hl 2 rfl) ?_
                      refine lv_aload_n hx hb dX12_lives_141 rfl (lv_at hl 2 rfl) ?_
                      refine va_get (D := D) (ci := 12) (v := .ref Ma) (C := RX12) (T := TX12) (N := 36) hx hb hts iX12 hown hK hP 5 rfl rfl 0 (bl rfl) (hts _ qf_X12_7) (fun _ h => h) rfl dX12_lives_142 ?_
                      refine lv_iload_n hx hb dX12_lives_145 rfl (lv_at hl 0 rfl) ?_
                      refine va_iald hx hb hK hP 6 1 rfl rfl (zin (e := (520 + (6 * v2_32))) (n := 5340) ⟨by omega, by omega⟩ (bl rfl)) dX12_lives_146 ?_
                      refine lv_topi (fun x_120 ex_120 => ?_)
                      obtain rfl : x_120 = iZ (gz u_14.2.2.1.1 (520 + (6 * v2_32))) := ex_120.trans (gz_eq ⟨by omega, by omega⟩)
                      have h_121 := gz_rg u_14.2.2.1.1 (520 + (6 * v2_32))
                      refine lv_sipush (v := iZ 1900) hx hb dX12_lives_147 sip_1900 ?_
                      refine lv_icmp_lt (tgt := 174) hx hb dX12_lives_150 rfl (fun c_122 => ?_) (fun c_122 => ?_)
                      ·
                        have c_122 := (zlt (x := iZ (gz u_14.2.2.1.1 (520 + (6 * v2_32)))) (y := iZ 1900) rfl rfl (gz_rg u_14.2.2.1.1 (520 + (6 * v2_32))) wn_1900).mp c_122
                        refine lv_iload_n hx hb dX12_lives_174 rfl (lv_at hl 1 rfl) ?_
                        refine lv_iconst (v := iZ 1) hx hb dX12_lives_175 rfl ?_
                        refine lv_iadd hx hb dX12_lives_176 ?_
                        refine lv_topi (fun x_123 ex_123 => ?_)
                        obtain rfl : x_123 = iZ (v2_32 + 1) := ex_123.trans (iZ_add v2_32 1)
                        refine CWV (As := [.int (iZ (v2_32 + 1))]) (rest := []) (wc := _) (wr := [(Mk, .inl (k 1, 6, .inl Kfq32)), (Ml, .inl (k 1, 6, .inl Lfq32)), (Mb, .inl (k 1, 6, .inl Bfq32)), (Mh, .inl (k 1, 120, .inl Hfq32)), (Mr, .inl (k 1, 5, .inl f_79))]) hx hb hml hown hts hKK hP hD hS hA (r_behindEnds l D k ([.ref Ma, .ref Mn, .int (iZ Mst), .long Mtp, .long Mbt, .ref Ms, .ref My, .ref Mt, .ref Mp, .ref Mx, .int (iZ Mtd), .int (iZ Msz), .int (iZ Mtk), .int (iZ Mfr), .int (iZ Men), .int (iZ Mva), .int (iZ Mfk), .int (iZ Mfp), .int (iZ Mfs), .int (iZ Mse), .int (iZ Mlt), .ref Mo, .int (iZ Mdp), .int (iZ Mct), .ref Mk, .ref Ml, .ref Mb, .ref Mh, .ref Mc, .int (iZ u_14.1.2), .int (iZ (Mrsq32 + 1)), .ref Mz, .ref Mr, .ref Mq, .int (iZ Mit), .int (iZ Mmk)]) hm Ma Mz u_14.2.2.1.1 f_118 (v2_32 + 1) Pg rfl rfl p_15 hyq_23 hoq_23 ⟨by omega, by omega⟩ hzL_119) ci_X12_behindEnds qm_X12_396 ⟨Nat.le_of_ble_eq_true rfl, Nat.le_of_ble_eq_true rfl⟩ ⟨Nat.le_of_ble_eq_true rfl, Nat.le_of_ble_eq_true rfl⟩ [5, 6, 4] [0, 1, 2, 3, 7] rfl rfl rfl rfl rfl (dj rfl) 0 rfl rfl rfl hl.1 rfl (Nat.le_of_ble_eq_true rfl) dX12_lives_177 (fun u_124 H locs hφ hP hD hS => ?_)
                        obtain ⟨p_125, p_126, p_127, p_128⟩ : (0 ≤ u_124.1 ∧ u_124.1 ≤ 60) ∧ (∀ (L9 : LS_) (d9 s9 m9 w9 t9 o9 : Int), Rc (yS (eR u_14.2.2.1.1) Pg) ((v2_32 + 1), L9, rQ f_118, d9, s9, m9, w9, t9, o9, 0) (u_124.1, L9, rQ u_124.2.2.1, d9, s9, m9, w9, t9, o9, 0)) ∧ (u_124.1 < Pg.1 → ¬ Pg.2.1 u_124.1 = 23) ∧ (okZ u_124.2.2.1) := hφ
                        refine W.eq (g2 := F0 m 180 ls [.int (iZ u_124.1)]) rfl ?_
                        refine lv_istore_n (lv' := [(2, .int (iZ u_124.1)), (3, .int (iZ (520 + (6 * v2_32)))), (0, .ref hm), (1, .int (iZ x))]) hx hb dX12_lives_180 rfl hl (bl rfl) rfl (fun ls hl => ?_)
                        refine lv_goto (tgt := 32) hx hb dX12_lives_181 rfl ?_
                        have s8 := hrc.st
                        rw [hr4, yS_w (by omega) (by omega) (by omega), ← eR_fr hM hF32] at s8
                        have d9 := p_19
                        have r90 := gz_up hf_79 ⟨by omega, by omega⟩ ⟨by omega, by omega⟩ (j := 0) (by omega)
                        have r91 := gz_up hf_79 ⟨by omega, by omega⟩ ⟨by omega, by omega⟩ (j := 1) (by omega)
                        have r92 := gz_up hf_79 ⟨by omega, by omega⟩ ⟨by omega, by omega⟩ (j := 2) (by omega)
                        have r93 := gz_up hf_79 ⟨by omega, by omega⟩ ⟨by omega, by omega⟩ (j := 3) (by omega)
                        have r94 := gz_up hf_79 ⟨by omega, by omega⟩ ⟨by omega, by omega⟩ (j := 4) (by omega)
                        rw [if_neg (by omega)] at r91
                        rw [if_neg (by omega)] at r92
                        rw [if_neg (by omega)] at r93
                        rw [if_neg (by omega)] at r94
                        rw [if_pos rfl] at r90
                        have n9 := p_20
                        have hr4x : gz f_79 4 = 0 := (by omega)
                        have d8 := (d9.resolve_left (fun z9 => absurd z9.1 (by have h9 := hrow (); omega))).2
                        rw [li_22 (q2 := rQ f_118) (by have h9 := hrow (); omega) (by rw [rQ_up (v := ((gz u_14.2.2.1.1 ((520 + (6 * v2_32)) + 1)) - 1)) ⟨by omega, by omega⟩ hf_118 ⟨by have h9 := hrow (); omega, by have h9 := hrow (); omega⟩, show ((gz u_14.2.2.1.1 ((520 + (6 * v2_32)) + 1)) - 1) = Pg.2.2.1 v2_32 - 1 from by have h9 := hrow (); omega])] at s8
                        exact ih32  u_124.1 u_14.1.2 (Mrsq32 + 1) u_14.2.2.1.1 Kfq32 Lfq32 Bfq32 Hfq32 u_124.2.2.1 f_79 _ _ _ (by omega) (show (0 ≤ u_124.1 ∧ u_124.1 ≤ (60) + 1) from ⟨by omega, by omega⟩) (show 0 ≤ (Mrsq32 + 1) ∧ (Mrsq32 + 1) ≤ 200 from ⟨by omega, by omega⟩) (show 0 ≤ u_14.1.2 ∧ u_14.1.2 ≤ 65535 from ⟨by omega, by omega⟩) (show rgI Hfq32 0 1000000 120 from rgh2) (show Rc (yS (eR Af) Pg) (0, rL Af, rQ Zf, x, 0, 0, 0, 0, 0, 0) (u_124.1, rL u_14.2.2.1.1, rQ u_124.2.2.1, u_14.1.2, (Mrsq32 + 1), gz f_79 0, gz f_79 1, gz f_79 2, gz f_79 3, gz f_79 4) from (by rw [hr4x]; have b9 := p_126 (rL u_14.2.2.1.1) u_14.1.2 (Mrsq32 + 1) (gz f_79 0) (gz f_79 1) (gz f_79 2) (gz f_79 3); rw [eR_fr hM (FR.tr p_16 hF32)] at b9; rw [eR_fr hM hF32] at s8; exact Rc.tr (Rc_eq s8 (rs_eq rfl (by rw [d8.1]) rfl d8.2.1.symm rfl (by omega) (by omega) (by omega) (by omega) rfl)) b9)) (show gz f_79 4 = 0 from hr4x) (show u_124.1 < Pg.1 → ¬ Pg.2.1 u_124.1 = 23 from p_127) (show okZ u_124.2.2.1 from p_128) (show ∀ j : Int, 0 ≤ j → j < 5 → 0 ≤ gz f_79 j ∧ gz f_79 j ≤ 101 * (Mrsq32 + 1) from (fun j a b => by have q1 := hrb j a b; have q2 := p_21 j a b; have q3 := gz_up hf_79 ⟨by omega, by omega⟩ ⟨by omega, by omega⟩ (j := j) a; by_cases c : j = 0; rw [if_pos c] at q3; rw [c] at q1 q2 q3 ⊢; omega; rw [if_neg c] at q3; omega)) (show yRM u_14.2.2.1.1 0 Pg from hyq_23) (show okR (gz u_14.2.2.1.1 0) Pg from hoq_23) (show M0 u_14.2.2.1.1 from p_15) (show FR u_14.2.2.1.1 Af from (FR.tr p_16 hF32)) (hP.sub [5, 6, 0, 1, 2, 3, 7, 4] rfl) (hD.sub [5, 6, 0, 1, 2, 3, 7, 4] rfl rfl) hS (lv_sub hl [0, 2, 3] rfl)
                      ·
                        have c_122 := mt (zlt (x := iZ (gz u_14.2.2.1.1 (520 + (6 * v2_32)))) (y := iZ 1900) rfl rfl (gz_rg u_14.2.2.1.1 (520 + (6 * v2_32))) wn_1900).mpr c_122
                        exact absurd c_122 (by omega)
                ·
                  have c_11 := (zeq (x := iZ (gz Afq32 (520 + (6 * v2_32)))) (y := iZ 22) rfl rfl (gz_rg Afq32 (520 + (6 * v2_32))) wn_22).mp c_11
                  have s8 := hrc.st
                  rw [hr4, yS_w (by omega) (by omega) (by omega), li_24 (by have h9 := hrow (); omega)] at s8
                  exact EWv hx hb hr hlocks hS ((0, Mdrq32, (Mrsq32 + 1)), 0, (Afq32, Kfq32, Lfq32, Bfq32, Hfq32, Zfq32, Rfq32), ()) rfl ⟨(show M0 Afq32 from hM32), (show FR Afq32 Af from hF32), (show 0 ≤ Mdrq32 ∧ Mdrq32 ≤ 65535 from (by omega)), (show rgI Hfq32 0 1000000 120 from rgh2), (show 0 ≤ (Mrsq32 + 1) ∧ (Mrsq32 + 1) ≤ 200 from (by omega)), (show ∃ r9 : Int, isRn_ (yS (eR Af) Pg) (0, rL Af, rQ Zf, x, 0, 0, 0, 0, 0, 0) (r9, rL Afq32, rQ Zfq32, Mdrq32, (Mrsq32 + 1), gz Rfq32 0, gz Rfq32 1, gz Rfq32 2, gz Rfq32 3, gz Rfq32 4) from ⟨Pg.1, by rw [hr4]; exact s8, yS_f (Or.inr (Int.le_refl _))⟩), (show okZ Zfq32 from hzq2), (show ∀ j : Int, 0 ≤ j → j < 5 → 0 ≤ gz Rfq32 j ∧ gz Rfq32 j ≤ 30000 from (fun j a b => by have := hrb j a b; omega))⟩ (hP.sub [0, 1, 2, 3, 4, 5, 6, 7] rfl) (hD.sub [0, 1, 2, 3, 4, 5, 6, 7] rfl rfl) dX12_lives_90
              ·
                have c_5 := (zeq (x := iZ Mrsq32) (y := iZ 200) rfl rfl ⟨by omega, by omega⟩ wn_200).mp c_5
                refine lv_aload_n hx hb dX12_lives_52 rfl (lv_at hl 1 rfl) ?_
                refine va_get (D := D) (ci := 12) (v := .ref Mr) (C := RX12) (T := TX12) (N := 36) hx hb hts iX12 hown hK hP 0 rfl rfl 32 (bl rfl) (hts _ qf_X12_65) (fun _ h => h) rfl dX12_lives_53 ?_
                refine lv_iconst (v := iZ 4) hx hb dX12_lives_56 rfl ?_
                refine lv_iconst (v := iZ 1) hx hb dX12_lives_57 rfl ?_
                refine va_iast hx hb hK hP hD hS 7 1 rfl rfl (zin (e := 4) (n := 5) ⟨by omega, by omega⟩ (bl rfl)) dX12_lives_58 (fun H locs hP hD hS => ?_)
                obtain ⟨f_129, hf_129⟩ : ∃ gg9, gg9 = upd Rfq32 (iZ 4).toNatClampNeg (iZ 1) := ⟨_, rfl⟩
                rw [← hf_129] at hP hD
                have s8 := hrc.st
                rw [hr4, yS_l (by decide) (by omega) (by omega) (by omega)] at s8
                have r90 := gz_up hf_129 ⟨by omega, by omega⟩ ⟨by omega, by omega⟩ (j := 0) (by omega)
                have r91 := gz_up hf_129 ⟨by omega, by omega⟩ ⟨by omega, by omega⟩ (j := 1) (by omega)
                have r92 := gz_up hf_129 ⟨by omega, by omega⟩ ⟨by omega, by omega⟩ (j := 2) (by omega)
                have r93 := gz_up hf_129 ⟨by omega, by omega⟩ ⟨by omega, by omega⟩ (j := 3) (by omega)
                have r94 := gz_up hf_129 ⟨by omega, by omega⟩ ⟨by omega, by omega⟩ (j := 4) (by omega)
                rw [if_neg (by omega)] at r90
                rw [if_neg (by omega)] at r91
                rw [if_neg (by omega)] at r92
                rw [if_neg (by omega)] at r93
                rw [if_pos rfl] at r94
                exact EWv hx hb hr hlocks hS ((0, Mdrq32, Mrsq32), 0, (Afq32, Kfq32, Lfq32, Bfq32, Hfq32, Zfq32, f_129), ()) rfl ⟨(show M0 Afq32 from hM32), (show FR Afq32 Af from hF32), (show 0 ≤ Mdrq32 ∧ Mdrq32 ≤ 65535 from (by omega)), (show rgI Hfq32 0 1000000 120 from rgh2), (show 0 ≤ Mrsq32 ∧ Mrsq32 ≤ 200 from (by omega)), (show ∃ r9 : Int, isRn_ (yS (eR Af) Pg) (0, rL Af, rQ Zf, x, 0, 0, 0, 0, 0, 0) (r9, rL Afq32, rQ Zfq32, Mdrq32, Mrsq32, gz f_129 0, gz f_129 1, gz f_129 2, gz f_129 3, gz f_129 4) from ⟨v2_32, by rw [r90, r91, r92, r93, r94]; exact s8, yS_f (Or.inl r94)⟩), (show okZ Zfq32 from hzq2), (show ∀ j : Int, 0 ≤ j → j < 5 → 0 ≤ gz f_129 j ∧ gz f_129 j ≤ 30000 from (fun j a b => by have q1 := hrb j a b; have q3 := gz_up hf_129 ⟨by omega, by omega⟩ ⟨by omega, by omega⟩ (j := j) a; by_cases c : j = 4; rw [if_pos c] at q3; omega; rw [if_neg c] at q3; omega))⟩ (hP.sub [0, 1, 2, 3, 4, 5, 6, 7] rfl) (hD.sub [0, 1, 2, 3, 4, 5, 6, 7] rfl rfl) dX12_lives_59
        exact HL32 203 0 x 0 Af Kf Lf Bf Hf Zf Rfq12 _ _ _ (by omega) (show (0 ≤ 0 ∧ 0 ≤ (60) + 1) from ⟨by omega, by omega⟩) (show 0 ≤ 0 ∧ 0 ≤ 200 from ⟨by omega, by omega⟩) (show 0 ≤ x ∧ x ≤ 65535 from ⟨by omega, by omega⟩) (show rgI Hf 0 1000000 120 from rgH) (show Rc (yS (eR Af) Pg) (0, rL Af, rQ Zf, x, 0, 0, 0, 0, 0, 0) (0, rL Af, rQ Zf, x, 0, gz Rfq12 0, gz Rfq12 1, gz Rfq12 2, gz Rfq12 3, gz Rfq12 4) from (by rw [hcl 0 (by omega) (by omega), hcl 1 (by omega) (by omega), hcl 2 (by omega) (by omega), hcl 3 (by omega) (by omega), hcl 4 (by omega) (by omega)]; exact Rc.rf _ _)) (show gz Rfq12 4 = 0 from (hcl 4 (by omega) (by omega))) (show 0 < Pg.1 → ¬ Pg.2.1 0 = 23 from hok.2.1) (show okZ Zf from hzq) (show ∀ j : Int, 0 ≤ j → j < 5 → 0 ≤ gz Rfq12 j ∧ gz Rfq12 j ≤ 101 * 0 from (fun j a b => by rw [hcl j a (by omega)]; omega)) (show yRM Af 0 Pg from hyM) (show okR (gz Af 0) Pg from hok) (show M0 Af from hM) (show FR Af Af from (FR.rf Af)) (hP.sub [0, 1, 2, 3, 4, 5, 6, 7] rfl) (hD.sub [0, 1, 2, 3, 4, 5, 6, 7] rfl rfl) hS (lv_sub hl [0, 1, 2] rfl)
      ·
        have c_1 := mt (zle (x := iZ 5) (y := iZ v2_12) rfl rfl wn_5 ⟨by omega, by omega⟩).mpr c_1
        refine lv_aload_n hx hb dX12_lives_17 rfl (lv_at hl 1 rfl) ?_
        refine va_get (D := D) (ci := 12) (v := .ref Mr) (C := RX12) (T := TX12) (N := 36) hx hb hts iX12 hown hK hP 0 rfl rfl 32 (bl rfl) (hts _ qf_X12_65) (fun _ h => h) rfl dX12_lives_18 ?_
        refine lv_iload_n hx hb dX12_lives_21 rfl (lv_at hl 0 rfl) ?_
        refine lv_iconst (v := iZ 0) hx hb dX12_lives_22 rfl ?_
        refine va_iast hx hb hK hP hD hS 7 1 rfl rfl (zin (e := v2_12) (n := 5) ⟨by omega, by omega⟩ (bl rfl)) dX12_lives_23 (fun H locs hP hD hS => ?_)
        obtain ⟨f_130, hf_130⟩ : ∃ gg9, gg9 = upd Rfq12 (iZ v2_12).toNatClampNeg (iZ 0) := ⟨_, rfl⟩
        rw [← hf_130] at hP hD
        refine lv_iinc (v := iZ (v2_12 + 1)) (lv' := [(2, .int (iZ (v2_12 + 1))), (0, .ref hm), (1, .int (iZ x))]) hx hb dX12_lives_24 hl (k := 0) rfl (iZ_add v2_12 1) (by decide) rfl (fun ls hl => ?_)
        refine lv_goto (tgt := 12) hx hb dX12_lives_27 rfl ?_
        exact ih12  (v2_12 + 1) f_130 _ _ _ (by omega) (show (0 ≤ (v2_12 + 1) ∧ (v2_12 + 1) ≤ (4) + 1) from ⟨by omega, by omega⟩) (show ∀ j : Int, 0 ≤ j → j < (v2_12 + 1) → gz f_130 j = 0 from (fun j a b => by rw [gz_up hf_130 ⟨by omega, by omega⟩ ⟨by omega, by omega⟩ a]; by_cases c : j = v2_12; rw [if_pos c]; rw [if_neg c]; exact hcl j a (by omega))) (hP.sub [0, 1, 2, 3, 4, 5, 6, 7] rfl) (hD.sub [0, 1, 2, 3, 4, 5, 6, 7] rfl rfl) hS (lv_sub hl [0, 1, 2] rfl)
  exact HL12 8 0 Rf _ _ _ (by omega) (show (0 ≤ 0 ∧ 0 ≤ (4) + 1) from ⟨by omega, by omega⟩) (show ∀ j : Int, 0 ≤ j → j < 0 → gz Rf j = 0 from (fun j a b => absurd a (by omega))) (hP.sub [0, 1, 2, 3, 4, 5, 6, 7] rfl) (hD.sub [0, 1, 2, 3, 4, 5, 6, 7] rfl rfl) hS (lv_sub hl [0, 1, 2] rfl)
end
