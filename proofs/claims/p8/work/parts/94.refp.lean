/-- the byte of a text, -1 behind it -/
def bA (f : Nat → Int32) (sz x : Int) : Int := if x < sz then (f x.toNat &&& 255).toInt else -1
theorem bA_rg (f : Nat → Int32) (sz x : Int) : (x < sz ∧ 0 ≤ bA f sz x ∧ bA f sz x ≤ 255) ∨ (¬ x < sz ∧ bA f sz x = -1) := by
  unfold bA
  by_cases h : x < sz
  · rw [if_pos h]
    obtain ⟨j, hj, he⟩ := pk_andE (f x.toNat) (m := 255) 8 (by decide)
    have e : (f x.toNat &&& 255).toInt = (j : Int) := by
      rw [show f x.toNat &&& 255 = nI j from he, ← iZ_nat]
      exact iZ_ti ⟨by omega, by omega⟩
    rw [e]
    omega
  · rw [if_neg h]; omega
theorem bA_in {f : Nat → Int32} {sz x z : Int} (hx : x < sz) (h : iZ z = iZ (gz f x) &&& iZ 255) : iZ z = iZ (bA f sz x) := by
  unfold bA
  rw [if_pos hx, h]
  have e1 : iZ (gz f x) = f x.toNat := Int32.ofInt_toInt _
  rw [e1]
  exact (Int32.ofInt_toInt _).symm
/-- below the place of what is read nothing changes -/
def KP (g f : Nat → Int32) : Prop := ∀ e : Int, 0 ≤ e → e < 3560 → gz g e = gz f e
theorem KP.rf (f : Nat → Int32) : KP f f := fun _ _ _ => rfl
theorem KP.tr {h g f : Nat → Int32} (a : KP h g) (b : KP g f) : KP h f := fun e x y => (a e x y).trans (b e x y)
theorem KP.up {g f : Nat → Int32} {i v : Int} (hg : g = upd f (iZ i).toNatClampNeg (iZ v)) (hi : 3560 ≤ i ∧ i < 2147483648) (hv : -2147483648 ≤ v ∧ v < 2147483648) : KP g f := fun e x y => by
  have c := gz_upc (j := e) hg (by omega) hv x
  omega
set_option maxHeartbeats 4000000 in
set_option maxRecDepth 100000 in
theorem m_byteAt (l : Launch) (D : va_G) (k : Nat → ClassId) (fs : List Value) (hm : Nat) (Mx : Nat) (Msz : Int) (Xf : Nat → Int32) (x : Int) (f9 : fs[9]? = some (.ref Mx)) (f11 : fs[11]? = some (.int (iZ Msz))) (h9x : 0 ≤ x ∧ x ≤ 5000) (hsz : 0 ≤ Msz ∧ Msz ≤ 900) : RD l yX12_byteAt cX12_byteAt 2 (some .int) 0 D k [.ref hm, .int (iZ x)] [(hm, .inr (12, fs)), (Mx, .inl (k 0, 900, .inl Xf))] (iZ (bA Xf Msz x)) := by
  refine MR (by decide) (Nat.le_of_ble_eq_true rfl) (fun p e s m below meth c ls hx hb hml hr hlocks hts hown hKK hP hl => ?_)
  have hK := hKK.1
  have hl : lv_has ls 2 [(0, .ref hm), (1, .int (iZ x))] := hl
  refine lv_iload_n hx hb dX12_byteAt_0 rfl (lv_at hl 1 rfl) ?_
  refine lv_aload_n hx hb dX12_byteAt_1 rfl (lv_at hl 0 rfl) ?_
  refine va_get (D := D) (ci := 12) (v := .int (iZ Msz)) (C := RX12) (T := TX12) (N := 36) hx hb hts iX12 hown hK hP 0 rfl rfl 11 (by decide) (hts _ qf_X12_112) (fun _ h => h) f11 dX12_byteAt_2 ?_
  refine lv_icmp_ge (tgt := 21) hx hb dX12_byteAt_5 (by decide) (fun c_1 => ?_) (fun c_1 => ?_)
  ·
    have c_1 := (zle (x := iZ Msz) (y := iZ x) rfl rfl ⟨by omega, by omega⟩ ⟨by omega, by omega⟩).mp c_1
    refine lv_iconst (v := iZ (-1)) hx hb dX12_byteAt_21 (by decide) ?_
    exact ERi hx hb hr hlocks (congrArg iZ (show (-1) = bA Xf Msz x from (by unfold bA; rw [if_neg (by omega)]))) dX12_byteAt_22
  ·
    have c_1 := mt (zle (x := iZ Msz) (y := iZ x) rfl rfl ⟨by omega, by omega⟩ ⟨by omega, by omega⟩).mpr c_1
    refine lv_aload_n hx hb dX12_byteAt_8 rfl (lv_at hl 0 rfl) ?_
    refine va_get (D := D) (ci := 12) (v := .ref Mx) (C := RX12) (T := TX12) (N := 36) hx hb hts iX12 hown hK hP 0 rfl rfl 9 (by decide) (hts _ qf_X12_34) (fun _ h => h) f9 dX12_byteAt_9 ?_
    refine lv_iload_n hx hb dX12_byteAt_12 rfl (lv_at hl 1 rfl) ?_
    refine va_bald hx hb hK hP 1 0 rfl rfl (zin (e := x) (n := 900) ⟨by omega, by omega⟩ (by decide)) dX12_byteAt_13 ?_
    refine lv_topi (fun x_2 ex_2 => ?_)
    obtain rfl : x_2 = iZ (gz Xf x) := ex_2.trans (gz_eq ⟨by omega, by omega⟩)
    have h_3 := gz_rg Xf x
    refine lv_sipush (v := iZ 255) hx hb dX12_byteAt_14 (by decide) ?_
    refine lv_iand hx hb dX12_byteAt_17 ?_
    refine lv_topi (fun x_5 ex_5 => ?_)
    obtain ⟨z_4, hz_4, hz_4a, hz_4b⟩ := i32_z x_5
    subst hz_4
    refine lv_goto (tgt := 22) hx hb dX12_byteAt_18 (by decide) ?_
    exact ERi hx hb hr hlocks (bA_in (by omega) (by assumption)) dX12_byteAt_22
set_option maxHeartbeats 4000000 in
set_option maxRecDepth 100000 in
theorem m_isSmall (l : Launch) (D : va_G) (k : Nat → ClassId) (x : Int) (h9x : -2147483648 ≤ x ∧ x < 2147483648) : RP l yX12_isSmall cX12_isSmall 1 (some .boolean) 0 D k [.int (iZ x)] [] (fun z => (z = 1 ∧ (97 ≤ x ∧ x ≤ 122)) ∨ (z = 0 ∧ ¬ (97 ≤ x ∧ x ≤ 122))) := by
  refine MRP (by decide) (Nat.le_of_ble_eq_true rfl) (fun p e s m below meth c ls hx hb hml hr hlocks hts hown hKK hP hl => ?_)
  have hK := hKK.1
  have hl : lv_has ls 1 [(0, .int (iZ x))] := hl
  refine lv_iload_n hx hb dX12_isSmall_0 rfl (lv_at hl 0 rfl) ?_
  refine lv_bipush (v := iZ 97) hx hb dX12_isSmall_1 (by decide) ?_
  refine lv_icmp_lt (tgt := 16) hx hb dX12_isSmall_3 (by decide) (fun c_1 => ?_) (fun c_1 => ?_)
  ·
    have c_1 := (zlt (x := iZ x) (y := iZ 97) rfl rfl ⟨by omega, by omega⟩ ⟨by omega, by omega⟩).mp c_1
    refine lv_iconst (v := iZ 0) hx hb dX12_isSmall_16 (by decide) ?_
    exact EPz hx hb hr hlocks (by omega) (by omega) dX12_isSmall_17
  ·
    have c_1 := mt (zlt (x := iZ x) (y := iZ 97) rfl rfl ⟨by omega, by omega⟩ ⟨by omega, by omega⟩).mpr c_1
    refine lv_iload_n hx hb dX12_isSmall_6 rfl (lv_at hl 0 rfl) ?_
    refine lv_bipush (v := iZ 122) hx hb dX12_isSmall_7 (by decide) ?_
    refine lv_icmp_gt (tgt := 16) hx hb dX12_isSmall_9 (by decide) (fun c_2 => ?_) (fun c_2 => ?_)
    ·
      have c_2 := (zlt (x := iZ 122) (y := iZ x) rfl rfl ⟨by omega, by omega⟩ ⟨by omega, by omega⟩).mp c_2
      refine lv_iconst (v := iZ 0) hx hb dX12_isSmall_16 (by decide) ?_
      exact EPz hx hb hr hlocks (by omega) (by omega) dX12_isSmall_17
    ·
      have c_2 := mt (zlt (x := iZ 122) (y := iZ x) rfl rfl ⟨by omega, by omega⟩ ⟨by omega, by omega⟩).mpr c_2
      refine lv_iconst (v := iZ 1) hx hb dX12_isSmall_12 (by decide) ?_
      refine lv_goto (tgt := 17) hx hb dX12_isSmall_13 (by decide) ?_
      exact EPz hx hb hr hlocks (by omega) (by omega) dX12_isSmall_17
set_option maxHeartbeats 4000000 in
set_option maxRecDepth 100000 in
theorem m_isDigit (l : Launch) (D : va_G) (k : Nat → ClassId) (x : Int) (h9x : -2147483648 ≤ x ∧ x < 2147483648) : RP l yX12_isDigit cX12_isDigit 1 (some .boolean) 0 D k [.int (iZ x)] [] (fun z => (z = 1 ∧ (48 ≤ x ∧ x ≤ 57)) ∨ (z = 0 ∧ ¬ (48 ≤ x ∧ x ≤ 57))) := by
  refine MRP (by decide) (Nat.le_of_ble_eq_true rfl) (fun p e s m below meth c ls hx hb hml hr hlocks hts hown hKK hP hl => ?_)
  have hK := hKK.1
  have hl : lv_has ls 1 [(0, .int (iZ x))] := hl
  refine lv_iload_n hx hb dX12_isDigit_0 rfl (lv_at hl 0 rfl) ?_
  refine lv_bipush (v := iZ 48) hx hb dX12_isDigit_1 (by decide) ?_
  refine lv_icmp_lt (tgt := 16) hx hb dX12_isDigit_3 (by decide) (fun c_1 => ?_) (fun c_1 => ?_)
  ·
    have c_1 := (zlt (x := iZ x) (y := iZ 48) rfl rfl ⟨by omega, by omega⟩ ⟨by omega, by omega⟩).mp c_1
    refine lv_iconst (v := iZ 0) hx hb dX12_isDigit_16 (by decide) ?_
    exact EPz hx hb hr hlocks (by omega) (by omega) dX12_isDigit_17
  ·
    have c_1 := mt (zlt (x := iZ x) (y := iZ 48) rfl rfl ⟨by omega, by omega⟩ ⟨by omega, by omega⟩).mpr c_1
    refine lv_iload_n hx hb dX12_isDigit_6 rfl (lv_at hl 0 rfl) ?_
    refine lv_bipush (v := iZ 57) hx hb dX12_isDigit_7 (by decide) ?_
    refine lv_icmp_gt (tgt := 16) hx hb dX12_isDigit_9 (by decide) (fun c_2 => ?_) (fun c_2 => ?_)
    ·
      have c_2 := (zlt (x := iZ 57) (y := iZ x) rfl rfl ⟨by omega, by omega⟩ ⟨by omega, by omega⟩).mp c_2
      refine lv_iconst (v := iZ 0) hx hb dX12_isDigit_16 (by decide) ?_
      exact EPz hx hb hr hlocks (by omega) (by omega) dX12_isDigit_17
    ·
      have c_2 := mt (zlt (x := iZ 57) (y := iZ x) rfl rfl ⟨by omega, by omega⟩ ⟨by omega, by omega⟩).mpr c_2
      refine lv_iconst (v := iZ 1) hx hb dX12_isDigit_12 (by decide) ?_
      refine lv_goto (tgt := 17) hx hb dX12_isDigit_13 (by decide) ?_
      exact EPz hx hb hr hlocks (by omega) (by omega) dX12_isDigit_17
set_option maxHeartbeats 4000000 in
set_option maxRecDepth 100000 in
theorem m_onward (l : Launch) (D : va_G) (k : Nat → ClassId) (hm : Nat) (Ma : Nat) (Mn : Nat) (Ms : Nat) (My : Nat) (Mt : Nat) (Mp : Nat) (Mx : Nat) (Mo : Nat) (Mk : Nat) (Ml : Nat) (Mb : Nat) (Mh : Nat) (Mc : Nat) (Mz : Nat) (Mr : Nat) (Mq : Nat) (Mst : Int) (Mtd : Int) (Msz : Int) (Mtk : Int) (Mfr : Int) (Men : Int) (Mva : Int) (Mfk : Int) (Mfp : Int) (Mfs : Int) (Mse : Int) (Mlt : Int) (Mdp : Int) (Mct : Int) (Mdr : Int) (Mrs : Int) (Mit : Int) (Mmk : Int) (Mtp : Int64) (Mbt : Int64) (Xf : Nat → Int32) (hE : (0 ≤ Men ∧ Men ≤ Msz) ∧ Msz ≤ 900) : WD (σ := ((Nat → Int) × (Nat → Int64) × (Nat → Nat → Int32) × (Nat → Nat → Int64))) l yX12_onward cX12_onward 2 none 1 0 0 D k [.ref hm] [(hm, .inr (12, [.ref Ma, .ref Mn, .int (iZ Mst), .long Mtp, .long Mbt, .ref Ms, .ref My, .ref Mt, .ref Mp, .ref Mx, .int (iZ Mtd), .int (iZ Msz), .int (iZ Mtk), .int (iZ Mfr), .int (iZ Men), .int (iZ Mva), .int (iZ Mfk), .int (iZ Mfp), .int (iZ Mfs), .int (iZ Mse), .int (iZ Mlt), .ref Mo, .int (iZ Mdp), .int (iZ Mct), .ref Mk, .ref Ml, .ref Mb, .ref Mh, .ref Mc, .int (iZ Mdr), .int (iZ Mrs), .ref Mz, .ref Mr, .ref Mq, .int (iZ Mit), .int (iZ Mmk)])), (Mx, .inl (k 0, 900, .inl Xf))] (fun _ => none) (fun u => ((0 ≤ ((u.1 2) : Int) ∧ ((u.1 2) : Int) ≤ (u.1 3)) ∧ (((u.1 3) : Int) ≤ Msz ∧ (Msz : Int) ≤ 900) ∧ (0 ≤ ((u.1 1) : Int) ∧ ((u.1 1) : Int) ≤ 4) ∧ (((u.1 1) : Int) = 0 ∨ ((u.1 2) : Int) < (u.1 3)) ∧ (-1 ≤ ((u.1 4) : Int) ∧ ((u.1 4) : Int) ≤ 100000)) ∧ (Men ≤ (u.1 2))) (fun u => [(hm, .inr (12, [.ref Ma, .ref Mn, .int (iZ Mst), .long Mtp, .long Mbt, .ref Ms, .ref My, .ref Mt, .ref Mp, .ref Mx, .int (iZ Mtd), .int (iZ Msz), .int (iZ (u.1 1)), .int (iZ (u.1 2)), .int (iZ (u.1 3)), .int (iZ (u.1 4)), .int (iZ Mfk), .int (iZ Mfp), .int (iZ Mfs), .int (iZ Mse), .int (iZ Mlt), .ref Mo, .int (iZ Mdp), .int (iZ Mct), .ref Mk, .ref Ml, .ref Mb, .ref Mh, .ref Mc, .int (iZ Mdr), .int (iZ Mrs), .ref Mz, .ref Mr, .ref Mq, .int (iZ Mit), .int (iZ Mmk)])), (Mx, .inl (k 0, 900, .inl Xf))]) := by
  refine MW (by decide) (Nat.le_of_ble_eq_true rfl) (fun p e s m below meth c ls A hx hb hml hr hlocks hin hts hown hKK hP hD hS hA hl => ?_)
  have hK := hKK.1
  have hl : lv_has ls 2 [(0, .ref hm)] := hl
  have HL1 : ∀ (fu : Nat) (Men1 : Int) (H : Heap) (locs : List Loc) (ls : Array Slot), (Msz + 1 - Men1) < (fu : Int) → (Men ≤ Men1 ∧ Men1 ≤ Msz) → va_P D vwCl [(hm, .inr (12, [.ref Ma, .ref Mn, .int (iZ Mst), .long Mtp, .long Mbt, .ref Ms, .ref My, .ref Mt, .ref Mp, .ref Mx, .int (iZ Mtd), .int (iZ Msz), .int (iZ Mtk), .int (iZ Mfr), .int (iZ Men1), .int (iZ Mva), .int (iZ Mfk), .int (iZ Mfp), .int (iZ Mfs), .int (iZ Mse), .int (iZ Mlt), .ref Mo, .int (iZ Mdp), .int (iZ Mct), .ref Mk, .ref Ml, .ref Mb, .ref Mh, .ref Mc, .int (iZ Mdr), .int (iZ Mrs), .ref Mz, .ref Mr, .ref Mq, .int (iZ Mit), .int (iZ Mmk)])), (Mx, .inl (k 0, 900, .inl Xf))] H → va_D A [(hm, .inr (12, [.ref Ma, .ref Mn, .int (iZ Mst), .long Mtp, .long Mbt, .ref Ms, .ref My, .ref Mt, .ref Mp, .ref Mx, .int (iZ Mtd), .int (iZ Msz), .int (iZ Mtk), .int (iZ Mfr), .int (iZ Men1), .int (iZ Mva), .int (iZ Mfk), .int (iZ Mfp), .int (iZ Mfs), .int (iZ Mse), .int (iZ Mlt), .ref Mo, .int (iZ Mdp), .int (iZ Mct), .ref Mk, .ref Ml, .ref Mb, .ref Mh, .ref Mc, .int (iZ Mdr), .int (iZ Mrs), .ref Mz, .ref Mr, .ref Mq, .int (iZ Mit), .int (iZ Mmk)])), (Mx, .inl (k 0, 900, .inl Xf))] → va_S A s.heap H locs → lv_has ls 2 [(0, .ref hm)] → W p l e (rj 1 0 0) s m [.ref hm].toArray below meth c H locs 0 0 (MQ below (QW (σ := ((Nat → Int) × (Nat → Int64) × (Nat → Nat → Int32) × (Nat → Nat → Int64))) (fun _ => none) (fun u => ((0 ≤ ((u.1 2) : Int) ∧ ((u.1 2) : Int) ≤ (u.1 3)) ∧ (((u.1 3) : Int) ≤ Msz ∧ (Msz : Int) ≤ 900) ∧ (0 ≤ ((u.1 1) : Int) ∧ ((u.1 1) : Int) ≤ 4) ∧ (((u.1 1) : Int) = 0 ∨ ((u.1 2) : Int) < (u.1 3)) ∧ (-1 ≤ ((u.1 4) : Int) ∧ ((u.1 4) : Int) ≤ 100000)) ∧ (Men ≤ (u.1 2))) (fun u => [(hm, .inr (12, [.ref Ma, .ref Mn, .int (iZ Mst), .long Mtp, .long Mbt, .ref Ms, .ref My, .ref Mt, .ref Mp, .ref Mx, .int (iZ Mtd), .int (iZ Msz), .int (iZ (u.1 1)), .int (iZ (u.1 2)), .int (iZ (u.1 3)), .int (iZ (u.1 4)), .int (iZ Mfk), .int (iZ Mfp), .int (iZ Mfs), .int (iZ Mse), .int (iZ Mlt), .ref Mo, .int (iZ Mdp), .int (iZ Mct), .ref Mk, .ref Ml, .ref Mb, .ref Mh, .ref Mc, .int (iZ Mdr), .int (iZ Mrs), .ref Mz, .ref Mr, .ref Mq, .int (iZ Mit), .int (iZ Mmk)])), (Mx, .inl (k 0, 900, .inl Xf))]) D A) [.ref hm].toArray s 0 0 A) (F0 m 0 ls []) := by
    intro fu
    induction fu with
    | zero => intro Men1 H locs ls hμ1 he1 hP hD hS hl; exact absurd hμ1 (by omega)
    | succ fu ih1 =>
      intro Men1 H locs ls hμ1 he1 hP hD hS hl
      refine lv_aload_n hx hb dX12_onward_0 rfl (lv_at hl 0 rfl) ?_
      refine lv_aload_n hx hb dX12_onward_1 rfl (lv_at hl 0 rfl) ?_
      refine va_get (D := D) (ci := 12) (v := .int (iZ Men1)) (C := RX12) (T := TX12) (N := 36) hx hb hts iX12 hown hK hP 0 rfl rfl 14 (by decide) (hts _ qf_X12_115) (fun _ h => h) rfl dX12_onward_2 ?_
      refine CRV (As := [.int (iZ Men1)]) (rest := []) hx hb hml hown hts hKK hP (m_byteAt l D k ([.ref Ma, .ref Mn, .int (iZ Mst), .long Mtp, .long Mbt, .ref Ms, .ref My, .ref Mt, .ref Mp, .ref Mx, .int (iZ Mtd), .int (iZ Msz), .int (iZ Mtk), .int (iZ Mfr), .int (iZ Men1), .int (iZ Mva), .int (iZ Mfk), .int (iZ Mfp), .int (iZ Mfs), .int (iZ Mse), .int (iZ Mlt), .ref Mo, .int (iZ Mdp), .int (iZ Mct), .ref Mk, .ref Ml, .ref Mb, .ref Mh, .ref Mc, .int (iZ Mdr), .int (iZ Mrs), .ref Mz, .ref Mr, .ref Mq, .int (iZ Mit), .int (iZ Mmk)]) hm Mx Msz Xf Men1 rfl rfl ⟨by omega, by omega⟩ ⟨by omega, by omega⟩) ci_X12_byteAt qm_X12_118 ⟨Nat.le_of_ble_eq_true rfl, Nat.le_of_ble_eq_true rfl⟩ ⟨Nat.le_of_ble_eq_true rfl, Nat.le_of_ble_eq_true rfl⟩ 0 rfl rfl rfl hl.1 rfl (Nat.le_of_ble_eq_true rfl) dX12_onward_5 ?_
      have hb_h_1 := bA_rg Xf Msz Men1
      refine lv_bipush (v := iZ 32) hx hb dX12_onward_8 (by decide) ?_
      refine lv_icmp_eq (tgt := 26) hx hb dX12_onward_10 (by decide) (fun c_2 => ?_) (fun c_2 => ?_)
      ·
        have c_2 := (zeq (x := iZ (bA Xf Msz Men1)) (y := iZ 32) rfl rfl ⟨by omega, by omega⟩ ⟨by omega, by omega⟩).mp c_2
        refine lv_aload_n hx hb dX12_onward_26 rfl (lv_at hl 0 rfl) ?_
        refine lv_dup hx hb dX12_onward_27 rfl ?_
        refine va_get (D := D) (ci := 12) (v := .int (iZ Men1)) (C := RX12) (T := TX12) (N := 36) hx hb hts iX12 hown hK hP 0 rfl rfl 14 (by decide) (hts _ qf_X12_115) (fun _ h => h) rfl dX12_onward_28 ?_
        refine lv_iconst (v := iZ 1) hx hb dX12_onward_31 (by decide) ?_
        refine lv_iadd hx hb dX12_onward_32 ?_
        refine lv_topi (fun x_3 ex_3 => ?_)
        obtain rfl : x_3 = iZ (Men1 + 1) := ex_3.trans (iZ_add Men1 1)
        refine va_put (D := D) (ci := 12) (v := .int (iZ (Men1 + 1))) (ty := .int) (C := RX12) (T := TX12) (N := 36) hx hb hts iX12 tyX12 tyX12_ok nmX12 hown hK hP hD hS 0 rfl rfl 14 (by decide) (hts _ qf_X12_115) (fun _ h => h) rfl (by decide +kernel) rfl rfl (Nat.le_of_ble_eq_true rfl) dX12_onward_33 (fun H locs hP hD hS => ?_)
        refine lv_goto (tgt := 0) hx hb dX12_onward_36 (by decide) ?_
        exact ih1  (Men1 + 1) _ _ _ (by omega) (show Men ≤ (Men1 + 1) ∧ (Men1 + 1) ≤ Msz from ⟨by omega, by omega⟩) (hP.sub [0, 1] rfl) (hD.sub [0, 1] rfl rfl) hS (lv_sub hl [0] rfl)
      ·
        have c_2 := mt (zeq (x := iZ (bA Xf Msz Men1)) (y := iZ 32) rfl rfl ⟨by omega, by omega⟩ ⟨by omega, by omega⟩).mpr c_2
        refine lv_aload_n hx hb dX12_onward_13 rfl (lv_at hl 0 rfl) ?_
        refine lv_aload_n hx hb dX12_onward_14 rfl (lv_at hl 0 rfl) ?_
        refine va_get (D := D) (ci := 12) (v := .int (iZ Men1)) (C := RX12) (T := TX12) (N := 36) hx hb hts iX12 hown hK hP 0 rfl rfl 14 (by decide) (hts _ qf_X12_115) (fun _ h => h) rfl dX12_onward_15 ?_
        refine CRV (As := [.int (iZ Men1)]) (rest := []) hx hb hml hown hts hKK hP (m_byteAt l D k ([.ref Ma, .ref Mn, .int (iZ Mst), .long Mtp, .long Mbt, .ref Ms, .ref My, .ref Mt, .ref Mp, .ref Mx, .int (iZ Mtd), .int (iZ Msz), .int (iZ Mtk), .int (iZ Mfr), .int (iZ Men1), .int (iZ Mva), .int (iZ Mfk), .int (iZ Mfp), .int (iZ Mfs), .int (iZ Mse), .int (iZ Mlt), .ref Mo, .int (iZ Mdp), .int (iZ Mct), .ref Mk, .ref Ml, .ref Mb, .ref Mh, .ref Mc, .int (iZ Mdr), .int (iZ Mrs), .ref Mz, .ref Mr, .ref Mq, .int (iZ Mit), .int (iZ Mmk)]) hm Mx Msz Xf Men1 rfl rfl ⟨by omega, by omega⟩ ⟨by omega, by omega⟩) ci_X12_byteAt qm_X12_118 ⟨Nat.le_of_ble_eq_true rfl, Nat.le_of_ble_eq_true rfl⟩ ⟨Nat.le_of_ble_eq_true rfl, Nat.le_of_ble_eq_true rfl⟩ 0 rfl rfl rfl hl.1 rfl (Nat.le_of_ble_eq_true rfl) dX12_onward_18 ?_
        have hb_h_4 := bA_rg Xf Msz Men1
        refine lv_bipush (v := iZ 10) hx hb dX12_onward_21 (by decide) ?_
        refine lv_icmp_ne (tgt := 39) hx hb dX12_onward_23 (by decide) (fun c_5 => ?_) (fun c_5 => ?_)
        ·
          have c_5 := mt (zeq (x := iZ (bA Xf Msz Men1)) (y := iZ 10) rfl rfl ⟨by omega, by omega⟩ ⟨by omega, by omega⟩).mpr c_5
          refine lv_aload_n hx hb dX12_onward_39 rfl (lv_at hl 0 rfl) ?_
          refine lv_aload_n hx hb dX12_onward_40 rfl (lv_at hl 0 rfl) ?_
          refine va_get (D := D) (ci := 12) (v := .int (iZ Men1)) (C := RX12) (T := TX12) (N := 36) hx hb hts iX12 hown hK hP 0 rfl rfl 14 (by decide) (hts _ qf_X12_115) (fun _ h => h) rfl dX12_onward_41 ?_
          refine va_put (D := D) (ci := 12) (v := .int (iZ Men1)) (ty := .int) (C := RX12) (T := TX12) (N := 36) hx hb hts iX12 tyX12 tyX12_ok nmX12 hown hK hP hD hS 0 rfl rfl 13 (by decide) (hts _ qf_X12_121) (fun _ h => h) rfl (by decide +kernel) rfl rfl (Nat.le_of_ble_eq_true rfl) dX12_onward_44 (fun H locs hP hD hS => ?_)
          refine lv_aload_n hx hb dX12_onward_47 rfl (lv_at hl 0 rfl) ?_
          refine lv_aload_n hx hb dX12_onward_48 rfl (lv_at hl 0 rfl) ?_
          refine va_get (D := D) (ci := 12) (v := .int (iZ Men1)) (C := RX12) (T := TX12) (N := 36) hx hb hts iX12 hown hK hP 0 rfl rfl 14 (by decide) (hts _ qf_X12_115) (fun _ h => h) rfl dX12_onward_49 ?_
          refine CRV (As := [.int (iZ Men1)]) (rest := []) hx hb hml hown hts hKK hP (m_byteAt l D k ([.ref Ma, .ref Mn, .int (iZ Mst), .long Mtp, .long Mbt, .ref Ms, .ref My, .ref Mt, .ref Mp, .ref Mx, .int (iZ Mtd), .int (iZ Msz), .int (iZ Mtk), .int (iZ Men1), .int (iZ Men1), .int (iZ Mva), .int (iZ Mfk), .int (iZ Mfp), .int (iZ Mfs), .int (iZ Mse), .int (iZ Mlt), .ref Mo, .int (iZ Mdp), .int (iZ Mct), .ref Mk, .ref Ml, .ref Mb, .ref Mh, .ref Mc, .int (iZ Mdr), .int (iZ Mrs), .ref Mz, .ref Mr, .ref Mq, .int (iZ Mit), .int (iZ Mmk)]) hm Mx Msz Xf Men1 rfl rfl ⟨by omega, by omega⟩ ⟨by omega, by omega⟩) ci_X12_byteAt qm_X12_118 ⟨Nat.le_of_ble_eq_true rfl, Nat.le_of_ble_eq_true rfl⟩ ⟨Nat.le_of_ble_eq_true rfl, Nat.le_of_ble_eq_true rfl⟩ 0 rfl rfl rfl hl.1 rfl (Nat.le_of_ble_eq_true rfl) dX12_onward_52 ?_
          have hb_h_6 := bA_rg Xf Msz Men1
          refine lv_istore_n (lv' := [(1, .int (iZ (bA Xf Msz Men1))), (0, .ref hm)]) hx hb dX12_onward_55 rfl hl (by decide) rfl (fun ls hl => ?_)
          refine lv_aload_n hx hb dX12_onward_56 rfl (lv_at hl 1 rfl) ?_
          refine lv_iload_n hx hb dX12_onward_57 rfl (lv_at hl 0 rfl) ?_
          refine va_put (D := D) (ci := 12) (v := .int (iZ (bA Xf Msz Men1))) (ty := .int) (C := RX12) (T := TX12) (N := 36) hx hb hts iX12 tyX12 tyX12_ok nmX12 hown hK hP hD hS 0 rfl rfl 15 (by decide) (hts _ qf_X12_124) (fun _ h => h) rfl (by decide +kernel) rfl rfl (Nat.le_of_ble_eq_true rfl) dX12_onward_58 (fun H locs hP hD hS => ?_)
          refine lv_iload_n hx hb dX12_onward_61 rfl (lv_at hl 0 rfl) ?_
          refine lv_iconst (v := iZ (-1)) hx hb dX12_onward_62 (by decide) ?_
          refine lv_icmp_ne (tgt := 74) hx hb dX12_onward_63 (by decide) (fun c_7 => ?_) (fun c_7 => ?_)
          ·
            have c_7 := mt (zeq (x := iZ (bA Xf Msz Men1)) (y := iZ (-1)) rfl rfl ⟨by omega, by omega⟩ ⟨by omega, by omega⟩).mpr c_7
            refine lv_iload_n hx hb dX12_onward_74 rfl (lv_at hl 0 rfl) ?_
            refine CPS (As := [.int (iZ (bA Xf Msz Men1))]) (rest := []) hx hb hml hown hts hKK (hP.sub (ws' := []) [] rfl) (m_isSmall l D k (bA Xf Msz Men1) ⟨by omega, by omega⟩) ci_X12_isSmall qm_X12_130 ⟨Nat.le_of_ble_eq_true rfl, Nat.le_of_ble_eq_true rfl⟩ ⟨Nat.le_of_ble_eq_true rfl, Nat.le_of_ble_eq_true rfl⟩ rfl hl.1 rfl (Nat.le_of_ble_eq_true rfl) dX12_onward_75 (fun z_8 hz_8 => ?_)
            rcases hz_8 with ⟨qz_8, hz_8⟩ | ⟨qz_8, hz_8⟩
            ·
              subst qz_8
              refine lv_if_eq (tgt := 116) hx hb dX12_onward_78 (by decide) (fun c => absurd c (by decide)) (fun _ => ?_)
              have HL2 : ∀ (fu : Nat) (Men2 : Int) (H : Heap) (locs : List Loc) (ls : Array Slot), (Msz + 1 - Men2) < (fu : Int) → (Men1 ≤ Men2 ∧ Men2 ≤ Msz) → va_P D vwCl [(hm, .inr (12, [.ref Ma, .ref Mn, .int (iZ Mst), .long Mtp, .long Mbt, .ref Ms, .ref My, .ref Mt, .ref Mp, .ref Mx, .int (iZ Mtd), .int (iZ Msz), .int (iZ Mtk), .int (iZ Men1), .int (iZ Men2), .int (iZ (bA Xf Msz Men1)), .int (iZ Mfk), .int (iZ Mfp), .int (iZ Mfs), .int (iZ Mse), .int (iZ Mlt), .ref Mo, .int (iZ Mdp), .int (iZ Mct), .ref Mk, .ref Ml, .ref Mb, .ref Mh, .ref Mc, .int (iZ Mdr), .int (iZ Mrs), .ref Mz, .ref Mr, .ref Mq, .int (iZ Mit), .int (iZ Mmk)])), (Mx, .inl (k 0, 900, .inl Xf))] H → va_D A [(hm, .inr (12, [.ref Ma, .ref Mn, .int (iZ Mst), .long Mtp, .long Mbt, .ref Ms, .ref My, .ref Mt, .ref Mp, .ref Mx, .int (iZ Mtd), .int (iZ Msz), .int (iZ Mtk), .int (iZ Men1), .int (iZ Men2), .int (iZ (bA Xf Msz Men1)), .int (iZ Mfk), .int (iZ Mfp), .int (iZ Mfs), .int (iZ Mse), .int (iZ Mlt), .ref Mo, .int (iZ Mdp), .int (iZ Mct), .ref Mk, .ref Ml, .ref Mb, .ref Mh, .ref Mc, .int (iZ Mdr), .int (iZ Mrs), .ref Mz, .ref Mr, .ref Mq, .int (iZ Mit), .int (iZ Mmk)])), (Mx, .inl (k 0, 900, .inl Xf))] → va_S A s.heap H locs → lv_has ls 2 [(1, .int (iZ (bA Xf Msz Men1))), (0, .ref hm)] → W p l e (rj 1 0 0) s m [.ref hm].toArray below meth c H locs 0 0 (MQ below (QW (σ := ((Nat → Int) × (Nat → Int64) × (Nat → Nat → Int32) × (Nat → Nat → Int64))) (fun _ => none) (fun u => ((0 ≤ ((u.1 2) : Int) ∧ ((u.1 2) : Int) ≤ (u.1 3)) ∧ (((u.1 3) : Int) ≤ Msz ∧ (Msz : Int) ≤ 900) ∧ (0 ≤ ((u.1 1) : Int) ∧ ((u.1 1) : Int) ≤ 4) ∧ (((u.1 1) : Int) = 0 ∨ ((u.1 2) : Int) < (u.1 3)) ∧ (-1 ≤ ((u.1 4) : Int) ∧ ((u.1 4) : Int) ≤ 100000)) ∧ (Men ≤ (u.1 2))) (fun u => [(hm, .inr (12, [.ref Ma, .ref Mn, .int (iZ Mst), .long Mtp, .long Mbt, .ref Ms, .ref My, .ref Mt, .ref Mp, .ref Mx, .int (iZ Mtd), .int (iZ Msz), .int (iZ (u.1 1)), .int (iZ (u.1 2)), .int (iZ (u.1 3)), .int (iZ (u.1 4)), .int (iZ Mfk), .int (iZ Mfp), .int (iZ Mfs), .int (iZ Mse), .int (iZ Mlt), .ref Mo, .int (iZ Mdp), .int (iZ Mct), .ref Mk, .ref Ml, .ref Mb, .ref Mh, .ref Mc, .int (iZ Mdr), .int (iZ Mrs), .ref Mz, .ref Mr, .ref Mq, .int (iZ Mit), .int (iZ Mmk)])), (Mx, .inl (k 0, 900, .inl Xf))]) D A) [.ref hm].toArray s 0 0 A) (F0 m 81 ls []) := by
                intro fu
                induction fu with
                | zero => intro Men2 H locs ls hμ2 he2 hP hD hS hl; exact absurd hμ2 (by omega)
                | succ fu ih2 =>
                  intro Men2 H locs ls hμ2 he2 hP hD hS hl
                  refine lv_aload_n hx hb dX12_onward_81 rfl (lv_at hl 1 rfl) ?_
                  refine lv_aload_n hx hb dX12_onward_82 rfl (lv_at hl 1 rfl) ?_
                  refine va_get (D := D) (ci := 12) (v := .int (iZ Men2)) (C := RX12) (T := TX12) (N := 36) hx hb hts iX12 hown hK hP 0 rfl rfl 14 (by decide) (hts _ qf_X12_115) (fun _ h => h) rfl dX12_onward_83 ?_
                  refine CRV (As := [.int (iZ Men2)]) (rest := []) hx hb hml hown hts hKK hP (m_byteAt l D k ([.ref Ma, .ref Mn, .int (iZ Mst), .long Mtp, .long Mbt, .ref Ms, .ref My, .ref Mt, .ref Mp, .ref Mx, .int (iZ Mtd), .int (iZ Msz), .int (iZ Mtk), .int (iZ Men1), .int (iZ Men2), .int (iZ (bA Xf Msz Men1)), .int (iZ Mfk), .int (iZ Mfp), .int (iZ Mfs), .int (iZ Mse), .int (iZ Mlt), .ref Mo, .int (iZ Mdp), .int (iZ Mct), .ref Mk, .ref Ml, .ref Mb, .ref Mh, .ref Mc, .int (iZ Mdr), .int (iZ Mrs), .ref Mz, .ref Mr, .ref Mq, .int (iZ Mit), .int (iZ Mmk)]) hm Mx Msz Xf Men2 rfl rfl ⟨by omega, by omega⟩ ⟨by omega, by omega⟩) ci_X12_byteAt qm_X12_118 ⟨Nat.le_of_ble_eq_true rfl, Nat.le_of_ble_eq_true rfl⟩ ⟨Nat.le_of_ble_eq_true rfl, Nat.le_of_ble_eq_true rfl⟩ 0 rfl rfl rfl hl.1 rfl (Nat.le_of_ble_eq_true rfl) dX12_onward_86 ?_
                  have hb_h_10 := bA_rg Xf Msz Men2
                  refine CPS (As := [.int (iZ (bA Xf Msz Men2))]) (rest := []) hx hb hml hown hts hKK (hP.sub (ws' := []) [] rfl) (m_isSmall l D k (bA Xf Msz Men2) ⟨by omega, by omega⟩) ci_X12_isSmall qm_X12_130 ⟨Nat.le_of_ble_eq_true rfl, Nat.le_of_ble_eq_true rfl⟩ ⟨Nat.le_of_ble_eq_true rfl, Nat.le_of_ble_eq_true rfl⟩ rfl hl.1 rfl (Nat.le_of_ble_eq_true rfl) dX12_onward_89 (fun z_11 hz_11 => ?_)
                  rcases hz_11 with ⟨qz_11, hz_11⟩ | ⟨qz_11, hz_11⟩
                  ·
                    subst qz_11
                    refine lv_if_eq (tgt := 108) hx hb dX12_onward_92 (by decide) (fun c => absurd c (by decide)) (fun _ => ?_)
                    refine lv_aload_n hx hb dX12_onward_95 rfl (lv_at hl 1 rfl) ?_
                    refine lv_dup hx hb dX12_onward_96 rfl ?_
                    refine va_get (D := D) (ci := 12) (v := .int (iZ Men2)) (C := RX12) (T := TX12) (N := 36) hx hb hts iX12 hown hK hP 0 rfl rfl 14 (by decide) (hts _ qf_X12_115) (fun _ h => h) rfl dX12_onward_97 ?_
                    refine lv_iconst (v := iZ 1) hx hb dX12_onward_100 (by decide) ?_
                    refine lv_iadd hx hb dX12_onward_101 ?_
                    refine lv_topi (fun x_13 ex_13 => ?_)
                    obtain rfl : x_13 = iZ (Men2 + 1) := ex_13.trans (iZ_add Men2 1)
                    refine va_put (D := D) (ci := 12) (v := .int (iZ (Men2 + 1))) (ty := .int) (C := RX12) (T := TX12) (N := 36) hx hb hts iX12 tyX12 tyX12_ok nmX12 hown hK hP hD hS 0 rfl rfl 14 (by decide) (hts _ qf_X12_115) (fun _ h => h) rfl (by decide +kernel) rfl rfl (Nat.le_of_ble_eq_true rfl) dX12_onward_102 (fun H locs hP hD hS => ?_)
                    refine lv_goto (tgt := 81) hx hb dX12_onward_105 (by decide) ?_
                    exact ih2  (Men2 + 1) _ _ _ (by omega) (show Men1 ≤ (Men2 + 1) ∧ (Men2 + 1) ≤ Msz from ⟨by omega, by omega⟩) (hP.sub [0, 1] rfl) (hD.sub [0, 1] rfl rfl) hS (lv_sub hl [0, 1] rfl)
                  ·
                    subst qz_11
                    refine lv_if_eq (tgt := 108) hx hb dX12_onward_92 (by decide) (fun _ => ?_) (fun c => absurd (by decide) c)
                    have hcc : Men2 = Men1 → bA Xf Msz Men2 = bA Xf Msz Men1 := fun h => by rw [h]
                    refine lv_aload_n hx hb dX12_onward_108 rfl (lv_at hl 1 rfl) ?_
                    refine lv_iconst (v := iZ 2) hx hb dX12_onward_109 (by decide) ?_
                    refine va_put (D := D) (ci := 12) (v := .int (iZ 2)) (ty := .int) (C := RX12) (T := TX12) (N := 36) hx hb hts iX12 tyX12 tyX12_ok nmX12 hown hK hP hD hS 0 rfl rfl 12 (by decide) (hts _ qf_X12_127) (fun _ h => h) rfl (by decide +kernel) rfl rfl (Nat.le_of_ble_eq_true rfl) dX12_onward_110 (fun H locs hP hD hS => ?_)
                    refine lv_goto (tgt := 251) hx hb dX12_onward_113 (by decide) ?_
                    exact EWv hx hb hr hlocks hS (fun i => [0, 2, Men1, Men2, (bA Xf Msz Men1)].getD i 0, fun i => [0].getD i 0, fun i => [].getD i (fun _ => 0), fun i => [].getD i (fun _ => 0)) rfl ⟨(show (0 ≤ (Men1 : Int) ∧ (Men1 : Int) ≤ Men2) ∧ ((Men2 : Int) ≤ Msz ∧ (Msz : Int) ≤ 900) ∧ (0 ≤ (2 : Int) ∧ (2 : Int) ≤ 4) ∧ ((2 : Int) = 0 ∨ (Men1 : Int) < Men2) ∧ (-1 ≤ ((bA Xf Msz Men1) : Int) ∧ ((bA Xf Msz Men1) : Int) ≤ 100000) from (by first | with_reducible assumption | exact ⟨⟨by omega, by omega⟩, ⟨by omega, by omega⟩, ⟨by omega, by omega⟩, by omega, by omega, by omega⟩)), (show Men ≤ Men1 from (by omega))⟩ (hP.sub [0, 1] rfl) (hD.sub [0, 1] rfl rfl) dX12_onward_251
              exact HL2 902 Men1 _ _ _ (by omega) (show Men1 ≤ Men1 ∧ Men1 ≤ Msz from ⟨by omega, by omega⟩) (hP.sub [0, 1] rfl) (hD.sub [0, 1] rfl rfl) hS (lv_sub hl [0, 1] rfl)
            ·
              subst qz_8
              refine lv_if_eq (tgt := 116) hx hb dX12_onward_78 (by decide) (fun _ => ?_) (fun c => absurd (by decide) c)
              refine lv_iload_n hx hb dX12_onward_116 rfl (lv_at hl 0 rfl) ?_
              refine CPS (As := [.int (iZ (bA Xf Msz Men1))]) (rest := []) hx hb hml hown hts hKK (hP.sub (ws' := []) [] rfl) (m_isDigit l D k (bA Xf Msz Men1) ⟨by omega, by omega⟩) ci_X12_isDigit qm_X12_133 ⟨Nat.le_of_ble_eq_true rfl, Nat.le_of_ble_eq_true rfl⟩ ⟨Nat.le_of_ble_eq_true rfl, Nat.le_of_ble_eq_true rfl⟩ rfl hl.1 rfl (Nat.le_of_ble_eq_true rfl) dX12_onward_117 (fun z_16 hz_16 => ?_)
              rcases hz_16 with ⟨qz_16, hz_16⟩ | ⟨qz_16, hz_16⟩
              ·
                subst qz_16
                refine lv_if_eq (tgt := 208) hx hb dX12_onward_120 (by decide) (fun c => absurd c (by decide)) (fun _ => ?_)
                refine lv_aload_n hx hb dX12_onward_123 rfl (lv_at hl 1 rfl) ?_
                refine lv_iconst (v := iZ 0) hx hb dX12_onward_124 (by decide) ?_
                refine va_put (D := D) (ci := 12) (v := .int (iZ 0)) (ty := .int) (C := RX12) (T := TX12) (N := 36) hx hb hts iX12 tyX12 tyX12_ok nmX12 hown hK hP hD hS 0 rfl rfl 15 (by decide) (hts _ qf_X12_124) (fun _ h => h) rfl (by decide +kernel) rfl rfl (Nat.le_of_ble_eq_true rfl) dX12_onward_125 (fun H locs hP hD hS => ?_)
                have HL3 : ∀ (fu : Nat) (Men3 : Int) (Mva3 : Int) (H : Heap) (locs : List Loc) (ls : Array Slot), (Msz + 1 - Men3) < (fu : Int) → (Men1 ≤ Men3 ∧ Men3 ≤ Msz) → (0 ≤ (Mva3 : Int) ∧ (Mva3 : Int) ≤ 100000) → va_P D vwCl [(hm, .inr (12, [.ref Ma, .ref Mn, .int (iZ Mst), .long Mtp, .long Mbt, .ref Ms, .ref My, .ref Mt, .ref Mp, .ref Mx, .int (iZ Mtd), .int (iZ Msz), .int (iZ Mtk), .int (iZ Men1), .int (iZ Men3), .int (iZ Mva3), .int (iZ Mfk), .int (iZ Mfp), .int (iZ Mfs), .int (iZ Mse), .int (iZ Mlt), .ref Mo, .int (iZ Mdp), .int (iZ Mct), .ref Mk, .ref Ml, .ref Mb, .ref Mh, .ref Mc, .int (iZ Mdr), .int (iZ Mrs), .ref Mz, .ref Mr, .ref Mq, .int (iZ Mit), .int (iZ Mmk)])), (Mx, .inl (k 0, 900, .inl Xf))] H → va_D A [(hm, .inr (12, [.ref Ma, .ref Mn, .int (iZ Mst), .long Mtp, .long Mbt, .ref Ms, .ref My, .ref Mt, .ref Mp, .ref Mx, .int (iZ Mtd), .int (iZ Msz), .int (iZ Mtk), .int (iZ Men1), .int (iZ Men3), .int (iZ Mva3), .int (iZ Mfk), .int (iZ Mfp), .int (iZ Mfs), .int (iZ Mse), .int (iZ Mlt), .ref Mo, .int (iZ Mdp), .int (iZ Mct), .ref Mk, .ref Ml, .ref Mb, .ref Mh, .ref Mc, .int (iZ Mdr), .int (iZ Mrs), .ref Mz, .ref Mr, .ref Mq, .int (iZ Mit), .int (iZ Mmk)])), (Mx, .inl (k 0, 900, .inl Xf))] → va_S A s.heap H locs → lv_has ls 2 [(1, .int (iZ (bA Xf Msz Men1))), (0, .ref hm)] → W p l e (rj 1 0 0) s m [.ref hm].toArray below meth c H locs 0 0 (MQ below (QW (σ := ((Nat → Int) × (Nat → Int64) × (Nat → Nat → Int32) × (Nat → Nat → Int64))) (fun _ => none) (fun u => ((0 ≤ ((u.1 2) : Int) ∧ ((u.1 2) : Int) ≤ (u.1 3)) ∧ (((u.1 3) : Int) ≤ Msz ∧ (Msz : Int) ≤ 900) ∧ (0 ≤ ((u.1 1) : Int) ∧ ((u.1 1) : Int) ≤ 4) ∧ (((u.1 1) : Int) = 0 ∨ ((u.1 2) : Int) < (u.1 3)) ∧ (-1 ≤ ((u.1 4) : Int) ∧ ((u.1 4) : Int) ≤ 100000)) ∧ (Men ≤ (u.1 2))) (fun u => [(hm, .inr (12, [.ref Ma, .ref Mn, .int (iZ Mst), .long Mtp, .long Mbt, .ref Ms, .ref My, .ref Mt, .ref Mp, .ref Mx, .int (iZ Mtd), .int (iZ Msz), .int (iZ (u.1 1)), .int (iZ (u.1 2)), .int (iZ (u.1 3)), .int (iZ (u.1 4)), .int (iZ Mfk), .int (iZ Mfp), .int (iZ Mfs), .int (iZ Mse), .int (iZ Mlt), .ref Mo, .int (iZ Mdp), .int (iZ Mct), .ref Mk, .ref Ml, .ref Mb, .ref Mh, .ref Mc, .int (iZ Mdr), .int (iZ Mrs), .ref Mz, .ref Mr, .ref Mq, .int (iZ Mit), .int (iZ Mmk)])), (Mx, .inl (k 0, 900, .inl Xf))]) D A) [.ref hm].toArray s 0 0 A) (F0 m 128 ls []) := by
                  intro fu
                  induction fu with
                  | zero => intro Men3 Mva3 H locs ls hμ3 he3 hv3 hP hD hS hl; exact absurd hμ3 (by omega)
                  | succ fu ih3 =>
                    intro Men3 Mva3 H locs ls hμ3 he3 hv3 hP hD hS hl
                    refine lv_aload_n hx hb dX12_onward_128 rfl (lv_at hl 1 rfl) ?_
                    refine lv_aload_n hx hb dX12_onward_129 rfl (lv_at hl 1 rfl) ?_
                    refine va_get (D := D) (ci := 12) (v := .int (iZ Men3)) (C := RX12) (T := TX12) (N := 36) hx hb hts iX12 hown hK hP 0 rfl rfl 14 (by decide) (hts _ qf_X12_115) (fun _ h => h) rfl dX12_onward_130 ?_
                    refine CRV (As := [.int (iZ Men3)]) (rest := []) hx hb hml hown hts hKK hP (m_byteAt l D k ([.ref Ma, .ref Mn, .int (iZ Mst), .long Mtp, .long Mbt, .ref Ms, .ref My, .ref Mt, .ref Mp, .ref Mx, .int (iZ Mtd), .int (iZ Msz), .int (iZ Mtk), .int (iZ Men1), .int (iZ Men3), .int (iZ Mva3), .int (iZ Mfk), .int (iZ Mfp), .int (iZ Mfs), .int (iZ Mse), .int (iZ Mlt), .ref Mo, .int (iZ Mdp), .int (iZ Mct), .ref Mk, .ref Ml, .ref Mb, .ref Mh, .ref Mc, .int (iZ Mdr), .int (iZ Mrs), .ref Mz, .ref Mr, .ref Mq, .int (iZ Mit), .int (iZ Mmk)]) hm Mx Msz Xf Men3 rfl rfl ⟨by omega, by omega⟩ ⟨by omega, by omega⟩) ci_X12_byteAt qm_X12_118 ⟨Nat.le_of_ble_eq_true rfl, Nat.le_of_ble_eq_true rfl⟩ ⟨Nat.le_of_ble_eq_true rfl, Nat.le_of_ble_eq_true rfl⟩ 0 rfl rfl rfl hl.1 rfl (Nat.le_of_ble_eq_true rfl) dX12_onward_133 ?_
                    have hb_h_18 := bA_rg Xf Msz Men3
                    refine CPS (As := [.int (iZ (bA Xf Msz Men3))]) (rest := []) hx hb hml hown hts hKK (hP.sub (ws' := []) [] rfl) (m_isDigit l D k (bA Xf Msz Men3) ⟨by omega, by omega⟩) ci_X12_isDigit qm_X12_133 ⟨Nat.le_of_ble_eq_true rfl, Nat.le_of_ble_eq_true rfl⟩ ⟨Nat.le_of_ble_eq_true rfl, Nat.le_of_ble_eq_true rfl⟩ rfl hl.1 rfl (Nat.le_of_ble_eq_true rfl) dX12_onward_136 (fun z_19 hz_19 => ?_)
                    rcases hz_19 with ⟨qz_19, hz_19⟩ | ⟨qz_19, hz_19⟩
                    ·
                      subst qz_19
                      refine lv_if_eq (tgt := 183) hx hb dX12_onward_139 (by decide) (fun c => absurd c (by decide)) (fun _ => ?_)
                      refine lv_aload_n hx hb dX12_onward_142 rfl (lv_at hl 1 rfl) ?_
                      refine lv_ldc (own := RX12) (v := 100000) hx hb hown (hts _ qk_X12_136) dX12_onward_143 ?_
                      refine W.eq (g2 := F0 m 145 ls [.int (iZ 100000), .ref hm]) rfl ?_
                      refine lv_bipush (v := iZ 10) hx hb dX12_onward_145 (by decide) ?_
                      refine lv_aload_n hx hb dX12_onward_147 rfl (lv_at hl 1 rfl) ?_
                      refine va_get (D := D) (ci := 12) (v := .int (iZ Mva3)) (C := RX12) (T := TX12) (N := 36) hx hb hts iX12 hown hK hP 0 rfl rfl 15 (by decide) (hts _ qf_X12_124) (fun _ h => h) rfl dX12_onward_148 ?_
                      refine lv_imul hx hb dX12_onward_151 ?_
                      refine lv_topi (fun x_21 ex_21 => ?_)
                      obtain rfl : x_21 = iZ (10 * Mva3) := ex_21.trans (iZ_mul 10 Mva3)
                      refine lv_aload_n hx hb dX12_onward_152 rfl (lv_at hl 1 rfl) ?_
                      refine lv_aload_n hx hb dX12_onward_153 rfl (lv_at hl 1 rfl) ?_
                      refine va_get (D := D) (ci := 12) (v := .int (iZ Men3)) (C := RX12) (T := TX12) (N := 36) hx hb hts iX12 hown hK hP 0 rfl rfl 14 (by decide) (hts _ qf_X12_115) (fun _ h => h) rfl dX12_onward_154 ?_
                      refine CRV (As := [.int (iZ Men3)]) (rest := [.int (iZ (10 * Mva3)), .int (iZ 100000), .ref hm]) hx hb hml hown hts hKK hP (m_byteAt l D k ([.ref Ma, .ref Mn, .int (iZ Mst), .long Mtp, .long Mbt, .ref Ms, .ref My, .ref Mt, .ref Mp, .ref Mx, .int (iZ Mtd), .int (iZ Msz), .int (iZ Mtk), .int (iZ Men1), .int (iZ Men3), .int (iZ Mva3), .int (iZ Mfk), .int (iZ Mfp), .int (iZ Mfs), .int (iZ Mse), .int (iZ Mlt), .ref Mo, .int (iZ Mdp), .int (iZ Mct), .ref Mk, .ref Ml, .ref Mb, .ref Mh, .ref Mc, .int (iZ Mdr), .int (iZ Mrs), .ref Mz, .ref Mr, .ref Mq, .int (iZ Mit), .int (iZ Mmk)]) hm Mx Msz Xf Men3 rfl rfl ⟨by omega, by omega⟩ ⟨by omega, by omega⟩) ci_X12_byteAt qm_X12_118 ⟨Nat.le_of_ble_eq_true rfl, Nat.le_of_ble_eq_true rfl⟩ ⟨Nat.le_of_ble_eq_true rfl, Nat.le_of_ble_eq_true rfl⟩ 0 rfl rfl rfl hl.1 rfl (Nat.le_of_ble_eq_true rfl) dX12_onward_157 ?_
                      have hb_h_22 := bA_rg Xf Msz Men3
                      refine lv_iadd hx hb dX12_onward_160 ?_
                      refine lv_topi (fun x_23 ex_23 => ?_)
                      obtain rfl : x_23 = iZ ((10 * Mva3) + (bA Xf Msz Men3)) := ex_23.trans (iZ_add (10 * Mva3) (bA Xf Msz Men3))
                      refine lv_bipush (v := iZ 48) hx hb dX12_onward_161 (by decide) ?_
                      refine lv_isub hx hb dX12_onward_163 ?_
                      refine lv_topi (fun x_24 ex_24 => ?_)
                      obtain rfl : x_24 = iZ (((10 * Mva3) + (bA Xf Msz Men3)) - 48) := ex_24.trans (iZ_sub ((10 * Mva3) + (bA Xf Msz Men3)) 48)
                      refine va_mmin (rest := [.ref hm]) hx hb (by rw [hml]; exact hl.1.symm) (own := RX12) hown (hts _ qm_X12_137) (hts _ qt_yJ9_min_7cf53) (hts _ qz_J9) (hts _ qc_J9_min_7cf53) (Nat.le_of_ble_eq_true rfl) (Nat.le_of_ble_eq_true rfl) (Nat.le_of_ble_eq_true rfl) (Nat.le_of_ble_eq_true rfl) dX12_onward_164 ?_
                      refine lv_topi (fun x_25 ex_25 => ?_)
                      obtain rfl : x_25 = iZ (min 100000 (((10 * Mva3) + (bA Xf Msz Men3)) - 48)) := ex_25.trans (zmin ⟨by omega, by omega⟩ ⟨by omega, by omega⟩)
                      refine va_put (D := D) (ci := 12) (v := .int (iZ (min 100000 (((10 * Mva3) + (bA Xf Msz Men3)) - 48)))) (ty := .int) (C := RX12) (T := TX12) (N := 36) hx hb hts iX12 tyX12 tyX12_ok nmX12 hown hK hP hD hS 0 rfl rfl 15 (by decide) (hts _ qf_X12_124) (fun _ h => h) rfl (by decide +kernel) rfl rfl (Nat.le_of_ble_eq_true rfl) dX12_onward_167 (fun H locs hP hD hS => ?_)
                      refine lv_aload_n hx hb dX12_onward_170 rfl (lv_at hl 1 rfl) ?_
                      refine lv_dup hx hb dX12_onward_171 rfl ?_
                      refine va_get (D := D) (ci := 12) (v := .int (iZ Men3)) (C := RX12) (T := TX12) (N := 36) hx hb hts iX12 hown hK hP 0 rfl rfl 14 (by decide) (hts _ qf_X12_115) (fun _ h => h) rfl dX12_onward_172 ?_
                      refine lv_iconst (v := iZ 1) hx hb dX12_onward_175 (by decide) ?_
                      refine lv_iadd hx hb dX12_onward_176 ?_
                      refine lv_topi (fun x_26 ex_26 => ?_)
                      obtain rfl : x_26 = iZ (Men3 + 1) := ex_26.trans (iZ_add Men3 1)
                      refine va_put (D := D) (ci := 12) (v := .int (iZ (Men3 + 1))) (ty := .int) (C := RX12) (T := TX12) (N := 36) hx hb hts iX12 tyX12 tyX12_ok nmX12 hown hK hP hD hS 0 rfl rfl 14 (by decide) (hts _ qf_X12_115) (fun _ h => h) rfl (by decide +kernel) rfl rfl (Nat.le_of_ble_eq_true rfl) dX12_onward_177 (fun H locs hP hD hS => ?_)
                      refine lv_goto (tgt := 128) hx hb dX12_onward_180 (by decide) ?_
                      exact ih3  (Men3 + 1) (min 100000 (((10 * Mva3) + (bA Xf Msz Men3)) - 48)) _ _ _ (by omega) (show Men1 ≤ (Men3 + 1) ∧ (Men3 + 1) ≤ Msz from ⟨by omega, by omega⟩) (show 0 ≤ ((min 100000 (((10 * Mva3) + (bA Xf Msz Men3)) - 48)) : Int) ∧ ((min 100000 (((10 * Mva3) + (bA Xf Msz Men3)) - 48)) : Int) ≤ 100000 from ⟨by omega, by omega⟩) (hP.sub [0, 1] rfl) (hD.sub [0, 1] rfl rfl) hS (lv_sub hl [0, 1] rfl)
                    ·
                      subst qz_19
                      refine lv_if_eq (tgt := 183) hx hb dX12_onward_139 (by decide) (fun _ => ?_) (fun c => absurd (by decide) c)
                      have hcc : Men3 = Men1 → bA Xf Msz Men3 = bA Xf Msz Men1 := fun h => by rw [h]
                      refine lv_aload_n hx hb dX12_onward_183 rfl (lv_at hl 1 rfl) ?_
                      refine lv_aload_n hx hb dX12_onward_184 rfl (lv_at hl 1 rfl) ?_
                      refine va_get (D := D) (ci := 12) (v := .int (iZ Men3)) (C := RX12) (T := TX12) (N := 36) hx hb hts iX12 hown hK hP 0 rfl rfl 14 (by decide) (hts _ qf_X12_115) (fun _ h => h) rfl dX12_onward_185 ?_
                      refine lv_aload_n hx hb dX12_onward_188 rfl (lv_at hl 1 rfl) ?_
                      refine va_get (D := D) (ci := 12) (v := .int (iZ Men1)) (C := RX12) (T := TX12) (N := 36) hx hb hts iX12 hown hK hP 0 rfl rfl 13 (by decide) (hts _ qf_X12_121) (fun _ h => h) rfl dX12_onward_189 ?_
                      refine lv_isub hx hb dX12_onward_192 ?_
                      refine lv_topi (fun x_28 ex_28 => ?_)
                      obtain rfl : x_28 = iZ (Men3 - Men1) := ex_28.trans (iZ_sub Men3 Men1)
                      refine lv_iconst (v := iZ 4) hx hb dX12_onward_193 (by decide) ?_
                      refine lv_icmp_le (tgt := 201) hx hb dX12_onward_194 (by decide) (fun c_29 => ?_) (fun c_29 => ?_)
                      ·
                        have c_29 := (zle (x := iZ (Men3 - Men1)) (y := iZ 4) rfl rfl ⟨by omega, by omega⟩ ⟨by omega, by omega⟩).mp c_29
                        refine lv_iconst (v := iZ 3) hx hb dX12_onward_201 (by decide) ?_
                        refine va_put (D := D) (ci := 12) (v := .int (iZ 3)) (ty := .int) (C := RX12) (T := TX12) (N := 36) hx hb hts iX12 tyX12 tyX12_ok nmX12 hown hK hP hD hS 0 rfl rfl 12 (by decide) (hts _ qf_X12_127) (fun _ h => h) rfl (by decide +kernel) rfl rfl (Nat.le_of_ble_eq_true rfl) dX12_onward_202 (fun H locs hP hD hS => ?_)
                        refine lv_goto (tgt := 251) hx hb dX12_onward_205 (by decide) ?_
                        exact EWv hx hb hr hlocks hS (fun i => [0, 3, Men1, Men3, Mva3].getD i 0, fun i => [0].getD i 0, fun i => [].getD i (fun _ => 0), fun i => [].getD i (fun _ => 0)) rfl ⟨(show (0 ≤ (Men1 : Int) ∧ (Men1 : Int) ≤ Men3) ∧ ((Men3 : Int) ≤ Msz ∧ (Msz : Int) ≤ 900) ∧ (0 ≤ (3 : Int) ∧ (3 : Int) ≤ 4) ∧ ((3 : Int) = 0 ∨ (Men1 : Int) < Men3) ∧ (-1 ≤ (Mva3 : Int) ∧ (Mva3 : Int) ≤ 100000) from (by first | with_reducible assumption | exact ⟨⟨by omega, by omega⟩, ⟨by omega, by omega⟩, ⟨by omega, by omega⟩, by omega, by omega, by omega⟩)), (show Men ≤ Men1 from (by omega))⟩ (hP.sub [0, 1] rfl) (hD.sub [0, 1] rfl rfl) dX12_onward_251
                      ·
                        have c_29 := mt (zle (x := iZ (Men3 - Men1)) (y := iZ 4) rfl rfl ⟨by omega, by omega⟩ ⟨by omega, by omega⟩).mpr c_29
                        refine lv_iconst (v := iZ 1) hx hb dX12_onward_197 (by decide) ?_
                        refine lv_goto (tgt := 202) hx hb dX12_onward_198 (by decide) ?_
                        refine va_put (D := D) (ci := 12) (v := .int (iZ 1)) (ty := .int) (C := RX12) (T := TX12) (N := 36) hx hb hts iX12 tyX12 tyX12_ok nmX12 hown hK hP hD hS 0 rfl rfl 12 (by decide) (hts _ qf_X12_127) (fun _ h => h) rfl (by decide +kernel) rfl rfl (Nat.le_of_ble_eq_true rfl) dX12_onward_202 (fun H locs hP hD hS => ?_)
                        refine lv_goto (tgt := 251) hx hb dX12_onward_205 (by decide) ?_
                        exact EWv hx hb hr hlocks hS (fun i => [0, 1, Men1, Men3, Mva3].getD i 0, fun i => [0].getD i 0, fun i => [].getD i (fun _ => 0), fun i => [].getD i (fun _ => 0)) rfl ⟨(show (0 ≤ (Men1 : Int) ∧ (Men1 : Int) ≤ Men3) ∧ ((Men3 : Int) ≤ Msz ∧ (Msz : Int) ≤ 900) ∧ (0 ≤ (1 : Int) ∧ (1 : Int) ≤ 4) ∧ ((1 : Int) = 0 ∨ (Men1 : Int) < Men3) ∧ (-1 ≤ (Mva3 : Int) ∧ (Mva3 : Int) ≤ 100000) from (by first | with_reducible assumption | exact ⟨⟨by omega, by omega⟩, ⟨by omega, by omega⟩, ⟨by omega, by omega⟩, by omega, by omega, by omega⟩)), (show Men ≤ Men1 from (by omega))⟩ (hP.sub [0, 1] rfl) (hD.sub [0, 1] rfl rfl) dX12_onward_251
                exact HL3 902 Men1 0 _ _ _ (by omega) (show Men1 ≤ Men1 ∧ Men1 ≤ Msz from ⟨by omega, by omega⟩) (show 0 ≤ (0 : Int) ∧ (0 : Int) ≤ 100000 from ⟨by omega, by omega⟩) (hP.sub [0, 1] rfl) (hD.sub [0, 1] rfl rfl) hS (lv_sub hl [0, 1] rfl)
              ·
                subst qz_16
                refine lv_if_eq (tgt := 208) hx hb dX12_onward_120 (by decide) (fun _ => ?_) (fun c => absurd (by decide) c)
                refine lv_aload_n hx hb dX12_onward_208 rfl (lv_at hl 1 rfl) ?_
                refine lv_dup hx hb dX12_onward_209 rfl ?_
                refine va_get (D := D) (ci := 12) (v := .int (iZ Men1)) (C := RX12) (T := TX12) (N := 36) hx hb hts iX12 hown hK hP 0 rfl rfl 14 (by decide) (hts _ qf_X12_115) (fun _ h => h) rfl dX12_onward_210 ?_
                refine lv_iconst (v := iZ 1) hx hb dX12_onward_213 (by decide) ?_
                refine lv_iadd hx hb dX12_onward_214 ?_
                refine lv_topi (fun x_31 ex_31 => ?_)
                obtain rfl : x_31 = iZ (Men1 + 1) := ex_31.trans (iZ_add Men1 1)
                refine va_put (D := D) (ci := 12) (v := .int (iZ (Men1 + 1))) (ty := .int) (C := RX12) (T := TX12) (N := 36) hx hb hts iX12 tyX12 tyX12_ok nmX12 hown hK hP hD hS 0 rfl rfl 14 (by decide) (hts _ qf_X12_115) (fun _ h => h) rfl (by decide +kernel) rfl rfl (Nat.le_of_ble_eq_true rfl) dX12_onward_215 (fun H locs hP hD hS => ?_)
                refine lv_aload_n hx hb dX12_onward_218 rfl (lv_at hl 1 rfl) ?_
                refine lv_iload_n hx hb dX12_onward_219 rfl (lv_at hl 0 rfl) ?_
                refine lv_bipush (v := iZ 59) hx hb dX12_onward_220 (by decide) ?_
                refine lv_icmp_eq (tgt := 243) hx hb dX12_onward_222 (by decide) (fun c_32 => ?_) (fun c_32 => ?_)
                ·
                  have c_32 := (zeq (x := iZ (bA Xf Msz Men1)) (y := iZ 59) rfl rfl ⟨by omega, by omega⟩ ⟨by omega, by omega⟩).mp c_32
                  refine lv_iconst (v := iZ 4) hx hb dX12_onward_243 (by decide) ?_
                  refine lv_goto (tgt := 248) hx hb dX12_onward_244 (by decide) ?_
                  refine va_put (D := D) (ci := 12) (v := .int (iZ 4)) (ty := .int) (C := RX12) (T := TX12) (N := 36) hx hb hts iX12 tyX12 tyX12_ok nmX12 hown hK hP hD hS 0 rfl rfl 12 (by decide) (hts _ qf_X12_127) (fun _ h => h) rfl (by decide +kernel) rfl rfl (Nat.le_of_ble_eq_true rfl) dX12_onward_248 (fun H locs hP hD hS => ?_)
                  exact EWv hx hb hr hlocks hS (fun i => [0, 4, Men1, (Men1 + 1), (bA Xf Msz Men1)].getD i 0, fun i => [0].getD i 0, fun i => [].getD i (fun _ => 0), fun i => [].getD i (fun _ => 0)) rfl ⟨(show (0 ≤ (Men1 : Int) ∧ (Men1 : Int) ≤ (Men1 + 1)) ∧ (((Men1 + 1) : Int) ≤ Msz ∧ (Msz : Int) ≤ 900) ∧ (0 ≤ (4 : Int) ∧ (4 : Int) ≤ 4) ∧ ((4 : Int) = 0 ∨ (Men1 : Int) < (Men1 + 1)) ∧ (-1 ≤ ((bA Xf Msz Men1) : Int) ∧ ((bA Xf Msz Men1) : Int) ≤ 100000) from (by first | with_reducible assumption | exact ⟨⟨by omega, by omega⟩, ⟨by omega, by omega⟩, ⟨by omega, by omega⟩, by omega, by omega, by omega⟩)), (show Men ≤ Men1 from (by omega))⟩ (hP.sub [0, 1] rfl) (hD.sub [0, 1] rfl rfl) dX12_onward_251
                ·
                  have c_32 := mt (zeq (x := iZ (bA Xf Msz Men1)) (y := iZ 59) rfl rfl ⟨by omega, by omega⟩ ⟨by omega, by omega⟩).mpr c_32
                  refine lv_iload_n hx hb dX12_onward_225 rfl (lv_at hl 0 rfl) ?_
                  refine lv_bipush (v := iZ 60) hx hb dX12_onward_226 (by decide) ?_
                  refine lv_icmp_eq (tgt := 243) hx hb dX12_onward_228 (by decide) (fun c_33 => ?_) (fun c_33 => ?_)
                  ·
                    have c_33 := (zeq (x := iZ (bA Xf Msz Men1)) (y := iZ 60) rfl rfl ⟨by omega, by omega⟩ ⟨by omega, by omega⟩).mp c_33
                    refine lv_iconst (v := iZ 4) hx hb dX12_onward_243 (by decide) ?_
                    refine lv_goto (tgt := 248) hx hb dX12_onward_244 (by decide) ?_
                    refine va_put (D := D) (ci := 12) (v := .int (iZ 4)) (ty := .int) (C := RX12) (T := TX12) (N := 36) hx hb hts iX12 tyX12 tyX12_ok nmX12 hown hK hP hD hS 0 rfl rfl 12 (by decide) (hts _ qf_X12_127) (fun _ h => h) rfl (by decide +kernel) rfl rfl (Nat.le_of_ble_eq_true rfl) dX12_onward_248 (fun H locs hP hD hS => ?_)
                    exact EWv hx hb hr hlocks hS (fun i => [0, 4, Men1, (Men1 + 1), (bA Xf Msz Men1)].getD i 0, fun i => [0].getD i 0, fun i => [].getD i (fun _ => 0), fun i => [].getD i (fun _ => 0)) rfl ⟨(show (0 ≤ (Men1 : Int) ∧ (Men1 : Int) ≤ (Men1 + 1)) ∧ (((Men1 + 1) : Int) ≤ Msz ∧ (Msz : Int) ≤ 900) ∧ (0 ≤ (4 : Int) ∧ (4 : Int) ≤ 4) ∧ ((4 : Int) = 0 ∨ (Men1 : Int) < (Men1 + 1)) ∧ (-1 ≤ ((bA Xf Msz Men1) : Int) ∧ ((bA Xf Msz Men1) : Int) ≤ 100000) from (by first | with_reducible assumption | exact ⟨⟨by omega, by omega⟩, ⟨by omega, by omega⟩, ⟨by omega, by omega⟩, by omega, by omega, by omega⟩)), (show Men ≤ Men1 from (by omega))⟩ (hP.sub [0, 1] rfl) (hD.sub [0, 1] rfl rfl) dX12_onward_251
                  ·
                    have c_33 := mt (zeq (x := iZ (bA Xf Msz Men1)) (y := iZ 60) rfl rfl ⟨by omega, by omega⟩ ⟨by omega, by omega⟩).mpr c_33
                    refine lv_iload_n hx hb dX12_onward_231 rfl (lv_at hl 0 rfl) ?_
                    refine lv_bipush (v := iZ 62) hx hb dX12_onward_232 (by decide) ?_
                    refine lv_icmp_eq (tgt := 243) hx hb dX12_onward_234 (by decide) (fun c_34 => ?_) (fun c_34 => ?_)
                    ·
                      have c_34 := (zeq (x := iZ (bA Xf Msz Men1)) (y := iZ 62) rfl rfl ⟨by omega, by omega⟩ ⟨by omega, by omega⟩).mp c_34
                      refine lv_iconst (v := iZ 4) hx hb dX12_onward_243 (by decide) ?_
                      refine lv_goto (tgt := 248) hx hb dX12_onward_244 (by decide) ?_
                      refine va_put (D := D) (ci := 12) (v := .int (iZ 4)) (ty := .int) (C := RX12) (T := TX12) (N := 36) hx hb hts iX12 tyX12 tyX12_ok nmX12 hown hK hP hD hS 0 rfl rfl 12 (by decide) (hts _ qf_X12_127) (fun _ h => h) rfl (by decide +kernel) rfl rfl (Nat.le_of_ble_eq_true rfl) dX12_onward_248 (fun H locs hP hD hS => ?_)
                      exact EWv hx hb hr hlocks hS (fun i => [0, 4, Men1, (Men1 + 1), (bA Xf Msz Men1)].getD i 0, fun i => [0].getD i 0, fun i => [].getD i (fun _ => 0), fun i => [].getD i (fun _ => 0)) rfl ⟨(show (0 ≤ (Men1 : Int) ∧ (Men1 : Int) ≤ (Men1 + 1)) ∧ (((Men1 + 1) : Int) ≤ Msz ∧ (Msz : Int) ≤ 900) ∧ (0 ≤ (4 : Int) ∧ (4 : Int) ≤ 4) ∧ ((4 : Int) = 0 ∨ (Men1 : Int) < (Men1 + 1)) ∧ (-1 ≤ ((bA Xf Msz Men1) : Int) ∧ ((bA Xf Msz Men1) : Int) ≤ 100000) from (by first | with_reducible assumption | exact ⟨⟨by omega, by omega⟩, ⟨by omega, by omega⟩, ⟨by omega, by omega⟩, by omega, by omega, by omega⟩)), (show Men ≤ Men1 from (by omega))⟩ (hP.sub [0, 1] rfl) (hD.sub [0, 1] rfl rfl) dX12_onward_251
                    ·
                      have c_34 := mt (zeq (x := iZ (bA Xf Msz Men1)) (y := iZ 62) rfl rfl ⟨by omega, by omega⟩ ⟨by omega, by omega⟩).mpr c_34
                      refine lv_iload_n hx hb dX12_onward_237 rfl (lv_at hl 0 rfl) ?_
                      refine lv_bipush (v := iZ 61) hx hb dX12_onward_238 (by decide) ?_
                      refine lv_icmp_ne (tgt := 247) hx hb dX12_onward_240 (by decide) (fun c_35 => ?_) (fun c_35 => ?_)
                      ·
                        have c_35 := mt (zeq (x := iZ (bA Xf Msz Men1)) (y := iZ 61) rfl rfl ⟨by omega, by omega⟩ ⟨by omega, by omega⟩).mpr c_35
                        refine lv_iconst (v := iZ 1) hx hb dX12_onward_247 (by decide) ?_
                        refine va_put (D := D) (ci := 12) (v := .int (iZ 1)) (ty := .int) (C := RX12) (T := TX12) (N := 36) hx hb hts iX12 tyX12 tyX12_ok nmX12 hown hK hP hD hS 0 rfl rfl 12 (by decide) (hts _ qf_X12_127) (fun _ h => h) rfl (by decide +kernel) rfl rfl (Nat.le_of_ble_eq_true rfl) dX12_onward_248 (fun H locs hP hD hS => ?_)
                        exact EWv hx hb hr hlocks hS (fun i => [0, 1, Men1, (Men1 + 1), (bA Xf Msz Men1)].getD i 0, fun i => [0].getD i 0, fun i => [].getD i (fun _ => 0), fun i => [].getD i (fun _ => 0)) rfl ⟨(show (0 ≤ (Men1 : Int) ∧ (Men1 : Int) ≤ (Men1 + 1)) ∧ (((Men1 + 1) : Int) ≤ Msz ∧ (Msz : Int) ≤ 900) ∧ (0 ≤ (1 : Int) ∧ (1 : Int) ≤ 4) ∧ ((1 : Int) = 0 ∨ (Men1 : Int) < (Men1 + 1)) ∧ (-1 ≤ ((bA Xf Msz Men1) : Int) ∧ ((bA Xf Msz Men1) : Int) ≤ 100000) from (by first | with_reducible assumption | exact ⟨⟨by omega, by omega⟩, ⟨by omega, by omega⟩, ⟨by omega, by omega⟩, by omega, by omega, by omega⟩)), (show Men ≤ Men1 from (by omega))⟩ (hP.sub [0, 1] rfl) (hD.sub [0, 1] rfl rfl) dX12_onward_251
                      ·
                        have c_35 := (zeq (x := iZ (bA Xf Msz Men1)) (y := iZ 61) rfl rfl ⟨by omega, by omega⟩ ⟨by omega, by omega⟩).mp c_35
                        refine lv_iconst (v := iZ 4) hx hb dX12_onward_243 (by decide) ?_
                        refine lv_goto (tgt := 248) hx hb dX12_onward_244 (by decide) ?_
                        refine va_put (D := D) (ci := 12) (v := .int (iZ 4)) (ty := .int) (C := RX12) (T := TX12) (N := 36) hx hb hts iX12 tyX12 tyX12_ok nmX12 hown hK hP hD hS 0 rfl rfl 12 (by decide) (hts _ qf_X12_127) (fun _ h => h) rfl (by decide +kernel) rfl rfl (Nat.le_of_ble_eq_true rfl) dX12_onward_248 (fun H locs hP hD hS => ?_)
                        exact EWv hx hb hr hlocks hS (fun i => [0, 4, Men1, (Men1 + 1), (bA Xf Msz Men1)].getD i 0, fun i => [0].getD i 0, fun i => [].getD i (fun _ => 0), fun i => [].getD i (fun _ => 0)) rfl ⟨(show (0 ≤ (Men1 : Int) ∧ (Men1 : Int) ≤ (Men1 + 1)) ∧ (((Men1 + 1) : Int) ≤ Msz ∧ (Msz : Int) ≤ 900) ∧ (0 ≤ (4 : Int) ∧ (4 : Int) ≤ 4) ∧ ((4 : Int) = 0 ∨ (Men1 : Int) < (Men1 + 1)) ∧ (-1 ≤ ((bA Xf Msz Men1) : Int) ∧ ((bA Xf Msz Men1) : Int) ≤ 100000) from (by first | with_reducible assumption | exact ⟨⟨by omega, by omega⟩, ⟨by omega, by omega⟩, ⟨by omega, by omega⟩, by omega, by omega, by omega⟩)), (show Men ≤ Men1 from (by omega))⟩ (hP.sub [0, 1] rfl) (hD.sub [0, 1] rfl rfl) dX12_onward_251
          ·
            have c_7 := (zeq (x := iZ (bA Xf Msz Men1)) (y := iZ (-1)) rfl rfl ⟨by omega, by omega⟩ ⟨by omega, by omega⟩).mp c_7
            refine lv_aload_n hx hb dX12_onward_66 rfl (lv_at hl 1 rfl) ?_
            refine lv_iconst (v := iZ 0) hx hb dX12_onward_67 (by decide) ?_
            refine va_put (D := D) (ci := 12) (v := .int (iZ 0)) (ty := .int) (C := RX12) (T := TX12) (N := 36) hx hb hts iX12 tyX12 tyX12_ok nmX12 hown hK hP hD hS 0 rfl rfl 12 (by decide) (hts _ qf_X12_127) (fun _ h => h) rfl (by decide +kernel) rfl rfl (Nat.le_of_ble_eq_true rfl) dX12_onward_68 (fun H locs hP hD hS => ?_)
            refine lv_goto (tgt := 251) hx hb dX12_onward_71 (by decide) ?_
            exact EWv hx hb hr hlocks hS (fun i => [0, 0, Men1, Men1, (bA Xf Msz Men1)].getD i 0, fun i => [0].getD i 0, fun i => [].getD i (fun _ => 0), fun i => [].getD i (fun _ => 0)) rfl ⟨(show (0 ≤ (Men1 : Int) ∧ (Men1 : Int) ≤ Men1) ∧ ((Men1 : Int) ≤ Msz ∧ (Msz : Int) ≤ 900) ∧ (0 ≤ (0 : Int) ∧ (0 : Int) ≤ 4) ∧ ((0 : Int) = 0 ∨ (Men1 : Int) < Men1) ∧ (-1 ≤ ((bA Xf Msz Men1) : Int) ∧ ((bA Xf Msz Men1) : Int) ≤ 100000) from (by first | with_reducible assumption | exact ⟨⟨by omega, by omega⟩, ⟨by omega, by omega⟩, ⟨by omega, by omega⟩, by omega, by omega, by omega⟩)), (show Men ≤ Men1 from (by omega))⟩ (hP.sub [0, 1] rfl) (hD.sub [0, 1] rfl rfl) dX12_onward_251
        ·
          have c_5 := (zeq (x := iZ (bA Xf Msz Men1)) (y := iZ 10) rfl rfl ⟨by omega, by omega⟩ ⟨by omega, by omega⟩).mp c_5
          refine lv_aload_n hx hb dX12_onward_26 rfl (lv_at hl 0 rfl) ?_
          refine lv_dup hx hb dX12_onward_27 rfl ?_
          refine va_get (D := D) (ci := 12) (v := .int (iZ Men1)) (C := RX12) (T := TX12) (N := 36) hx hb hts iX12 hown hK hP 0 rfl rfl 14 (by decide) (hts _ qf_X12_115) (fun _ h => h) rfl dX12_onward_28 ?_
          refine lv_iconst (v := iZ 1) hx hb dX12_onward_31 (by decide) ?_
          refine lv_iadd hx hb dX12_onward_32 ?_
          refine lv_topi (fun x_36 ex_36 => ?_)
          obtain rfl : x_36 = iZ (Men1 + 1) := ex_36.trans (iZ_add Men1 1)
          refine va_put (D := D) (ci := 12) (v := .int (iZ (Men1 + 1))) (ty := .int) (C := RX12) (T := TX12) (N := 36) hx hb hts iX12 tyX12 tyX12_ok nmX12 hown hK hP hD hS 0 rfl rfl 14 (by decide) (hts _ qf_X12_115) (fun _ h => h) rfl (by decide +kernel) rfl rfl (Nat.le_of_ble_eq_true rfl) dX12_onward_33 (fun H locs hP hD hS => ?_)
          refine lv_goto (tgt := 0) hx hb dX12_onward_36 (by decide) ?_
          exact ih1  (Men1 + 1) _ _ _ (by omega) (show Men ≤ (Men1 + 1) ∧ (Men1 + 1) ≤ Msz from ⟨by omega, by omega⟩) (hP.sub [0, 1] rfl) (hD.sub [0, 1] rfl rfl) hS (lv_sub hl [0] rfl)
  exact HL1 902 Men _ _ _ (by omega) (show Men ≤ Men ∧ Men ≤ Msz from ⟨by omega, by omega⟩) (hP.sub [0, 1] rfl) (hD.sub [0, 1] rfl rfl) hS (lv_sub hl [0] rfl)
set_option maxHeartbeats 4000000 in
set_option maxRecDepth 100000 in
theorem m_isSign (l : Launch) (D : va_G) (k : Nat → ClassId) (fs : List Value) (hm : Nat) (Mtk : Int) (Mva : Int) (x : Int) (f12 : fs[12]? = some (.int (iZ Mtk))) (f15 : fs[15]? = some (.int (iZ Mva))) (h9x : -2147483648 ≤ x ∧ x < 2147483648) (htk : -2147483648 ≤ Mtk ∧ Mtk < 2147483648) (hva : -2147483648 ≤ Mva ∧ Mva < 2147483648) : RP l yX12_isSign cX12_isSign 2 (some .boolean) 0 D k [.ref hm, .int (iZ x)] [(hm, .inr (12, fs))] (fun z => (z = 1 ∧ Mtk = 4) ∨ (z = 0 ∧ True)) := by
  refine MRP (by decide) (Nat.le_of_ble_eq_true rfl) (fun p e s m below meth c ls hx hb hml hr hlocks hts hown hKK hP hl => ?_)
  have hK := hKK.1
  have hl : lv_has ls 2 [(0, .ref hm), (1, .int (iZ x))] := hl
  refine lv_aload_n hx hb dX12_isSign_0 rfl (lv_at hl 0 rfl) ?_
  refine va_get (D := D) (ci := 12) (v := .int (iZ Mtk)) (C := RX12) (T := TX12) (N := 36) hx hb hts iX12 hown hK hP 0 rfl rfl 12 (by decide) (hts _ qf_X12_127) (fun _ h => h) f12 dX12_isSign_1 ?_
  refine lv_iconst (v := iZ 4) hx hb dX12_isSign_4 (by decide) ?_
  refine lv_icmp_ne (tgt := 20) hx hb dX12_isSign_5 (by decide) (fun c_1 => ?_) (fun c_1 => ?_)
  ·
    have c_1 := mt (zeq (x := iZ Mtk) (y := iZ 4) rfl rfl ⟨by omega, by omega⟩ ⟨by omega, by omega⟩).mpr c_1
    refine lv_iconst (v := iZ 0) hx hb dX12_isSign_20 (by decide) ?_
    exact EPz hx hb hr hlocks (by omega) (Or.inr ⟨rfl, trivial⟩) dX12_isSign_21
  ·
    have c_1 := (zeq (x := iZ Mtk) (y := iZ 4) rfl rfl ⟨by omega, by omega⟩ ⟨by omega, by omega⟩).mp c_1
    refine lv_aload_n hx hb dX12_isSign_8 rfl (lv_at hl 0 rfl) ?_
    refine va_get (D := D) (ci := 12) (v := .int (iZ Mva)) (C := RX12) (T := TX12) (N := 36) hx hb hts iX12 hown hK hP 0 rfl rfl 15 (by decide) (hts _ qf_X12_124) (fun _ h => h) f15 dX12_isSign_9 ?_
    refine lv_iload_n hx hb dX12_isSign_12 rfl (lv_at hl 1 rfl) ?_
    refine lv_icmp_ne (tgt := 20) hx hb dX12_isSign_13 (by decide) (fun c_2 => ?_) (fun c_2 => ?_)
    ·
      have c_2 := mt (zeq (x := iZ Mva) (y := iZ x) rfl rfl ⟨by omega, by omega⟩ ⟨by omega, by omega⟩).mpr c_2
      refine lv_iconst (v := iZ 0) hx hb dX12_isSign_20 (by decide) ?_
      exact EPz hx hb hr hlocks (by omega) (Or.inr ⟨rfl, trivial⟩) dX12_isSign_21
    ·
      have c_2 := (zeq (x := iZ Mva) (y := iZ x) rfl rfl ⟨by omega, by omega⟩ ⟨by omega, by omega⟩).mp c_2
      refine lv_iconst (v := iZ 1) hx hb dX12_isSign_16 (by decide) ?_
      refine lv_goto (tgt := 21) hx hb dX12_isSign_17 (by decide) ?_
      exact EPz hx hb hr hlocks (by omega) (Or.inl ⟨rfl, by omega⟩) dX12_isSign_21
set_option maxHeartbeats 4000000 in
set_option maxRecDepth 100000 in
theorem m_fails (l : Launch) (D : va_G) (k : Nat → ClassId) (hm : Nat) (Ma : Nat) (Mn : Nat) (Ms : Nat) (My : Nat) (Mt : Nat) (Mp : Nat) (Mx : Nat) (Mo : Nat) (Mk : Nat) (Ml : Nat) (Mb : Nat) (Mh : Nat) (Mc : Nat) (Mz : Nat) (Mr : Nat) (Mq : Nat) (Mst : Int) (Mtd : Int) (Msz : Int) (Mtk : Int) (Mfr : Int) (Men : Int) (Mva : Int) (Mfk : Int) (Mfp : Int) (Mfs : Int) (Mse : Int) (Mlt : Int) (Mdp : Int) (Mct : Int) (Mdr : Int) (Mrs : Int) (Mit : Int) (Mmk : Int) (Mtp : Int64) (Mbt : Int64) (x : Int) (h9x : 1 ≤ (x : Int) ∧ x ≤ 9) (hFS : 0 ≤ Mfs ∧ Mfs ≤ 9) (htk : 0 ≤ Mtk ∧ Mtk ≤ 4) : WD (σ := ((Nat → Int) × (Nat → Int64) × (Nat → Nat → Int32) × (Nat → Nat → Int64))) l yX12_fails cX12_fails 2 (some .boolean) 0 0 0 D k [.ref hm, .int (iZ x)] [(hm, .inr (12, [.ref Ma, .ref Mn, .int (iZ Mst), .long Mtp, .long Mbt, .ref Ms, .ref My, .ref Mt, .ref Mp, .ref Mx, .int (iZ Mtd), .int (iZ Msz), .int (iZ Mtk), .int (iZ Mfr), .int (iZ Men), .int (iZ Mva), .int (iZ Mfk), .int (iZ Mfp), .int (iZ Mfs), .int (iZ Mse), .int (iZ Mlt), .ref Mo, .int (iZ Mdp), .int (iZ Mct), .ref Mk, .ref Ml, .ref Mb, .ref Mh, .ref Mc, .int (iZ Mdr), .int (iZ Mrs), .ref Mz, .ref Mr, .ref Mq, .int (iZ Mit), .int (iZ Mmk)]))] (fun _ => some (.int (iZ 0))) (fun u => 1 ≤ ((u.1 1) : Int) ∧ ((u.1 1) : Int) ≤ 9) (fun u => [(hm, .inr (12, [.ref Ma, .ref Mn, .int (iZ Mst), .long Mtp, .long Mbt, .ref Ms, .ref My, .ref Mt, .ref Mp, .ref Mx, .int (iZ Mtd), .int (iZ Msz), .int (iZ Mtk), .int (iZ Mfr), .int (iZ Men), .int (iZ Mva), .int (iZ Mfk), .int (iZ (u.1 2)), .int (iZ (u.1 1)), .int (iZ Mse), .int (iZ Mlt), .ref Mo, .int (iZ Mdp), .int (iZ Mct), .ref Mk, .ref Ml, .ref Mb, .ref Mh, .ref Mc, .int (iZ Mdr), .int (iZ Mrs), .ref Mz, .ref Mr, .ref Mq, .int (iZ Mit), .int (iZ Mmk)]))]) := by
  refine MW (by decide) (Nat.le_of_ble_eq_true rfl) (fun p e s m below meth c ls A hx hb hml hr hlocks hin hts hown hKK hP hD hS hA hl => ?_)
  have hK := hKK.1
  have hl : lv_has ls 2 [(0, .ref hm), (1, .int (iZ x))] := hl
  refine lv_aload_n hx hb dX12_fails_0 rfl (lv_at hl 0 rfl) ?_
  refine va_get (D := D) (ci := 12) (v := .int (iZ Mfs)) (C := RX12) (T := TX12) (N := 36) hx hb hts iX12 hown hK hP 0 rfl rfl 18 (by decide) (hts _ qf_X12_152) (fun _ h => h) rfl dX12_fails_1 ?_
  refine lv_if_ne (tgt := 32) hx hb dX12_fails_4 (by decide) (fun c_1 => ?_) (fun c_1 => ?_)
  ·
    have c_1 := mt (zeq (x := iZ Mfs) (y := iZ 0) rfl rfl ⟨by omega, by omega⟩ ⟨by omega, by omega⟩).mpr c_1
    refine lv_iconst (v := iZ 0) hx hb dX12_fails_32 (by decide) ?_
    exact EWz hx hb hr hlocks hS (fun i => [0, Mfs, Mfp].getD i 0, fun i => [0].getD i 0, fun i => [].getD i (fun _ => 0), fun i => [].getD i (fun _ => 0)) rfl rfl (show 1 ≤ (Mfs : Int) ∧ (Mfs : Int) ≤ 9 from (by omega)) (hP.sub [0] rfl) (hD.sub [0] rfl rfl) dX12_fails_33
  ·
    have c_1 := (zeq (x := iZ Mfs) (y := iZ 0) rfl rfl ⟨by omega, by omega⟩ ⟨by omega, by omega⟩).mp c_1
    refine lv_aload_n hx hb dX12_fails_7 rfl (lv_at hl 0 rfl) ?_
    refine lv_aload_n hx hb dX12_fails_8 rfl (lv_at hl 0 rfl) ?_
    refine va_get (D := D) (ci := 12) (v := .int (iZ Mtk)) (C := RX12) (T := TX12) (N := 36) hx hb hts iX12 hown hK hP 0 rfl rfl 12 (by decide) (hts _ qf_X12_127) (fun _ h => h) rfl dX12_fails_9 ?_
    refine lv_iconst (v := iZ 1) hx hb dX12_fails_12 (by decide) ?_
    refine lv_icmp_ne (tgt := 20) hx hb dX12_fails_13 (by decide) (fun c_2 => ?_) (fun c_2 => ?_)
    ·
      have c_2 := mt (zeq (x := iZ Mtk) (y := iZ 1) rfl rfl ⟨by omega, by omega⟩ ⟨by omega, by omega⟩).mpr c_2
      refine lv_iload_n hx hb dX12_fails_20 rfl (lv_at hl 1 rfl) ?_
      refine va_put (D := D) (ci := 12) (v := .int (iZ x)) (ty := .int) (C := RX12) (T := TX12) (N := 36) hx hb hts iX12 tyX12 tyX12_ok nmX12 hown hK hP hD hS 0 rfl rfl 18 (by decide) (hts _ qf_X12_152) (fun _ h => h) rfl (by decide +kernel) rfl rfl (Nat.le_of_ble_eq_true rfl) dX12_fails_21 (fun H locs hP hD hS => ?_)
      refine lv_aload_n hx hb dX12_fails_24 rfl (lv_at hl 0 rfl) ?_
      refine lv_aload_n hx hb dX12_fails_25 rfl (lv_at hl 0 rfl) ?_
      refine va_get (D := D) (ci := 12) (v := .int (iZ Mfr)) (C := RX12) (T := TX12) (N := 36) hx hb hts iX12 hown hK hP 0 rfl rfl 13 (by decide) (hts _ qf_X12_121) (fun _ h => h) rfl dX12_fails_26 ?_
      refine va_put (D := D) (ci := 12) (v := .int (iZ Mfr)) (ty := .int) (C := RX12) (T := TX12) (N := 36) hx hb hts iX12 tyX12 tyX12_ok nmX12 hown hK hP hD hS 0 rfl rfl 17 (by decide) (hts _ qf_X12_41) (fun _ h => h) rfl (by decide +kernel) rfl rfl (Nat.le_of_ble_eq_true rfl) dX12_fails_29 (fun H locs hP hD hS => ?_)
      refine lv_iconst (v := iZ 0) hx hb dX12_fails_32 (by decide) ?_
      exact EWz hx hb hr hlocks hS (fun i => [0, x, Mfr].getD i 0, fun i => [0].getD i 0, fun i => [].getD i (fun _ => 0), fun i => [].getD i (fun _ => 0)) rfl rfl (show 1 ≤ (x : Int) ∧ (x : Int) ≤ 9 from (by omega)) (hP.sub [0] rfl) (hD.sub [0] rfl rfl) dX12_fails_33
    ·
      have c_2 := (zeq (x := iZ Mtk) (y := iZ 1) rfl rfl ⟨by omega, by omega⟩ ⟨by omega, by omega⟩).mp c_2
      refine lv_iconst (v := iZ 1) hx hb dX12_fails_16 (by decide) ?_
      refine lv_goto (tgt := 21) hx hb dX12_fails_17 (by decide) ?_
      refine va_put (D := D) (ci := 12) (v := .int (iZ 1)) (ty := .int) (C := RX12) (T := TX12) (N := 36) hx hb hts iX12 tyX12 tyX12_ok nmX12 hown hK hP hD hS 0 rfl rfl 18 (by decide) (hts _ qf_X12_152) (fun _ h => h) rfl (by decide +kernel) rfl rfl (Nat.le_of_ble_eq_true rfl) dX12_fails_21 (fun H locs hP hD hS => ?_)
      refine lv_aload_n hx hb dX12_fails_24 rfl (lv_at hl 0 rfl) ?_
      refine lv_aload_n hx hb dX12_fails_25 rfl (lv_at hl 0 rfl) ?_
      refine va_get (D := D) (ci := 12) (v := .int (iZ Mfr)) (C := RX12) (T := TX12) (N := 36) hx hb hts iX12 hown hK hP 0 rfl rfl 13 (by decide) (hts _ qf_X12_121) (fun _ h => h) rfl dX12_fails_26 ?_
      refine va_put (D := D) (ci := 12) (v := .int (iZ Mfr)) (ty := .int) (C := RX12) (T := TX12) (N := 36) hx hb hts iX12 tyX12 tyX12_ok nmX12 hown hK hP hD hS 0 rfl rfl 17 (by decide) (hts _ qf_X12_41) (fun _ h => h) rfl (by decide +kernel) rfl rfl (Nat.le_of_ble_eq_true rfl) dX12_fails_29 (fun H locs hP hD hS => ?_)
      refine lv_iconst (v := iZ 0) hx hb dX12_fails_32 (by decide) ?_
      exact EWz hx hb hr hlocks hS (fun i => [0, 1, Mfr].getD i 0, fun i => [0].getD i 0, fun i => [].getD i (fun _ => 0), fun i => [].getD i (fun _ => 0)) rfl rfl (show 1 ≤ (1 : Int) ∧ (1 : Int) ≤ 9 from (by omega)) (hP.sub [0] rfl) (hD.sub [0] rfl rfl) dX12_fails_33
set_option maxHeartbeats 4000000 in
set_option maxRecDepth 100000 in
theorem m_wantSign (l : Launch) (D : va_G) (k : Nat → ClassId) (hm : Nat) (Ma : Nat) (Mn : Nat) (Ms : Nat) (My : Nat) (Mt : Nat) (Mp : Nat) (Mx : Nat) (Mo : Nat) (Mk : Nat) (Ml : Nat) (Mb : Nat) (Mh : Nat) (Mc : Nat) (Mz : Nat) (Mr : Nat) (Mq : Nat) (Mst : Int) (Mtd : Int) (Msz : Int) (Mtk : Int) (Mfr : Int) (Men : Int) (Mva : Int) (Mfk : Int) (Mfp : Int) (Mfs : Int) (Mse : Int) (Mlt : Int) (Mdp : Int) (Mct : Int) (Mdr : Int) (Mrs : Int) (Mit : Int) (Mmk : Int) (Mtp : Int64) (Mbt : Int64) (Xf : Nat → Int32) (x : Int) (hTI : (0 ≤ (Mfr : Int) ∧ (Mfr : Int) ≤ Men) ∧ ((Men : Int) ≤ Msz ∧ (Msz : Int) ≤ 900) ∧ (0 ≤ (Mtk : Int) ∧ (Mtk : Int) ≤ 4) ∧ ((Mtk : Int) = 0 ∨ (Mfr : Int) < Men) ∧ (-1 ≤ (Mva : Int) ∧ (Mva : Int) ≤ 100000)) (hFS : 0 ≤ Mfs ∧ Mfs ≤ 9) (h9x : -2147483648 ≤ x ∧ x < 2147483648) : WD (σ := ((Nat → Int) × (Nat → Int64) × (Nat → Nat → Int32) × (Nat → Nat → Int64))) l yX12_wantSign cX12_wantSign 2 (some .boolean) 2 0 0 D k [.ref hm, .int (iZ x)] [(hm, .inr (12, [.ref Ma, .ref Mn, .int (iZ Mst), .long Mtp, .long Mbt, .ref Ms, .ref My, .ref Mt, .ref Mp, .ref Mx, .int (iZ Mtd), .int (iZ Msz), .int (iZ Mtk), .int (iZ Mfr), .int (iZ Men), .int (iZ Mva), .int (iZ Mfk), .int (iZ Mfp), .int (iZ Mfs), .int (iZ Mse), .int (iZ Mlt), .ref Mo, .int (iZ Mdp), .int (iZ Mct), .ref Mk, .ref Ml, .ref Mb, .ref Mh, .ref Mc, .int (iZ Mdr), .int (iZ Mrs), .ref Mz, .ref Mr, .ref Mq, .int (iZ Mit), .int (iZ Mmk)])), (Mx, .inl (k 0, 900, .inl Xf))] (fun u => some (.int (iZ (u.1 0)))) (fun u => ((0 ≤ ((u.1 2) : Int) ∧ ((u.1 2) : Int) ≤ (u.1 3)) ∧ (((u.1 3) : Int) ≤ Msz ∧ (Msz : Int) ≤ 900) ∧ (0 ≤ ((u.1 1) : Int) ∧ ((u.1 1) : Int) ≤ 4) ∧ (((u.1 1) : Int) = 0 ∨ ((u.1 2) : Int) < (u.1 3)) ∧ (-1 ≤ ((u.1 4) : Int) ∧ ((u.1 4) : Int) ≤ 100000)) ∧ ((0 ≤ ((u.1 5) : Int) ∧ ((u.1 5) : Int) ≤ 9) ∧ (((u.1 0) : Int) = 0 → 1 ≤ ((u.1 5) : Int)) ∧ (((u.1 0) : Int) = 0 ∨ ((u.1 0) : Int) = 1) ∧ Mfr ≤ (u.1 2))) (fun u => [(hm, .inr (12, [.ref Ma, .ref Mn, .int (iZ Mst), .long Mtp, .long Mbt, .ref Ms, .ref My, .ref Mt, .ref Mp, .ref Mx, .int (iZ Mtd), .int (iZ Msz), .int (iZ (u.1 1)), .int (iZ (u.1 2)), .int (iZ (u.1 3)), .int (iZ (u.1 4)), .int (iZ Mfk), .int (iZ (u.1 6)), .int (iZ (u.1 5)), .int (iZ Mse), .int (iZ Mlt), .ref Mo, .int (iZ Mdp), .int (iZ Mct), .ref Mk, .ref Ml, .ref Mb, .ref Mh, .ref Mc, .int (iZ Mdr), .int (iZ Mrs), .ref Mz, .ref Mr, .ref Mq, .int (iZ Mit), .int (iZ Mmk)])), (Mx, .inl (k 0, 900, .inl Xf))]) := by
  refine MW (by decide) (Nat.le_of_ble_eq_true rfl) (fun p e s m below meth c ls A hx hb hml hr hlocks hin hts hown hKK hP hD hS hA hl => ?_)
  have hK := hKK.1
  have hl : lv_has ls 2 [(0, .ref hm), (1, .int (iZ x))] := hl
  refine lv_aload_n hx hb dX12_wantSign_0 rfl (lv_at hl 0 rfl) ?_
  refine lv_iload_n hx hb dX12_wantSign_1 rfl (lv_at hl 1 rfl) ?_
  refine CPV (As := [.int (iZ x)]) (rest := []) hx hb hml hown hts hKK (hP.sub (ws' := [(hm, .inr (12, [.ref Ma, .ref Mn, .int (iZ Mst), .long Mtp, .long Mbt, .ref Ms, .ref My, .ref Mt, .ref Mp, .ref Mx, .int (iZ Mtd), .int (iZ Msz), .int (iZ Mtk), .int (iZ Mfr), .int (iZ Men), .int (iZ Mva), .int (iZ Mfk), .int (iZ Mfp), .int (iZ Mfs), .int (iZ Mse), .int (iZ Mlt), .ref Mo, .int (iZ Mdp), .int (iZ Mct), .ref Mk, .ref Ml, .ref Mb, .ref Mh, .ref Mc, .int (iZ Mdr), .int (iZ Mrs), .ref Mz, .ref Mr, .ref Mq, .int (iZ Mit), .int (iZ Mmk)]))]) [0] rfl) (m_isSign l D k ([.ref Ma, .ref Mn, .int (iZ Mst), .long Mtp, .long Mbt, .ref Ms, .ref My, .ref Mt, .ref Mp, .ref Mx, .int (iZ Mtd), .int (iZ Msz), .int (iZ Mtk), .int (iZ Mfr), .int (iZ Men), .int (iZ Mva), .int (iZ Mfk), .int (iZ Mfp), .int (iZ Mfs), .int (iZ Mse), .int (iZ Mlt), .ref Mo, .int (iZ Mdp), .int (iZ Mct), .ref Mk, .ref Ml, .ref Mb, .ref Mh, .ref Mc, .int (iZ Mdr), .int (iZ Mrs), .ref Mz, .ref Mr, .ref Mq, .int (iZ Mit), .int (iZ Mmk)]) hm Mtk Mva x rfl rfl ⟨by omega, by omega⟩ ⟨by omega, by omega⟩ ⟨by omega, by omega⟩) ci_X12_isSign qm_X12_161 ⟨Nat.le_of_ble_eq_true rfl, Nat.le_of_ble_eq_true rfl⟩ ⟨Nat.le_of_ble_eq_true rfl, Nat.le_of_ble_eq_true rfl⟩ 0 rfl rfl rfl hl.1 rfl (Nat.le_of_ble_eq_true rfl) dX12_wantSign_2 (fun z_1 hz_1 => ?_)
  rcases hz_1 with ⟨qz_1, hz_1⟩ | ⟨qz_1, hz_1⟩
  ·
    subst qz_1
    refine lv_if_ne (tgt := 14) hx hb dX12_wantSign_5 (by decide) (fun _ => ?_) (fun c => absurd c (by decide))
    refine lv_aload_n hx hb dX12_wantSign_14 rfl (lv_at hl 0 rfl) ?_
    refine CWV (As := []) (rest := []) (wc := [(hm, .inr (12, [.ref Ma, .ref Mn, .int (iZ Mst), .long Mtp, .long Mbt, .ref Ms, .ref My, .ref Mt, .ref Mp, .ref Mx, .int (iZ Mtd), .int (iZ Msz), .int (iZ Mtk), .int (iZ Mfr), .int (iZ Men), .int (iZ Mva), .int (iZ Mfk), .int (iZ Mfp), .int (iZ Mfs), .int (iZ Mse), .int (iZ Mlt), .ref Mo, .int (iZ Mdp), .int (iZ Mct), .ref Mk, .ref Ml, .ref Mb, .ref Mh, .ref Mc, .int (iZ Mdr), .int (iZ Mrs), .ref Mz, .ref Mr, .ref Mq, .int (iZ Mit), .int (iZ Mmk)])), (Mx, .inl (k 0, 900, .inl Xf))]) (wr := []) hx hb hml hown hts hKK hP hD hS hA (m_onward l D k hm Ma Mn Ms My Mt Mp Mx Mo Mk Ml Mb Mh Mc Mz Mr Mq Mst Mtd Msz Mtk Mfr Men Mva Mfk Mfp Mfs Mse Mlt Mdp Mct Mdr Mrs Mit Mmk Mtp Mbt Xf ⟨⟨by omega, by omega⟩, by omega⟩) ci_X12_onward qm_X12_158 ⟨Nat.le_of_ble_eq_true rfl, Nat.le_of_ble_eq_true rfl⟩ ⟨Nat.le_of_ble_eq_true rfl, Nat.le_of_ble_eq_true rfl⟩ [0, 1] [] rfl rfl rfl rfl rfl (by decide) 0 rfl rfl rfl hl.1 rfl (Nat.le_of_ble_eq_true rfl) dX12_wantSign_15 (fun u_3 H locs hφ hP hD hS => ?_)
    obtain ⟨I_4, L_5, F_6, G_7⟩ := u_3
    obtain ⟨p_9, p_10⟩ : ((0 ≤ ((I_4 2) : Int) ∧ ((I_4 2) : Int) ≤ (I_4 3)) ∧ (((I_4 3) : Int) ≤ Msz ∧ (Msz : Int) ≤ 900) ∧ (0 ≤ ((I_4 1) : Int) ∧ ((I_4 1) : Int) ≤ 4) ∧ (((I_4 1) : Int) = 0 ∨ ((I_4 2) : Int) < (I_4 3)) ∧ (-1 ≤ ((I_4 4) : Int) ∧ ((I_4 4) : Int) ≤ 100000)) ∧ (Men ≤ (I_4 2)) := hφ
    refine W.eq (g2 := F0 m 18 ls []) rfl ?_
    refine lv_iconst (v := iZ 1) hx hb dX12_wantSign_18 (by decide) ?_
    exact EWz hx hb hr hlocks hS (fun i => [1, (I_4 1), (I_4 2), (I_4 3), (I_4 4), Mfs, Mfp].getD i 0, fun i => [0].getD i 0, fun i => [].getD i (fun _ => 0), fun i => [].getD i (fun _ => 0)) rfl rfl ⟨(show (0 ≤ ((I_4 2) : Int) ∧ ((I_4 2) : Int) ≤ (I_4 3)) ∧ (((I_4 3) : Int) ≤ Msz ∧ (Msz : Int) ≤ 900) ∧ (0 ≤ ((I_4 1) : Int) ∧ ((I_4 1) : Int) ≤ 4) ∧ (((I_4 1) : Int) = 0 ∨ ((I_4 2) : Int) < (I_4 3)) ∧ (-1 ≤ ((I_4 4) : Int) ∧ ((I_4 4) : Int) ≤ 100000) from (by first | with_reducible assumption | exact ⟨⟨by omega, by omega⟩, ⟨by omega, by omega⟩, ⟨by omega, by omega⟩, by omega, by omega, by omega⟩)), (show (0 ≤ (Mfs : Int) ∧ (Mfs : Int) ≤ 9) ∧ ((1 : Int) = 0 → 1 ≤ (Mfs : Int)) ∧ ((1 : Int) = 0 ∨ (1 : Int) = 1) ∧ Mfr ≤ (I_4 2) from ⟨⟨by omega, by omega⟩, fun _ => by omega, by omega, by omega⟩)⟩ (hP.sub [0, 1] rfl) (hD.sub [0, 1] rfl rfl) dX12_wantSign_19
  ·
    subst qz_1
    refine lv_if_ne (tgt := 14) hx hb dX12_wantSign_5 (by decide) (fun c => absurd (by decide) c) (fun _ => ?_)
    refine lv_aload_n hx hb dX12_wantSign_8 rfl (lv_at hl 0 rfl) ?_
    refine lv_iconst (v := iZ 2) hx hb dX12_wantSign_9 (by decide) ?_
    refine CWV (As := [.int (iZ 2)]) (rest := []) (wc := [(hm, .inr (12, [.ref Ma, .ref Mn, .int (iZ Mst), .long Mtp, .long Mbt, .ref Ms, .ref My, .ref Mt, .ref Mp, .ref Mx, .int (iZ Mtd), .int (iZ Msz), .int (iZ Mtk), .int (iZ Mfr), .int (iZ Men), .int (iZ Mva), .int (iZ Mfk), .int (iZ Mfp), .int (iZ Mfs), .int (iZ Mse), .int (iZ Mlt), .ref Mo, .int (iZ Mdp), .int (iZ Mct), .ref Mk, .ref Ml, .ref Mb, .ref Mh, .ref Mc, .int (iZ Mdr), .int (iZ Mrs), .ref Mz, .ref Mr, .ref Mq, .int (iZ Mit), .int (iZ Mmk)]))]) (wr := [(Mx, .inl (k 0, 900, .inl Xf))]) hx hb hml hown hts hKK hP hD hS hA (m_fails l D k hm Ma Mn Ms My Mt Mp Mx Mo Mk Ml Mb Mh Mc Mz Mr Mq Mst Mtd Msz Mtk Mfr Men Mva Mfk Mfp Mfs Mse Mlt Mdp Mct Mdr Mrs Mit Mmk Mtp Mbt 2 ⟨by omega, by omega⟩ ⟨by omega, by omega⟩ ⟨by omega, by omega⟩) ci_X12_fails qm_X12_164 ⟨Nat.le_of_ble_eq_true rfl, Nat.le_of_ble_eq_true rfl⟩ ⟨Nat.le_of_ble_eq_true rfl, Nat.le_of_ble_eq_true rfl⟩ [0] [1] rfl rfl rfl rfl rfl (by decide) 0 rfl rfl rfl hl.1 rfl (Nat.le_of_ble_eq_true rfl) dX12_wantSign_10 (fun u_12 H locs hφ hP hD hS => ?_)
    obtain ⟨I_13, L_14, F_15, G_16⟩ := u_12
    have p_18 : 1 ≤ ((I_13 1) : Int) ∧ ((I_13 1) : Int) ≤ 9 := hφ
    refine W.eq (g2 := F0 m 13 ls [.int (iZ 0)]) rfl ?_
    exact EWz hx hb hr hlocks hS (fun i => [0, Mtk, Mfr, Men, Mva, (I_13 1), (I_13 2)].getD i 0, fun i => [0].getD i 0, fun i => [].getD i (fun _ => 0), fun i => [].getD i (fun _ => 0)) rfl rfl ⟨(show (0 ≤ (Mfr : Int) ∧ (Mfr : Int) ≤ Men) ∧ ((Men : Int) ≤ Msz ∧ (Msz : Int) ≤ 900) ∧ (0 ≤ (Mtk : Int) ∧ (Mtk : Int) ≤ 4) ∧ ((Mtk : Int) = 0 ∨ (Mfr : Int) < Men) ∧ (-1 ≤ (Mva : Int) ∧ (Mva : Int) ≤ 100000) from (by first | with_reducible assumption | exact ⟨⟨by omega, by omega⟩, ⟨by omega, by omega⟩, ⟨by omega, by omega⟩, by omega, by omega, by omega⟩)), (show (0 ≤ ((I_13 1) : Int) ∧ ((I_13 1) : Int) ≤ 9) ∧ ((0 : Int) = 0 → 1 ≤ ((I_13 1) : Int)) ∧ ((0 : Int) = 0 ∨ (0 : Int) = 1) ∧ Mfr ≤ Mfr from ⟨⟨by omega, by omega⟩, fun _ => by omega, by omega, by omega⟩)⟩ (hP.sub [1, 0] rfl) (hD.sub [1, 0] rfl rfl) dX12_wantSign_13
set_option maxHeartbeats 4000000 in
set_option maxRecDepth 100000 in
theorem m_number (l : Launch) (D : va_G) (k : Nat → ClassId) (hm : Nat) (Ma : Nat) (Mn : Nat) (Ms : Nat) (My : Nat) (Mt : Nat) (Mp : Nat) (Mx : Nat) (Mo : Nat) (Mk : Nat) (Ml : Nat) (Mb : Nat) (Mh : Nat) (Mc : Nat) (Mz : Nat) (Mr : Nat) (Mq : Nat) (Mst : Int) (Mtd : Int) (Msz : Int) (Mtk : Int) (Mfr : Int) (Men : Int) (Mva : Int) (Mfk : Int) (Mfp : Int) (Mfs : Int) (Mse : Int) (Mlt : Int) (Mdp : Int) (Mct : Int) (Mdr : Int) (Mrs : Int) (Mit : Int) (Mmk : Int) (Mtp : Int64) (Mbt : Int64) (Xf : Nat → Int32) (Af : Nat → Int32) (x : Int) (y : Int) (w : Int) (hTI : (0 ≤ (Mfr : Int) ∧ (Mfr : Int) ≤ Men) ∧ ((Men : Int) ≤ Msz ∧ (Msz : Int) ≤ 900) ∧ (0 ≤ (Mtk : Int) ∧ (Mtk : Int) ≤ 4) ∧ ((Mtk : Int) = 0 ∨ (Mfr : Int) < Men) ∧ (-1 ≤ (Mva : Int) ∧ (Mva : Int) ≤ 100000)) (hFS : 0 ≤ Mfs ∧ Mfs ≤ 9) (h9x : 0 ≤ x ∧ x < 5340) (h9y : -2147483648 ≤ y ∧ y < 2147483648) (h9w : -2147483648 ≤ w ∧ w < 2147483648) : WD (σ := ((Nat → Int) × (Nat → Int64) × (Nat → Nat → Int32) × (Nat → Nat → Int64))) l yX12_number cX12_number 4 (some .boolean) 2 0 0 D k [.ref hm, .int (iZ x), .int (iZ y), .int (iZ w)] [(hm, .inr (12, [.ref Ma, .ref Mn, .int (iZ Mst), .long Mtp, .long Mbt, .ref Ms, .ref My, .ref Mt, .ref Mp, .ref Mx, .int (iZ Mtd), .int (iZ Msz), .int (iZ Mtk), .int (iZ Mfr), .int (iZ Men), .int (iZ Mva), .int (iZ Mfk), .int (iZ Mfp), .int (iZ Mfs), .int (iZ Mse), .int (iZ Mlt), .ref Mo, .int (iZ Mdp), .int (iZ Mct), .ref Mk, .ref Ml, .ref Mb, .ref Mh, .ref Mc, .int (iZ Mdr), .int (iZ Mrs), .ref Mz, .ref Mr, .ref Mq, .int (iZ Mit), .int (iZ Mmk)])), (Mx, .inl (k 0, 900, .inl Xf)), (Ma, .inl (k 1, 5340, .inl Af))] (fun u => some (.int (iZ (u.1 0)))) (fun u => ((0 ≤ ((u.1 2) : Int) ∧ ((u.1 2) : Int) ≤ (u.1 3)) ∧ (((u.1 3) : Int) ≤ Msz ∧ (Msz : Int) ≤ 900) ∧ (0 ≤ ((u.1 1) : Int) ∧ ((u.1 1) : Int) ≤ 4) ∧ (((u.1 1) : Int) = 0 ∨ ((u.1 2) : Int) < (u.1 3)) ∧ (-1 ≤ ((u.1 4) : Int) ∧ ((u.1 4) : Int) ≤ 100000)) ∧ ((0 ≤ ((u.1 5) : Int) ∧ ((u.1 5) : Int) ≤ 9) ∧ (((u.1 0) : Int) = 0 → 1 ≤ ((u.1 5) : Int)) ∧ (((u.1 0) : Int) = 0 ∨ ((u.1 0) : Int) = 1) ∧ Mfr ≤ (u.1 2)) ∧ ((((u.1 0) : Int) = 0 ∧ (u.2.2.1 0) = Af) ∨ (((u.1 0) : Int) = 1 ∧ ∃ v6 : Int, y ≤ v6 ∧ v6 ≤ w ∧ (u.2.2.1 0) = upd Af (iZ x).toNatClampNeg (iZ v6)))) (fun u => [(hm, .inr (12, [.ref Ma, .ref Mn, .int (iZ Mst), .long Mtp, .long Mbt, .ref Ms, .ref My, .ref Mt, .ref Mp, .ref Mx, .int (iZ Mtd), .int (iZ Msz), .int (iZ (u.1 1)), .int (iZ (u.1 2)), .int (iZ (u.1 3)), .int (iZ (u.1 4)), .int (iZ Mfk), .int (iZ (u.1 6)), .int (iZ (u.1 5)), .int (iZ Mse), .int (iZ Mlt), .ref Mo, .int (iZ Mdp), .int (iZ Mct), .ref Mk, .ref Ml, .ref Mb, .ref Mh, .ref Mc, .int (iZ Mdr), .int (iZ Mrs), .ref Mz, .ref Mr, .ref Mq, .int (iZ Mit), .int (iZ Mmk)])), (Mx, .inl (k 0, 900, .inl Xf)), (Ma, .inl (k 1, 5340, .inl (u.2.2.1 0)))]) := by
  refine MW (by decide) (Nat.le_of_ble_eq_true rfl) (fun p e s m below meth c ls A hx hb hml hr hlocks hin hts hown hKK hP hD hS hA hl => ?_)
  have hK := hKK.1
  have hl : lv_has ls 4 [(0, .ref hm), (1, .int (iZ x)), (2, .int (iZ y)), (3, .int (iZ w))] := hl
  refine lv_aload_n hx hb dX12_number_0 rfl (lv_at hl 0 rfl) ?_
  refine va_get (D := D) (ci := 12) (v := .int (iZ Mtk)) (C := RX12) (T := TX12) (N := 36) hx hb hts iX12 hown hK hP 0 rfl rfl 12 (by decide) (hts _ qf_X12_127) (fun _ h => h) rfl dX12_number_1 ?_
  refine lv_iconst (v := iZ 3) hx hb dX12_number_4 (by decide) ?_
  refine lv_icmp_eq (tgt := 14) hx hb dX12_number_5 (by decide) (fun c_1 => ?_) (fun c_1 => ?_)
  ·
    have c_1 := (zeq (x := iZ Mtk) (y := iZ 3) rfl rfl ⟨by omega, by omega⟩ ⟨by omega, by omega⟩).mp c_1
    refine lv_aload_n hx hb dX12_number_14 rfl (lv_at hl 0 rfl) ?_
    refine va_get (D := D) (ci := 12) (v := .int (iZ Mva)) (C := RX12) (T := TX12) (N := 36) hx hb hts iX12 hown hK hP 0 rfl rfl 15 (by decide) (hts _ qf_X12_124) (fun _ h => h) rfl dX12_number_15 ?_
    refine lv_iload_n hx hb dX12_number_18 rfl (lv_at hl 2 rfl) ?_
    refine lv_icmp_lt (tgt := 30) hx hb dX12_number_19 (by decide) (fun c_2 => ?_) (fun c_2 => ?_)
    ·
      have c_2 := (zlt (x := iZ Mva) (y := iZ y) rfl rfl ⟨by omega, by omega⟩ ⟨by omega, by omega⟩).mp c_2
      refine lv_aload_n hx hb dX12_number_30 rfl (lv_at hl 0 rfl) ?_
      refine lv_iconst (v := iZ 4) hx hb dX12_number_31 (by decide) ?_
      refine CWV (As := [.int (iZ 4)]) (rest := []) (wc := [(hm, .inr (12, [.ref Ma, .ref Mn, .int (iZ Mst), .long Mtp, .long Mbt, .ref Ms, .ref My, .ref Mt, .ref Mp, .ref Mx, .int (iZ Mtd), .int (iZ Msz), .int (iZ Mtk), .int (iZ Mfr), .int (iZ Men), .int (iZ Mva), .int (iZ Mfk), .int (iZ Mfp), .int (iZ Mfs), .int (iZ Mse), .int (iZ Mlt), .ref Mo, .int (iZ Mdp), .int (iZ Mct), .ref Mk, .ref Ml, .ref Mb, .ref Mh, .ref Mc, .int (iZ Mdr), .int (iZ Mrs), .ref Mz, .ref Mr, .ref Mq, .int (iZ Mit), .int (iZ Mmk)]))]) (wr := [(Mx, .inl (k 0, 900, .inl Xf)), (Ma, .inl (k 1, 5340, .inl Af))]) hx hb hml hown hts hKK hP hD hS hA (m_fails l D k hm Ma Mn Ms My Mt Mp Mx Mo Mk Ml Mb Mh Mc Mz Mr Mq Mst Mtd Msz Mtk Mfr Men Mva Mfk Mfp Mfs Mse Mlt Mdp Mct Mdr Mrs Mit Mmk Mtp Mbt 4 ⟨by omega, by omega⟩ ⟨by omega, by omega⟩ ⟨by omega, by omega⟩) ci_X12_fails qm_X12_164 ⟨Nat.le_of_ble_eq_true rfl, Nat.le_of_ble_eq_true rfl⟩ ⟨Nat.le_of_ble_eq_true rfl, Nat.le_of_ble_eq_true rfl⟩ [0] [1, 2] rfl rfl rfl rfl rfl (by decide) 0 rfl rfl rfl hl.1 rfl (Nat.le_of_ble_eq_true rfl) dX12_number_32 (fun u_3 H locs hφ hP hD hS => ?_)
      obtain ⟨I_4, L_5, F_6, G_7⟩ := u_3
      have p_9 : 1 ≤ ((I_4 1) : Int) ∧ ((I_4 1) : Int) ≤ 9 := hφ
      refine W.eq (g2 := F0 m 35 ls [.int (iZ 0)]) rfl ?_
      exact EWz hx hb hr hlocks hS (fun i => [0, Mtk, Mfr, Men, Mva, (I_4 1), (I_4 2)].getD i 0, fun i => [0].getD i 0, fun i => [Af].getD i (fun _ => 0), fun i => [].getD i (fun _ => 0)) rfl rfl ⟨(show (0 ≤ (Mfr : Int) ∧ (Mfr : Int) ≤ Men) ∧ ((Men : Int) ≤ Msz ∧ (Msz : Int) ≤ 900) ∧ (0 ≤ (Mtk : Int) ∧ (Mtk : Int) ≤ 4) ∧ ((Mtk : Int) = 0 ∨ (Mfr : Int) < Men) ∧ (-1 ≤ (Mva : Int) ∧ (Mva : Int) ≤ 100000) from (by first | with_reducible assumption | exact ⟨⟨by omega, by omega⟩, ⟨by omega, by omega⟩, ⟨by omega, by omega⟩, by omega, by omega, by omega⟩)), (show (0 ≤ ((I_4 1) : Int) ∧ ((I_4 1) : Int) ≤ 9) ∧ ((0 : Int) = 0 → 1 ≤ ((I_4 1) : Int)) ∧ ((0 : Int) = 0 ∨ (0 : Int) = 1) ∧ Mfr ≤ Mfr from ⟨⟨by omega, by omega⟩, fun _ => by omega, by omega, by omega⟩), (show ((0 : Int) = 0 ∧ Af = Af) ∨ ((0 : Int) = 1 ∧ ∃ v6 : Int, y ≤ v6 ∧ v6 ≤ w ∧ Af = upd Af (iZ x).toNatClampNeg (iZ v6)) from (Or.inl ⟨rfl, rfl⟩))⟩ (hP.sub [2, 0, 1] rfl) (hD.sub [2, 0, 1] rfl rfl) dX12_number_35
    ·
      have c_2 := mt (zlt (x := iZ Mva) (y := iZ y) rfl rfl ⟨by omega, by omega⟩ ⟨by omega, by omega⟩).mpr c_2
      refine lv_aload_n hx hb dX12_number_22 rfl (lv_at hl 0 rfl) ?_
      refine va_get (D := D) (ci := 12) (v := .int (iZ Mva)) (C := RX12) (T := TX12) (N := 36) hx hb hts iX12 hown hK hP 0 rfl rfl 15 (by decide) (hts _ qf_X12_124) (fun _ h => h) rfl dX12_number_23 ?_
      refine lv_iload_n hx hb dX12_number_26 rfl (lv_at hl 3 rfl) ?_
      refine lv_icmp_le (tgt := 36) hx hb dX12_number_27 (by decide) (fun c_10 => ?_) (fun c_10 => ?_)
      ·
        have c_10 := (zle (x := iZ Mva) (y := iZ w) rfl rfl ⟨by omega, by omega⟩ ⟨by omega, by omega⟩).mp c_10
        refine lv_aload_n hx hb dX12_number_36 rfl (lv_at hl 0 rfl) ?_
        refine va_get (D := D) (ci := 12) (v := .ref Ma) (C := RX12) (T := TX12) (N := 36) hx hb hts iX12 hown hK hP 0 rfl rfl 0 (by decide) (hts _ qf_X12_7) (fun _ h => h) rfl dX12_number_37 ?_
        refine lv_iload_n hx hb dX12_number_40 rfl (lv_at hl 1 rfl) ?_
        refine lv_aload_n hx hb dX12_number_41 rfl (lv_at hl 0 rfl) ?_
        refine va_get (D := D) (ci := 12) (v := .int (iZ Mva)) (C := RX12) (T := TX12) (N := 36) hx hb hts iX12 hown hK hP 0 rfl rfl 15 (by decide) (hts _ qf_X12_124) (fun _ h => h) rfl dX12_number_42 ?_
        refine va_iast hx hb hK hP hD hS 2 1 rfl rfl (zin (e := x) (n := 5340) ⟨by omega, by omega⟩ (by decide)) dX12_number_45 (fun H locs hP hD hS => ?_)
        obtain ⟨f_11, hf_11⟩ : ∃ gg9, gg9 = upd Af (iZ x).toNatClampNeg (iZ Mva) := ⟨_, rfl⟩
        rw [← hf_11] at hP hD
        refine lv_aload_n hx hb dX12_number_46 rfl (lv_at hl 0 rfl) ?_
        refine CWV (As := []) (rest := []) (wc := [(hm, .inr (12, [.ref Ma, .ref Mn, .int (iZ Mst), .long Mtp, .long Mbt, .ref Ms, .ref My, .ref Mt, .ref Mp, .ref Mx, .int (iZ Mtd), .int (iZ Msz), .int (iZ Mtk), .int (iZ Mfr), .int (iZ Men), .int (iZ Mva), .int (iZ Mfk), .int (iZ Mfp), .int (iZ Mfs), .int (iZ Mse), .int (iZ Mlt), .ref Mo, .int (iZ Mdp), .int (iZ Mct), .ref Mk, .ref Ml, .ref Mb, .ref Mh, .ref Mc, .int (iZ Mdr), .int (iZ Mrs), .ref Mz, .ref Mr, .ref Mq, .int (iZ Mit), .int (iZ Mmk)])), (Mx, .inl (k 0, 900, .inl Xf))]) (wr := [(Ma, .inl (k 1, 5340, .inl f_11))]) hx hb hml hown hts hKK hP hD hS hA (m_onward l D k hm Ma Mn Ms My Mt Mp Mx Mo Mk Ml Mb Mh Mc Mz Mr Mq Mst Mtd Msz Mtk Mfr Men Mva Mfk Mfp Mfs Mse Mlt Mdp Mct Mdr Mrs Mit Mmk Mtp Mbt Xf ⟨⟨by omega, by omega⟩, by omega⟩) ci_X12_onward qm_X12_158 ⟨Nat.le_of_ble_eq_true rfl, Nat.le_of_ble_eq_true rfl⟩ ⟨Nat.le_of_ble_eq_true rfl, Nat.le_of_ble_eq_true rfl⟩ [0, 1] [2] rfl rfl rfl rfl rfl (by decide) 0 rfl rfl rfl hl.1 rfl (Nat.le_of_ble_eq_true rfl) dX12_number_47 (fun u_12 H locs hφ hP hD hS => ?_)
        obtain ⟨I_13, L_14, F_15, G_16⟩ := u_12
        obtain ⟨p_18, p_19⟩ : ((0 ≤ ((I_13 2) : Int) ∧ ((I_13 2) : Int) ≤ (I_13 3)) ∧ (((I_13 3) : Int) ≤ Msz ∧ (Msz : Int) ≤ 900) ∧ (0 ≤ ((I_13 1) : Int) ∧ ((I_13 1) : Int) ≤ 4) ∧ (((I_13 1) : Int) = 0 ∨ ((I_13 2) : Int) < (I_13 3)) ∧ (-1 ≤ ((I_13 4) : Int) ∧ ((I_13 4) : Int) ≤ 100000)) ∧ (Men ≤ (I_13 2)) := hφ
        refine W.eq (g2 := F0 m 50 ls []) rfl ?_
        refine lv_iconst (v := iZ 1) hx hb dX12_number_50 (by decide) ?_
        exact EWz hx hb hr hlocks hS (fun i => [1, (I_13 1), (I_13 2), (I_13 3), (I_13 4), Mfs, Mfp].getD i 0, fun i => [0].getD i 0, fun i => [f_11].getD i (fun _ => 0), fun i => [].getD i (fun _ => 0)) rfl rfl ⟨(show (0 ≤ ((I_13 2) : Int) ∧ ((I_13 2) : Int) ≤ (I_13 3)) ∧ (((I_13 3) : Int) ≤ Msz ∧ (Msz : Int) ≤ 900) ∧ (0 ≤ ((I_13 1) : Int) ∧ ((I_13 1) : Int) ≤ 4) ∧ (((I_13 1) : Int) = 0 ∨ ((I_13 2) : Int) < (I_13 3)) ∧ (-1 ≤ ((I_13 4) : Int) ∧ ((I_13 4) : Int) ≤ 100000) from (by first | with_reducible assumption | exact ⟨⟨by omega, by omega⟩, ⟨by omega, by omega⟩, ⟨by omega, by omega⟩, by omega, by omega, by omega⟩)), (show (0 ≤ (Mfs : Int) ∧ (Mfs : Int) ≤ 9) ∧ ((1 : Int) = 0 → 1 ≤ (Mfs : Int)) ∧ ((1 : Int) = 0 ∨ (1 : Int) = 1) ∧ Mfr ≤ (I_13 2) from ⟨⟨by omega, by omega⟩, fun _ => by omega, by omega, by omega⟩), (show ((1 : Int) = 0 ∧ f_11 = Af) ∨ ((1 : Int) = 1 ∧ ∃ v6 : Int, y ≤ v6 ∧ v6 ≤ w ∧ f_11 = upd Af (iZ x).toNatClampNeg (iZ v6)) from (Or.inr ⟨rfl, Mva, by omega, by omega, hf_11⟩))⟩ (hP.sub [1, 2, 0] rfl) (hD.sub [1, 2, 0] rfl rfl) dX12_number_51
      ·
        have c_10 := mt (zle (x := iZ Mva) (y := iZ w) rfl rfl ⟨by omega, by omega⟩ ⟨by omega, by omega⟩).mpr c_10
        refine lv_aload_n hx hb dX12_number_30 rfl (lv_at hl 0 rfl) ?_
        refine lv_iconst (v := iZ 4) hx hb dX12_number_31 (by decide) ?_
        refine CWV (As := [.int (iZ 4)]) (rest := []) (wc := [(hm, .inr (12, [.ref Ma, .ref Mn, .int (iZ Mst), .long Mtp, .long Mbt, .ref Ms, .ref My, .ref Mt, .ref Mp, .ref Mx, .int (iZ Mtd), .int (iZ Msz), .int (iZ Mtk), .int (iZ Mfr), .int (iZ Men), .int (iZ Mva), .int (iZ Mfk), .int (iZ Mfp), .int (iZ Mfs), .int (iZ Mse), .int (iZ Mlt), .ref Mo, .int (iZ Mdp), .int (iZ Mct), .ref Mk, .ref Ml, .ref Mb, .ref Mh, .ref Mc, .int (iZ Mdr), .int (iZ Mrs), .ref Mz, .ref Mr, .ref Mq, .int (iZ Mit), .int (iZ Mmk)]))]) (wr := [(Mx, .inl (k 0, 900, .inl Xf)), (Ma, .inl (k 1, 5340, .inl Af))]) hx hb hml hown hts hKK hP hD hS hA (m_fails l D k hm Ma Mn Ms My Mt Mp Mx Mo Mk Ml Mb Mh Mc Mz Mr Mq Mst Mtd Msz Mtk Mfr Men Mva Mfk Mfp Mfs Mse Mlt Mdp Mct Mdr Mrs Mit Mmk Mtp Mbt 4 ⟨by omega, by omega⟩ ⟨by omega, by omega⟩ ⟨by omega, by omega⟩) ci_X12_fails qm_X12_164 ⟨Nat.le_of_ble_eq_true rfl, Nat.le_of_ble_eq_true rfl⟩ ⟨Nat.le_of_ble_eq_true rfl, Nat.le_of_ble_eq_true rfl⟩ [0] [1, 2] rfl rfl rfl rfl rfl (by decide) 0 rfl rfl rfl hl.1 rfl (Nat.le_of_ble_eq_true rfl) dX12_number_32 (fun u_20 H locs hφ hP hD hS => ?_)
        obtain ⟨I_21, L_22, F_23, G_24⟩ := u_20
        have p_26 : 1 ≤ ((I_21 1) : Int) ∧ ((I_21 1) : Int) ≤ 9 := hφ
        refine W.eq (g2 := F0 m 35 ls [.int (iZ 0)]) rfl ?_
        exact EWz hx hb hr hlocks hS (fun i => [0, Mtk, Mfr, Men, Mva, (I_21 1), (I_21 2)].getD i 0, fun i => [0].getD i 0, fun i => [Af].getD i (fun _ => 0), fun i => [].getD i (fun _ => 0)) rfl rfl ⟨(show (0 ≤ (Mfr : Int) ∧ (Mfr : Int) ≤ Men) ∧ ((Men : Int) ≤ Msz ∧ (Msz : Int) ≤ 900) ∧ (0 ≤ (Mtk : Int) ∧ (Mtk : Int) ≤ 4) ∧ ((Mtk : Int) = 0 ∨ (Mfr : Int) < Men) ∧ (-1 ≤ (Mva : Int) ∧ (Mva : Int) ≤ 100000) from (by first | with_reducible assumption | exact ⟨⟨by omega, by omega⟩, ⟨by omega, by omega⟩, ⟨by omega, by omega⟩, by omega, by omega, by omega⟩)), (show (0 ≤ ((I_21 1) : Int) ∧ ((I_21 1) : Int) ≤ 9) ∧ ((0 : Int) = 0 → 1 ≤ ((I_21 1) : Int)) ∧ ((0 : Int) = 0 ∨ (0 : Int) = 1) ∧ Mfr ≤ Mfr from ⟨⟨by omega, by omega⟩, fun _ => by omega, by omega, by omega⟩), (show ((0 : Int) = 0 ∧ Af = Af) ∨ ((0 : Int) = 1 ∧ ∃ v6 : Int, y ≤ v6 ∧ v6 ≤ w ∧ Af = upd Af (iZ x).toNatClampNeg (iZ v6)) from (Or.inl ⟨rfl, rfl⟩))⟩ (hP.sub [2, 0, 1] rfl) (hD.sub [2, 0, 1] rfl rfl) dX12_number_35
  ·
    have c_1 := mt (zeq (x := iZ Mtk) (y := iZ 3) rfl rfl ⟨by omega, by omega⟩ ⟨by omega, by omega⟩).mpr c_1
    refine lv_aload_n hx hb dX12_number_8 rfl (lv_at hl 0 rfl) ?_
    refine lv_iconst (v := iZ 2) hx hb dX12_number_9 (by decide) ?_
    refine CWV (As := [.int (iZ 2)]) (rest := []) (wc := [(hm, .inr (12, [.ref Ma, .ref Mn, .int (iZ Mst), .long Mtp, .long Mbt, .ref Ms, .ref My, .ref Mt, .ref Mp, .ref Mx, .int (iZ Mtd), .int (iZ Msz), .int (iZ Mtk), .int (iZ Mfr), .int (iZ Men), .int (iZ Mva), .int (iZ Mfk), .int (iZ Mfp), .int (iZ Mfs), .int (iZ Mse), .int (iZ Mlt), .ref Mo, .int (iZ Mdp), .int (iZ Mct), .ref Mk, .ref Ml, .ref Mb, .ref Mh, .ref Mc, .int (iZ Mdr), .int (iZ Mrs), .ref Mz, .ref Mr, .ref Mq, .int (iZ Mit), .int (iZ Mmk)]))]) (wr := [(Mx, .inl (k 0, 900, .inl Xf)), (Ma, .inl (k 1, 5340, .inl Af))]) hx hb hml hown hts hKK hP hD hS hA (m_fails l D k hm Ma Mn Ms My Mt Mp Mx Mo Mk Ml Mb Mh Mc Mz Mr Mq Mst Mtd Msz Mtk Mfr Men Mva Mfk Mfp Mfs Mse Mlt Mdp Mct Mdr Mrs Mit Mmk Mtp Mbt 2 ⟨by omega, by omega⟩ ⟨by omega, by omega⟩ ⟨by omega, by omega⟩) ci_X12_fails qm_X12_164 ⟨Nat.le_of_ble_eq_true rfl, Nat.le_of_ble_eq_true rfl⟩ ⟨Nat.le_of_ble_eq_true rfl, Nat.le_of_ble_eq_true rfl⟩ [0] [1, 2] rfl rfl rfl rfl rfl (by decide) 0 rfl rfl rfl hl.1 rfl (Nat.le_of_ble_eq_true rfl) dX12_number_10 (fun u_27 H locs hφ hP hD hS => ?_)
    obtain ⟨I_28, L_29, F_30, G_31⟩ := u_27
    have p_33 : 1 ≤ ((I_28 1) : Int) ∧ ((I_28 1) : Int) ≤ 9 := hφ
    refine W.eq (g2 := F0 m 13 ls [.int (iZ 0)]) rfl ?_
    exact EWz hx hb hr hlocks hS (fun i => [0, Mtk, Mfr, Men, Mva, (I_28 1), (I_28 2)].getD i 0, fun i => [0].getD i 0, fun i => [Af].getD i (fun _ => 0), fun i => [].getD i (fun _ => 0)) rfl rfl ⟨(show (0 ≤ (Mfr : Int) ∧ (Mfr : Int) ≤ Men) ∧ ((Men : Int) ≤ Msz ∧ (Msz : Int) ≤ 900) ∧ (0 ≤ (Mtk : Int) ∧ (Mtk : Int) ≤ 4) ∧ ((Mtk : Int) = 0 ∨ (Mfr : Int) < Men) ∧ (-1 ≤ (Mva : Int) ∧ (Mva : Int) ≤ 100000) from (by first | with_reducible assumption | exact ⟨⟨by omega, by omega⟩, ⟨by omega, by omega⟩, ⟨by omega, by omega⟩, by omega, by omega, by omega⟩)), (show (0 ≤ ((I_28 1) : Int) ∧ ((I_28 1) : Int) ≤ 9) ∧ ((0 : Int) = 0 → 1 ≤ ((I_28 1) : Int)) ∧ ((0 : Int) = 0 ∨ (0 : Int) = 1) ∧ Mfr ≤ Mfr from ⟨⟨by omega, by omega⟩, fun _ => by omega, by omega, by omega⟩), (show ((0 : Int) = 0 ∧ Af = Af) ∨ ((0 : Int) = 1 ∧ ∃ v6 : Int, y ≤ v6 ∧ v6 ≤ w ∧ Af = upd Af (iZ x).toNatClampNeg (iZ v6)) from (Or.inl ⟨rfl, rfl⟩))⟩ (hP.sub [2, 0, 1] rfl) (hD.sub [2, 0, 1] rfl rfl) dX12_number_13
set_option maxHeartbeats 4000000 in
set_option maxRecDepth 100000 in
theorem m_nameHere (l : Launch) (D : va_G) (k : Nat → ClassId) (fs : List Value) (hm : Nat) (Mx : Nat) (Msz : Int) (Mfr : Int) (Men : Int) (Xf : Nat → Int32) (f9 : fs[9]? = some (.ref Mx)) (f11 : fs[11]? = some (.int (iZ Msz))) (f13 : fs[13]? = some (.int (iZ Mfr))) (f14 : fs[14]? = some (.int (iZ Men))) (hnh : (0 ≤ Mfr ∧ Mfr ≤ Men) ∧ (Men ≤ Msz ∧ Msz ≤ 900)) : WD (σ := ((Nat → Int) × (Nat → Int64) × (Nat → Nat → Int32) × (Nat → Nat → Int64))) l yX12_nameHere cX12_nameHere 4 (some .long) 1 0 0 D k [.ref hm] [(hm, .inr (12, fs)), (Mx, .inl (k 0, 900, .inl Xf))] (fun u => some (.long (u.2.1 0))) (fun _ => True) (fun u => [(hm, .inr (12, fs)), (Mx, .inl (k 0, 900, .inl Xf))]) := by
  refine MW (by decide) (Nat.le_of_ble_eq_true rfl) (fun p e s m below meth c ls A hx hb hml hr hlocks hin hts hown hKK hP hD hS hA hl => ?_)
  have hK := hKK.1
  have hl : lv_has ls 4 [(0, .ref hm)] := hl
  refine lv_lconst (v := 0) hx hb dX12_nameHere_0 rfl ?_
  refine lv_lstore_n (lv' := [(1, .long 0), (0, .ref hm)]) hx hb dX12_nameHere_1 rfl hl (by decide) rfl (fun ls hl => ?_)
  refine lv_aload_n hx hb dX12_nameHere_2 rfl (lv_at hl 1 rfl) ?_
  refine va_get (D := D) (ci := 12) (v := .int (iZ Mfr)) (C := RX12) (T := TX12) (N := 36) hx hb hts iX12 hown hK hP 0 rfl rfl 13 (by decide) (hts _ qf_X12_121) (fun _ h => h) f13 dX12_nameHere_3 ?_
  refine lv_istore_n (lv' := [(3, .int (iZ Mfr)), (1, .long 0), (0, .ref hm)]) hx hb dX12_nameHere_6 rfl hl (by decide) rfl (fun ls hl => ?_)
  have HL7 : ∀ (fu : Nat) (v1_7 : Int64) (v3_7 : Int) (H : Heap) (locs : List Loc) (ls : Array Slot), ((Men) + 2 - v3_7) < (fu : Int) → ((Mfr ≤ v3_7 ∧ v3_7 ≤ (Men) + 1)) → va_P D vwCl [(hm, .inr (12, fs)), (Mx, .inl (k 0, 900, .inl Xf))] H → va_D A [(hm, .inr (12, fs)), (Mx, .inl (k 0, 900, .inl Xf))] → va_S A s.heap H locs → lv_has ls 4 [(3, .int (iZ v3_7)), (1, .long v1_7), (0, .ref hm)] → W p l e (rj 1 0 0) s m [.ref hm].toArray below meth c H locs 0 0 (MQ below (QW (σ := ((Nat → Int) × (Nat → Int64) × (Nat → Nat → Int32) × (Nat → Nat → Int64))) (fun u => some (.long (u.2.1 0))) (fun _ => True) (fun u => [(hm, .inr (12, fs)), (Mx, .inl (k 0, 900, .inl Xf))]) D A) [.ref hm].toArray s 0 0 A) (F0 m 7 ls []) := by
    intro fu
    induction fu with
    | zero => intro v1_7 v3_7 H locs ls hμ7 hi7 hP hD hS hl; exact absurd hμ7 (by omega)
    | succ fu ih7 =>
      intro v1_7 v3_7 H locs ls hμ7 hi7 hP hD hS hl
      refine lv_iload_n hx hb dX12_nameHere_7 rfl (lv_at hl 0 rfl) ?_
      refine lv_aload_n hx hb dX12_nameHere_8 rfl (lv_at hl 2 rfl) ?_
      refine va_get (D := D) (ci := 12) (v := .int (iZ Men)) (C := RX12) (T := TX12) (N := 36) hx hb hts iX12 hown hK hP 0 rfl rfl 14 (by decide) (hts _ qf_X12_115) (fun _ h => h) f14 dX12_nameHere_9 ?_
      refine lv_icmp_ge (tgt := 33) hx hb dX12_nameHere_12 (by decide) (fun c_1 => ?_) (fun c_1 => ?_)
      ·
        have c_1 := (zle (x := iZ Men) (y := iZ v3_7) rfl rfl ⟨by omega, by omega⟩ ⟨by omega, by omega⟩).mp c_1
        refine lv_lload_n hx hb dX12_nameHere_33 rfl (lv_at hl 1 rfl) ?_
        exact EWl hx hb hr hlocks hS (fun i => [0].getD i 0, fun i => [v1_7].getD i 0, fun i => [].getD i (fun _ => 0), fun i => [].getD i (fun _ => 0)) rfl trivial (hP.sub [0, 1] rfl) (hD.sub [0, 1] rfl rfl) dX12_nameHere_34
      ·
        have c_1 := mt (zle (x := iZ Men) (y := iZ v3_7) rfl rfl ⟨by omega, by omega⟩ ⟨by omega, by omega⟩).mpr c_1
        refine lv_lload_n hx hb dX12_nameHere_15 rfl (lv_at hl 1 rfl) ?_
        refine lv_bipush (v := iZ 8) hx hb dX12_nameHere_16 (by decide) ?_
        refine lv_lshl (v := _) hx hb dX12_nameHere_18 rfl ?_
        refine lv_topl (fun y_2 ey_2 => ?_)
        refine lv_aload_n hx hb dX12_nameHere_19 rfl (lv_at hl 2 rfl) ?_
        refine lv_iload_n hx hb dX12_nameHere_20 rfl (lv_at hl 0 rfl) ?_
        refine CRV (As := [.int (iZ v3_7)]) (rest := [.long y_2]) hx hb hml hown hts hKK hP (m_byteAt l D k fs hm Mx Msz Xf v3_7 f9 f11 ⟨by omega, by omega⟩ ⟨by omega, by omega⟩) ci_X12_byteAt qm_X12_118 ⟨Nat.le_of_ble_eq_true rfl, Nat.le_of_ble_eq_true rfl⟩ ⟨Nat.le_of_ble_eq_true rfl, Nat.le_of_ble_eq_true rfl⟩ 0 rfl rfl rfl hl.1 rfl (Nat.le_of_ble_eq_true rfl) dX12_nameHere_21 ?_
        have hb_h_3 := bA_rg Xf Msz v3_7
        refine lv_i2l (v := (iZ (bA Xf Msz v3_7)).toInt64) hx hb dX12_nameHere_24 rfl ?_
        refine lv_lor hx hb dX12_nameHere_25 ?_
        refine lv_topl (fun y_4 ey_4 => ?_)
        refine lv_lstore_n (lv' := [(1, .long y_4), (3, .int (iZ v3_7)), (0, .ref hm)]) hx hb dX12_nameHere_26 rfl hl (by decide) rfl (fun ls hl => ?_)
        refine lv_iinc (v := iZ (v3_7 + 1)) (lv' := [(3, .int (iZ (v3_7 + 1))), (1, .long y_4), (0, .ref hm)]) hx hb dX12_nameHere_27 hl (k := 1) rfl (iZ_add v3_7 1) (by decide) rfl (fun ls hl => ?_)
        refine lv_goto (tgt := 7) hx hb dX12_nameHere_30 (by decide) ?_
        exact ih7  y_4 (v3_7 + 1) _ _ _ (by omega) (show (Mfr ≤ (v3_7 + 1) ∧ (v3_7 + 1) ≤ (Men) + 1) from ⟨by omega, by omega⟩) (hP.sub [0, 1] rfl) (hD.sub [0, 1] rfl rfl) hS (lv_sub hl [0, 1, 2] rfl)
  exact HL7 904 0 Mfr _ _ _ (by omega) (show (Mfr ≤ Mfr ∧ Mfr ≤ (Men) + 1) from ⟨by omega, by omega⟩) (hP.sub [0, 1] rfl) (hD.sub [0, 1] rfl rfl) hS (lv_sub hl [0, 1, 2] rfl)
set_option maxHeartbeats 4000000 in
set_option maxRecDepth 100000 in
theorem m_findHere (l : Launch) (D : va_G) (k : Nat → ClassId) (fs : List Value) (hm : Nat) (Mx : Nat) (Mn : Nat) (Msz : Int) (Mfr : Int) (Men : Int) (x : Int) (y : Int) (Xf : Nat → Int32) (Nf : Nat → Int64) (f9 : fs[9]? = some (.ref Mx)) (f11 : fs[11]? = some (.int (iZ Msz))) (f13 : fs[13]? = some (.int (iZ Mfr))) (f14 : fs[14]? = some (.int (iZ Men))) (f1 : fs[1]? = some (.ref Mn)) (hnh : (0 ≤ Mfr ∧ Mfr ≤ Men) ∧ (Men ≤ Msz ∧ Msz ≤ 900)) (h9x : 0 ≤ x ∧ x ≤ 30) (h9y : 0 ≤ y ∧ y ≤ 6) : WD (σ := ((Nat → Int) × (Nat → Int64) × (Nat → Nat → Int32) × (Nat → Nat → Int64))) l yX12_findHere cX12_findHere 4 (some .int) 2 0 0 D k [.ref hm, .int (iZ x), .int (iZ y)] [(hm, .inr (12, fs)), (Mx, .inl (k 0, 900, .inl Xf)), (Mn, .inl (k 2, 36, .inr (.inl Nf)))] (fun u => some (.int (iZ (u.1 0)))) (fun u => -1 ≤ (u.1 0) ∧ ((u.1 0) < y ∨ (u.1 0) = -1)) (fun u => [(hm, .inr (12, fs)), (Mx, .inl (k 0, 900, .inl Xf)), (Mn, .inl (k 2, 36, .inr (.inl Nf)))]) := by
  refine MW (by decide) (Nat.le_of_ble_eq_true rfl) (fun p e s m below meth c ls A hx hb hml hr hlocks hin hts hown hKK hP hD hS hA hl => ?_)
  have hK := hKK.1
  have hl : lv_has ls 4 [(0, .ref hm), (1, .int (iZ x)), (2, .int (iZ y))] := hl
  refine lv_iconst (v := iZ 0) hx hb dX12_findHere_0 (by decide) ?_
  refine lv_istore_n (lv' := [(3, .int (iZ 0)), (0, .ref hm), (1, .int (iZ x)), (2, .int (iZ y))]) hx hb dX12_findHere_1 rfl hl (by decide) rfl (fun ls hl => ?_)
  have HL2 : ∀ (fu : Nat) (v3_2 : Int) (H : Heap) (locs : List Loc) (ls : Array Slot), ((y) + 2 - v3_2) < (fu : Int) → ((0 ≤ v3_2 ∧ v3_2 ≤ (y) + 1)) → va_P D vwCl [(hm, .inr (12, fs)), (Mx, .inl (k 0, 900, .inl Xf)), (Mn, .inl (k 2, 36, .inr (.inl Nf)))] H → va_D A [(hm, .inr (12, fs)), (Mx, .inl (k 0, 900, .inl Xf)), (Mn, .inl (k 2, 36, .inr (.inl Nf)))] → va_S A s.heap H locs → lv_has ls 4 [(3, .int (iZ v3_2)), (0, .ref hm), (1, .int (iZ x)), (2, .int (iZ y))] → W p l e (rj 2 0 0) s m [.ref hm, .int (iZ x), .int (iZ y)].toArray below meth c H locs 0 0 (MQ below (QW (σ := ((Nat → Int) × (Nat → Int64) × (Nat → Nat → Int32) × (Nat → Nat → Int64))) (fun u => some (.int (iZ (u.1 0)))) (fun u => -1 ≤ (u.1 0) ∧ ((u.1 0) < y ∨ (u.1 0) = -1)) (fun u => [(hm, .inr (12, fs)), (Mx, .inl (k 0, 900, .inl Xf)), (Mn, .inl (k 2, 36, .inr (.inl Nf)))]) D A) [.ref hm, .int (iZ x), .int (iZ y)].toArray s 0 0 A) (F0 m 2 ls []) := by
    intro fu
    induction fu with
    | zero => intro v3_2 H locs ls hμ2 hi2 hP hD hS hl; exact absurd hμ2 (by omega)
    | succ fu ih2 =>
      intro v3_2 H locs ls hμ2 hi2 hP hD hS hl
      refine lv_iload_n hx hb dX12_findHere_2 rfl (lv_at hl 0 rfl) ?_
      refine lv_iload_n hx hb dX12_findHere_3 rfl (lv_at hl 3 rfl) ?_
      refine lv_icmp_ge (tgt := 31) hx hb dX12_findHere_4 (by decide) (fun c_1 => ?_) (fun c_1 => ?_)
      ·
        have c_1 := (zle (x := iZ y) (y := iZ v3_2) rfl rfl ⟨by omega, by omega⟩ ⟨by omega, by omega⟩).mp c_1
        refine lv_iconst (v := iZ (-1)) hx hb dX12_findHere_31 (by decide) ?_
        exact EWi hx hb hr hlocks hS (fun i => [(-1)].getD i 0, fun i => [0].getD i 0, fun i => [].getD i (fun _ => 0), fun i => [].getD i (fun _ => 0)) rfl (show -1 ≤ (-1) ∧ ((-1) < y ∨ (-1) = -1) from (by omega)) (hP.sub [0, 1, 2] rfl) (hD.sub [0, 1, 2] rfl rfl) dX12_findHere_32
      ·
        have c_1 := mt (zle (x := iZ y) (y := iZ v3_2) rfl rfl ⟨by omega, by omega⟩ ⟨by omega, by omega⟩).mpr c_1
        refine lv_aload_n hx hb dX12_findHere_7 rfl (lv_at hl 1 rfl) ?_
        refine va_get (D := D) (ci := 12) (v := .ref Mn) (C := RX12) (T := TX12) (N := 36) hx hb hts iX12 hown hK hP 0 rfl rfl 1 (by decide) (hts _ qf_X12_13) (fun _ h => h) f1 dX12_findHere_8 ?_
        refine lv_iload_n hx hb dX12_findHere_11 rfl (lv_at hl 2 rfl) ?_
        refine lv_iload_n hx hb dX12_findHere_12 rfl (lv_at hl 0 rfl) ?_
        refine lv_iadd hx hb dX12_findHere_13 ?_
        refine lv_topi (fun x_2 ex_2 => ?_)
        obtain rfl : x_2 = iZ (x + v3_2) := ex_2.trans (iZ_add x v3_2)
        refine va_lald hx hb hK hP 2 2 rfl rfl (zin (e := (x + v3_2)) (n := 36) ⟨by omega, by omega⟩ (by decide)) dX12_findHere_14 ?_
        refine lv_topl (fun y_3 ey_3 => ?_)
        refine lv_aload_n hx hb dX12_findHere_15 rfl (lv_at hl 1 rfl) ?_
        refine CWV (As := []) (rest := [.long y_3]) (wc := [(hm, .inr (12, fs)), (Mx, .inl (k 0, 900, .inl Xf))]) (wr := [(Mn, .inl (k 2, 36, .inr (.inl Nf)))]) hx hb hml hown hts hKK hP hD hS hA (m_nameHere l D k fs hm Mx Msz Mfr Men Xf f9 f11 f13 f14 ⟨⟨by omega, by omega⟩, by omega, by omega⟩) ci_X12_nameHere qm_X12_171 ⟨Nat.le_of_ble_eq_true rfl, Nat.le_of_ble_eq_true rfl⟩ ⟨Nat.le_of_ble_eq_true rfl, Nat.le_of_ble_eq_true rfl⟩ [0, 1] [2] rfl rfl rfl rfl rfl (by decide) 0 rfl rfl rfl hl.1 rfl (Nat.le_of_ble_eq_true rfl) dX12_findHere_16 (fun u_4 H locs hφ hP hD hS => ?_)
        obtain ⟨I_5, L_6, F_7, G_8⟩ := u_4
        refine W.eq (g2 := F0 m 19 ls [.long (L_6 0), .long y_3]) rfl ?_
        refine W.lcmp hx hb dX12_findHere_19 ?_
        refine lv_if_ne (tgt := 25) hx hb dX12_findHere_20 (by decide) (fun c_10 => ?_) (fun c_10 => ?_)
        ·
          refine lv_iinc (v := iZ (v3_2 + 1)) (lv' := [(3, .int (iZ (v3_2 + 1))), (0, .ref hm), (1, .int (iZ x)), (2, .int (iZ y))]) hx hb dX12_findHere_25 hl (k := 0) rfl (iZ_add v3_2 1) (by decide) rfl (fun ls hl => ?_)
          refine lv_goto (tgt := 2) hx hb dX12_findHere_28 (by decide) ?_
          exact ih2  (v3_2 + 1) _ _ _ (by omega) (show (0 ≤ (v3_2 + 1) ∧ (v3_2 + 1) ≤ (y) + 1) from ⟨by omega, by omega⟩) (hP.sub [1, 2, 0] rfl) (hD.sub [1, 2, 0] rfl rfl) hS (lv_sub hl [0, 1, 2, 3] rfl)
        ·
          refine lv_iload_n hx hb dX12_findHere_23 rfl (lv_at hl 0 rfl) ?_
          exact EWi hx hb hr hlocks hS (fun i => [v3_2].getD i 0, fun i => [0].getD i 0, fun i => [].getD i (fun _ => 0), fun i => [].getD i (fun _ => 0)) rfl (show -1 ≤ v3_2 ∧ (v3_2 < y ∨ v3_2 = -1) from (by omega)) (hP.sub [1, 2, 0] rfl) (hD.sub [1, 2, 0] rfl rfl) dX12_findHere_24
  exact HL2 9 0 _ _ _ (by omega) (show (0 ≤ 0 ∧ 0 ≤ (y) + 1) from ⟨by omega, by omega⟩) (hP.sub [0, 1, 2] rfl) (hD.sub [0, 1, 2] rfl rfl) hS (lv_sub hl [0, 1, 2, 3] rfl)
