set_option maxHeartbeats 4000000 in
set_option maxRecDepth 100000 in
theorem k_openedRow (l : Launch) (D : va_G) (k : Nat → ClassId) (h hs : Nat) (r0 : Ry) (f g : Nat → Int32) (n ni : Int) (hn : n ≤ 6) (hRT : RT k (RX f g n ni) r0) (a b : Int) (ha0 : 0 ≤ a ∧ a < 6) (hb0 : 0 ≤ b ∧ b < 6) : XD (σ := (Int × Ry)) l yX3_openedRow cX3_openedRow 6 (some .int) 0 r0 D k [.ref h, .int (iZ a), .int (iZ b)] [(h, .inr (3, [.ref hs, .long r0.op, r0.vA, r0.vL]))] (fun u => u.2) (fun u => some (.int (iZ u.1))) (fun u => (u.1 = ((a * 6) + b) * 401 ∧ u.2.b = false ∧ OB u.2.op ((a * 6) + b) ∧ (∀ d : Int, 0 ≤ d → d < 36 → OB r0.op d → OB u.2.op d)) ∧ RT k (RX f g n ni) u.2) (fun u => [(h, .inr (3, [.ref hs, .long u.2.op, u.2.vA, u.2.vL]))]) := by
  refine MX (by decide) (Nat.le_of_ble_eq_true rfl) (fun p e s m below meth c ls A hx hb hml hr hlocks hin hts hown hKK hP hD hS hA hl => ?_)
  have hK := hKK.1
  have hl : lv_has ls 6 [(0, .ref h), (1, .int (iZ a)), (2, .int (iZ b))] := hl
  obtain ⟨r1, hr1⟩ : ∃ r1 : Ry, r1 = r0 := ⟨_, rfl⟩
  have rt1 : RT k (RX f g n ni) r1 := by rw [hr1]; exact hRT
  have hP : va_P D vwCl ((h, .inr (3, [.ref hs, .long r1.op, r1.vA, r1.vL])) :: r1.tl) s.heap := by rw [hr1]; exact hP
  have hD : va_D A ((h, .inr (3, [.ref hs, .long r1.op, r1.vA, r1.vL])) :: r1.tl) := by rw [hr1]; exact hD
  refine W.ceq (cells' := cz r0.b r1.b) (slots' := sz r0.b r1.b) (by rw [hr1]) (by rw [hr1]) ?_
  have hH0 := hr1
  rcases Bool.eq_false_or_eq_true r1.b with hm | hm
  ·
    obtain rfl := RT.not rt1 hm
    have hq : r0.b = true := congrArg Ry.b hr1.symm
    have hop : r0.op = 0 := congrArg Ry.op hr1.symm
    refine W.ceq (cells' := cz r0.b true) (slots' := sz r0.b true) rfl rfl ?_
    refine lv_iload_n hx hb dX3_openedRow_0 rfl (lv_at hl 1 rfl) ?_
    refine lv_bipush (v := iZ 6) hx hb dX3_openedRow_1 bip_6 ?_
    refine lv_imul hx hb dX3_openedRow_3 ?_
    refine lv_topi (fun x_1 ex_1 => ?_)
    obtain rfl : x_1 = iZ (a * 6) := ex_1.trans (iZ_mul a 6)
    refine lv_iload_n hx hb dX3_openedRow_4 rfl (lv_at hl 2 rfl) ?_
    refine lv_iadd hx hb dX3_openedRow_5 ?_
    refine lv_topi (fun x_2 ex_2 => ?_)
    obtain rfl : x_2 = iZ ((a * 6) + b) := ex_2.trans (iZ_add (a * 6) b)
    refine lv_istore_n (lv' := [(3, .int (iZ ((a * 6) + b))), (0, .ref h), (1, .int (iZ a)), (2, .int (iZ b))]) hx hb dX3_openedRow_6 rfl hl (bl rfl) rfl (fun ls hl => ?_)
    refine lv_iload_n hx hb dX3_openedRow_7 rfl (lv_at hl 0 rfl) ?_
    refine lv_sipush (v := iZ 401) hx hb dX3_openedRow_8 sip_401 ?_
    refine lv_imul hx hb dX3_openedRow_11 ?_
    refine lv_topi (fun x_3 ex_3 => ?_)
    obtain rfl : x_3 = iZ (((a * 6) + b) * 401) := ex_3.trans (iZ_mul ((a * 6) + b) 401)
    refine lv_istore (lv' := [(4, .int (iZ (((a * 6) + b) * 401))), (3, .int (iZ ((a * 6) + b))), (0, .ref h), (1, .int (iZ a)), (2, .int (iZ b))]) hx hb dX3_openedRow_12 hl (bl rfl) rfl (fun ls hl => ?_)
    refine lv_aload_n hx hb dX3_openedRow_14 rfl (lv_at hl 2 rfl) ?_
    refine va_get (D := D) (ci := 3) (v := .null) (C := RX3) (T := TX3) (N := 4) hx hb hts iX3 hown hK hP 0 rfl rfl 2 (bl rfl) (hts _ qf_X3_19) (fun _ h => h) rfl dX3_openedRow_15 ?_
    refine lv_ifnullN (tgt := 28) hx hb dX3_openedRow_18 rfl ?_
    refine lv_aload_n hx hb dX3_openedRow_28 rfl (lv_at hl 2 rfl) ?_
    refine lv_sipush (v := iZ 14436) hx hb dX3_openedRow_29 sip_14436 ?_
    refine nwa (atype := .int) (t := 1) (a0 := (14436, .inl (fun _ => 0))) hx hb (hts _ qa_int) rfl rfl hKK hP hD hS hA (fun _ => rfl) (by decide) (by decide +kernel) (by decide) (by show cz r0.b true + 1 ≤ rcN r0.b; rw [hq]; decide) (by show sz r0.b true + 14436 ≤ rsN r0.b; rw [hq]; exact Nat.le_of_ble_eq_true rfl) dX3_openedRow_32 (fun a_4 H hP hD hS => ?_)
    have rgzA : rgI (fun _ => 0) (-2) 420 14436 := rg_zero (by omega) (by omega)
    refine va_put (D := D) (ci := 3) (v := .ref a_4) (ty := (tyX3 2)) (C := RX3) (T := TX3) (N := 4) hx hb hts iX3 tyX3 tyX3_ok nmX3 hown hK hP hD hS 0 rfl rfl 2 (bl rfl) (hts _ qf_X3_19) (fun _ h => h) rfl (by decide +kernel) rfl rfl (Nat.le_of_ble_eq_true rfl) dX3_openedRow_34 (fun H locs hP hD hS => ?_)
    refine lv_aload_n hx hb dX3_openedRow_37 rfl (lv_at hl 2 rfl) ?_
    refine lv_sipush (v := iZ 14436) hx hb dX3_openedRow_38 sip_14436 ?_
    refine nwa (atype := .int) (t := 1) (a0 := (14436, .inl (fun _ => 0))) hx hb (hts _ qa_int) rfl rfl hKK hP hD hS hA (fun _ => rfl) (by decide) (by decide +kernel) (by decide) (by show cz r0.b true + 1 + 1 ≤ rcN r0.b; rw [hq]; decide) (by show sz r0.b true + 14436 + 14436 ≤ rsN r0.b; rw [hq]; exact Nat.le_of_ble_eq_true rfl) dX3_openedRow_41 (fun a_5 H hP hD hS => ?_)
    have rgzL : rgI (fun _ => 0) (-2) 400 14436 := rg_zero (by omega) (by omega)
    refine W.ceq (cells' := cz r0.b false) (slots' := sz r0.b false) (by rw [hq]; rfl) (by rw [hq]; rfl) ?_
    refine va_put (D := D) (ci := 3) (v := .ref a_5) (ty := (tyX3 3)) (C := RX3) (T := TX3) (N := 4) hx hb hts iX3 tyX3 tyX3_ok nmX3 hown hK hP hD hS 0 rfl rfl 3 (bl rfl) (hts _ qf_X3_23) (fun _ h => h) rfl (by decide +kernel) rfl rfl (Nat.le_of_ble_eq_true rfl) dX3_openedRow_43 (fun H locs hP hD hS => ?_)
    refine lv_aload_n hx hb dX3_openedRow_46 rfl (lv_at hl 2 rfl) ?_
    refine va_get (D := D) (ci := 3) (v := .long 0) (C := RX3) (T := TX3) (N := 4) hx hb hts iX3 hown hK hP 0 rfl rfl 1 (bl rfl) (hts _ qf_X3_15) (fun _ h => h) rfl dX3_openedRow_47 ?_
    refine lv_iload_n hx hb dX3_openedRow_50 rfl (lv_at hl 1 rfl) ?_
    refine lv_lshr (v := _) hx hb dX3_openedRow_51 rfl ?_
    refine lv_topl (fun y_6 ey_6 => ?_)
    refine lv_lconst (v := 1) hx hb dX3_openedRow_52 rfl ?_
    refine lv_land hx hb dX3_openedRow_53 ?_
    refine lv_topl (fun y_7 ey_7 => ?_)
    refine lv_lconst (v := 0) hx hb dX3_openedRow_54 rfl ?_
    refine W.lcmp hx hb dX3_openedRow_55 ?_
    have hoz := OB_z (op := 0) (c := ((a * 6) + b)) ⟨by omega, by omega⟩ ey_6 ey_7
    refine lv_if_ne (tgt := 110) hx hb dX3_openedRow_56 rfl (fun c_8 => ?_) (fun c_8 => ?_)
    ·
      refine lv_iload hx hb dX3_openedRow_110 (lv_at hl 0 rfl) ?_
      exact EXi hx hb hr hlocks (fun h => absurd (show false = true from h) (by decide)) hS ((((a * 6) + b) * 401), (madeR k a_4 a_5 (fun _ => 0) (fun _ => 0) 0)) rfl rfl ⟨⟨rfl, rfl, Classical.not_not.mp (fun h => c_8 (lgc_eq.mpr (hoz.mpr h))), (fun d h1 h2 h3 => (show OB 0 d from by rw [← hop]; exact h3))⟩, (RT.mk rgzA rgzL (RX.zero f g n ni _ _))⟩ (hP.sub [0, 1, 2] rfl) (hD.sub [0, 1, 2] rfl rfl) dX3_openedRow_112
    ·
      refine lv_aload_n hx hb dX3_openedRow_59 rfl (lv_at hl 2 rfl) ?_
      refine lv_dup hx hb dX3_openedRow_60 rfl ?_
      refine va_get (D := D) (ci := 3) (v := .long 0) (C := RX3) (T := TX3) (N := 4) hx hb hts iX3 hown hK hP 0 rfl rfl 1 (bl rfl) (hts _ qf_X3_15) (fun _ h => h) rfl dX3_openedRow_61 ?_
      refine lv_lconst (v := 1) hx hb dX3_openedRow_64 rfl ?_
      refine lv_iload_n hx hb dX3_openedRow_65 rfl (lv_at hl 1 rfl) ?_
      refine lv_lshl (v := _) hx hb dX3_openedRow_66 rfl ?_
      refine lv_topl (fun y_9 ey_9 => ?_)
      refine lv_lor hx hb dX3_openedRow_67 ?_
      refine lv_topl (fun y_10 ey_10 => ?_)
      refine va_put (D := D) (ci := 3) (v := .long y_10) (ty := .long) (C := RX3) (T := TX3) (N := 4) hx hb hts iX3 tyX3 tyX3_ok nmX3 hown hK hP hD hS 0 rfl rfl 1 (bl rfl) (hts _ qf_X3_15) (fun _ h => h) rfl (by decide +kernel) rfl rfl (Nat.le_of_ble_eq_true rfl) dX3_openedRow_68 (fun H locs hP hD hS => ?_)
      have hoo := fun (d : Int) (h1 : 0 ≤ d) (h2 : d < 36) => OB_or (op := 0) (c := ((a * 6) + b)) (d := d) ⟨by omega, by omega⟩ ⟨h1, h2⟩ ey_9 ey_10
      refine lv_iload hx hb dX3_openedRow_71 (lv_at hl 0 rfl) ?_
      refine lv_istore (lv' := [(5, .int (iZ (((a * 6) + b) * 401))), (4, .int (iZ (((a * 6) + b) * 401))), (3, .int (iZ ((a * 6) + b))), (0, .ref h), (1, .int (iZ a)), (2, .int (iZ b))]) hx hb dX3_openedRow_73 hl (bl rfl) rfl (fun ls hl => ?_)
      have HL1 : ∀ (fu : Nat) (i : Int) (g1 g2 : Nat → Int32) (H : Heap) (locs : List Loc) (ls : Array Slot), ((((a * 6) + b) * 401) + 402 - i) < (fu : Int) → (((a * 6) + b) * 401) ≤ i → i ≤ (((a * 6) + b) * 401) + 401 → rgI g1 (-2) 420 14436 → rgI g2 (-2) 400 14436 → (∀ j : Int, (((a * 6) + b) * 401) ≤ j → j < i → gz g1 j = -2 ∧ gz g2 j = -2) → (∀ j : Int, 0 ≤ j → (j < (((a * 6) + b) * 401) ∨ i ≤ j) → gz g1 j = gz (fun _ => 0) j ∧ gz g2 j = gz (fun _ => 0) j) → va_P D vwCl [(h, .inr (3, [.ref hs, .long y_10, .ref a_4, .ref a_5])), (a_4, .inl (k 1, 14436, .inl g1)), (a_5, .inl (k 1, 14436, .inl g2))] H → va_D A [(h, .inr (3, [.ref hs, .long y_10, .ref a_4, .ref a_5])), (a_4, .inl (k 1, 14436, .inl g1)), (a_5, .inl (k 1, 14436, .inl g2))] → va_S A s.heap H locs → lv_has ls 6 [(5, .int (iZ i)), (4, .int (iZ (((a * 6) + b) * 401))), (3, .int (iZ ((a * 6) + b))), (0, .ref h), (1, .int (iZ a)), (2, .int (iZ b))] → W p l e (rj 0 (rcN r0.b) (rsN r0.b)) s m [.ref h, .int (iZ a), .int (iZ b)].toArray below meth c H locs (cz r0.b false) (sz r0.b false) (MQ below (QX (σ := (Int × Ry)) r0.b (fun u => u.2) (fun u => some (.int (iZ u.1))) (fun u => (u.1 = ((a * 6) + b) * 401 ∧ u.2.b = false ∧ OB u.2.op ((a * 6) + b) ∧ (∀ d : Int, 0 ≤ d → d < 36 → OB r0.op d → OB u.2.op d)) ∧ RT k (RX f g n ni) u.2) (fun u => [(h, .inr (3, [.ref hs, .long u.2.op, u.2.vA, u.2.vL]))]) D A) [.ref h, .int (iZ a), .int (iZ b)].toArray s (rcN r0.b) (rsN r0.b) A) (F0 m 75 ls []) := by
        intro fu
        induction fu with
        | zero => intro i g1 g2 H locs ls hμ1 hi1 hi2 rg1 rg2 hg1 hg2 hP hD hS hl; exact absurd hμ1 (by omega)
        | succ fu ih1 =>
          intro i g1 g2 H locs ls hμ1 hi1 hi2 rg1 rg2 hg1 hg2 hP hD hS hl
          refine lv_iload hx hb dX3_openedRow_75 (lv_at hl 0 rfl) ?_
          refine lv_iload hx hb dX3_openedRow_77 (lv_at hl 1 rfl) ?_
          refine lv_sipush (v := iZ 401) hx hb dX3_openedRow_79 sip_401 ?_
          refine lv_iadd hx hb dX3_openedRow_82 ?_
          refine lv_topi (fun x_11 ex_11 => ?_)
          obtain rfl : x_11 = iZ ((((a * 6) + b) * 401) + 401) := ex_11.trans (iZ_add (((a * 6) + b) * 401) 401)
          refine lv_icmp_ge (tgt := 110) hx hb dX3_openedRow_83 rfl (fun c_12 => ?_) (fun c_12 => ?_)
          ·
            have c_12 := (zle (x := iZ ((((a * 6) + b) * 401) + 401)) (y := iZ i) rfl rfl ⟨by omega, by omega⟩ ⟨by omega, by omega⟩).mp c_12
            refine lv_iload hx hb dX3_openedRow_110 (lv_at hl 1 rfl) ?_
            exact EXi hx hb hr hlocks (fun h => absurd (show false = true from h) (by decide)) hS ((((a * 6) + b) * 401), (madeR k a_4 a_5 g1 g2 y_10)) rfl rfl ⟨⟨rfl, rfl, (hoo ((a * 6) + b) (by omega) (by omega)).mpr (Or.inr rfl), (fun d h1 h2 h3 => (hoo d h1 h2).mpr (Or.inl (show OB 0 d from by rw [← hop]; exact h3)))⟩, (RT.mk rg1 rg2 (RX.opn (RX.zero f g n ni _ _) hn (fun d h1 h2 h3 => (hoo d h1 h2).mp h3) (fun j h1 h2 => hg1 j h1 (by omega)) (fun j h1 h2 => hg2 j h1 (by omega))))⟩ (hP.sub [0, 1, 2] rfl) (hD.sub [0, 1, 2] rfl rfl) dX3_openedRow_112
          ·
            have c_12 := mt (zle (x := iZ ((((a * 6) + b) * 401) + 401)) (y := iZ i) rfl rfl ⟨by omega, by omega⟩ ⟨by omega, by omega⟩).mpr c_12
            refine lv_aload_n hx hb dX3_openedRow_86 rfl (lv_at hl 3 rfl) ?_
            refine va_get (D := D) (ci := 3) (v := .ref a_4) (C := RX3) (T := TX3) (N := 4) hx hb hts iX3 hown hK hP 0 rfl rfl 2 (bl rfl) (hts _ qf_X3_19) (fun _ h => h) rfl dX3_openedRow_87 ?_
            refine lv_iload hx hb dX3_openedRow_90 (lv_at hl 0 rfl) ?_
            refine lv_bipush (v := iZ (-2)) hx hb dX3_openedRow_92 bip_m2 ?_
            refine va_iast hx hb hK hP hD hS 1 1 rfl rfl (zin (e := i) (n := 14436) ⟨by omega, by omega⟩ (bl rfl)) dX3_openedRow_94 (fun H locs hP hD hS => ?_)
            obtain ⟨f_13, hf_13⟩ : ∃ gg9, gg9 = upd g1 (iZ i).toNatClampNeg (iZ (-2)) := ⟨_, rfl⟩
            rw [← hf_13] at hP hD
            have rgf_13 := rg_upd rg1 hf_13 (by omega) ⟨by omega, by omega⟩ ⟨by omega, by omega⟩
            refine lv_aload_n hx hb dX3_openedRow_95 rfl (lv_at hl 3 rfl) ?_
            refine va_get (D := D) (ci := 3) (v := .ref a_5) (C := RX3) (T := TX3) (N := 4) hx hb hts iX3 hown hK hP 0 rfl rfl 3 (bl rfl) (hts _ qf_X3_23) (fun _ h => h) rfl dX3_openedRow_96 ?_
            refine lv_iload hx hb dX3_openedRow_99 (lv_at hl 0 rfl) ?_
            refine lv_bipush (v := iZ (-2)) hx hb dX3_openedRow_101 bip_m2 ?_
            refine va_iast hx hb hK hP hD hS 2 1 rfl rfl (zin (e := i) (n := 14436) ⟨by omega, by omega⟩ (bl rfl)) dX3_openedRow_103 (fun H locs hP hD hS => ?_)
            obtain ⟨f_14, hf_14⟩ : ∃ gg9, gg9 = upd g2 (iZ i).toNatClampNeg (iZ (-2)) := ⟨_, rfl⟩
            rw [← hf_14] at hP hD
            have rgf_14 := rg_upd rg2 hf_14 (by omega) ⟨by omega, by omega⟩ ⟨by omega, by omega⟩
            refine lv_iinc (v := iZ (i + 1)) (lv' := [(5, .int (iZ (i + 1))), (4, .int (iZ (((a * 6) + b) * 401))), (3, .int (iZ ((a * 6) + b))), (0, .ref h), (1, .int (iZ a)), (2, .int (iZ b))]) hx hb dX3_openedRow_104 hl (k := 0) rfl (iZ_add i 1) (by decide) rfl (fun ls hl => ?_)
            refine lv_goto (tgt := 75) hx hb dX3_openedRow_107 rfl ?_
            exact ih1  (i + 1) _ _ _ _ _ (by omega) (by omega) (by omega) rgf_13 rgf_14 (fun j h1 h2 => by have c1 := gz_upc (j := j) hf_13 ⟨by omega, by omega⟩ ⟨by omega, by omega⟩ (by omega); have c2 := gz_upc (j := j) hf_14 ⟨by omega, by omega⟩ ⟨by omega, by omega⟩ (by omega); rcases Int.lt_or_eq_of_le (show j ≤ i by omega) with h3 | h3; have := hg1 j h1 h3; omega; omega) (fun j h1 h2 => by have c1 := gz_upc (j := j) hf_13 ⟨by omega, by omega⟩ ⟨by omega, by omega⟩ (by omega); have c2 := gz_upc (j := j) hf_14 ⟨by omega, by omega⟩ ⟨by omega, by omega⟩ (by omega); have := hg2 j h1 (by omega); omega) (hP.sub [0, 1, 2] rfl) (hD.sub [0, 1, 2] rfl rfl) hS (lv_sub hl [0, 1, 2, 3, 4, 5] rfl)
      exact HL1 403 (((a * 6) + b) * 401) _ _ _ _ _ (by omega) (by omega) (by omega) rgzA rgzL (fun j h1 h2 => absurd h1 (by omega)) (fun j h1 h2 => ⟨rfl, rfl⟩) (hP.sub [0, 1, 2] rfl) (hD.sub [0, 1, 2] rfl rfl) hS (lv_sub hl [0, 1, 2, 3, 4, 5] rfl)
  ·
    obtain ⟨ha_15, hl_16, fa_17, fl_18, op_19, rfl, rgah_20, rglh_20, rxh_20⟩ := RT.made rt1 hm
    refine W.ceq (cells' := cz r0.b false) (slots' := sz r0.b false) rfl rfl ?_
    have hop : r0.op = op_19 := congrArg Ry.op hr1.symm
    refine lv_iload_n hx hb dX3_openedRow_0 rfl (lv_at hl 1 rfl) ?_
    refine lv_bipush (v := iZ 6) hx hb dX3_openedRow_1 bip_6 ?_
    refine lv_imul hx hb dX3_openedRow_3 ?_
    refine lv_topi (fun x_21 ex_21 => ?_)
    obtain rfl : x_21 = iZ (a * 6) := ex_21.trans (iZ_mul a 6)
    refine lv_iload_n hx hb dX3_openedRow_4 rfl (lv_at hl 2 rfl) ?_
    refine lv_iadd hx hb dX3_openedRow_5 ?_
    refine lv_topi (fun x_22 ex_22 => ?_)
    obtain rfl : x_22 = iZ ((a * 6) + b) := ex_22.trans (iZ_add (a * 6) b)
    refine lv_istore_n (lv' := [(3, .int (iZ ((a * 6) + b))), (0, .ref h), (1, .int (iZ a)), (2, .int (iZ b))]) hx hb dX3_openedRow_6 rfl hl (bl rfl) rfl (fun ls hl => ?_)
    refine lv_iload_n hx hb dX3_openedRow_7 rfl (lv_at hl 0 rfl) ?_
    refine lv_sipush (v := iZ 401) hx hb dX3_openedRow_8 sip_401 ?_
    refine lv_imul hx hb dX3_openedRow_11 ?_
    refine lv_topi (fun x_23 ex_23 => ?_)
    obtain rfl : x_23 = iZ (((a * 6) + b) * 401) := ex_23.trans (iZ_mul ((a * 6) + b) 401)
    refine lv_istore (lv' := [(4, .int (iZ (((a * 6) + b) * 401))), (3, .int (iZ ((a * 6) + b))), (0, .ref h), (1, .int (iZ a)), (2, .int (iZ b))]) hx hb dX3_openedRow_12 hl (bl rfl) rfl (fun ls hl => ?_)
    refine lv_aload_n hx hb dX3_openedRow_14 rfl (lv_at hl 2 rfl) ?_
    refine va_get (D := D) (ci := 3) (v := .ref ha_15) (C := RX3) (T := TX3) (N := 4) hx hb hts iX3 hown hK hP 0 rfl rfl 2 (bl rfl) (hts _ qf_X3_19) (fun _ h => h) rfl dX3_openedRow_15 ?_
    refine lv_ifnull hx hb dX3_openedRow_18 ?_
    refine lv_aload_n hx hb dX3_openedRow_21 rfl (lv_at hl 2 rfl) ?_
    refine va_get (D := D) (ci := 3) (v := .ref hl_16) (C := RX3) (T := TX3) (N := 4) hx hb hts iX3 hown hK hP 0 rfl rfl 3 (bl rfl) (hts _ qf_X3_23) (fun _ h => h) rfl dX3_openedRow_22 ?_
    refine lv_ifnonnull (tgt := 46) hx hb dX3_openedRow_25 rfl ?_
    refine lv_aload_n hx hb dX3_openedRow_46 rfl (lv_at hl 2 rfl) ?_
    refine va_get (D := D) (ci := 3) (v := .long op_19) (C := RX3) (T := TX3) (N := 4) hx hb hts iX3 hown hK hP 0 rfl rfl 1 (bl rfl) (hts _ qf_X3_15) (fun _ h => h) rfl dX3_openedRow_47 ?_
    refine lv_iload_n hx hb dX3_openedRow_50 rfl (lv_at hl 1 rfl) ?_
    refine lv_lshr (v := _) hx hb dX3_openedRow_51 rfl ?_
    refine lv_topl (fun y_24 ey_24 => ?_)
    refine lv_lconst (v := 1) hx hb dX3_openedRow_52 rfl ?_
    refine lv_land hx hb dX3_openedRow_53 ?_
    refine lv_topl (fun y_25 ey_25 => ?_)
    refine lv_lconst (v := 0) hx hb dX3_openedRow_54 rfl ?_
    refine W.lcmp hx hb dX3_openedRow_55 ?_
    have hoz := OB_z (op := op_19) (c := ((a * 6) + b)) ⟨by omega, by omega⟩ ey_24 ey_25
    refine lv_if_ne (tgt := 110) hx hb dX3_openedRow_56 rfl (fun c_26 => ?_) (fun c_26 => ?_)
    ·
      refine lv_iload hx hb dX3_openedRow_110 (lv_at hl 0 rfl) ?_
      exact EXi hx hb hr hlocks (fun h => absurd (show false = true from h) (by decide)) hS ((((a * 6) + b) * 401), (madeR k ha_15 hl_16 fa_17 fl_18 op_19)) rfl rfl ⟨⟨rfl, rfl, Classical.not_not.mp (fun h => c_26 (lgc_eq.mpr (hoz.mpr h))), (fun d h1 h2 h3 => (show OB op_19 d from by rw [← hop]; exact h3))⟩, (RT.mk rgah_20 rglh_20 rxh_20)⟩ (hP.sub [0, 1, 2] rfl) (hD.sub [0, 1, 2] rfl rfl) dX3_openedRow_112
    ·
      refine lv_aload_n hx hb dX3_openedRow_59 rfl (lv_at hl 2 rfl) ?_
      refine lv_dup hx hb dX3_openedRow_60 rfl ?_
      refine va_get (D := D) (ci := 3) (v := .long op_19) (C := RX3) (T := TX3) (N := 4) hx hb hts iX3 hown hK hP 0 rfl rfl 1 (bl rfl) (hts _ qf_X3_15) (fun _ h => h) rfl dX3_openedRow_61 ?_
      refine lv_lconst (v := 1) hx hb dX3_openedRow_64 rfl ?_
      refine lv_iload_n hx hb dX3_openedRow_65 rfl (lv_at hl 1 rfl) ?_
      refine lv_lshl (v := _) hx hb dX3_openedRow_66 rfl ?_
      refine lv_topl (fun y_27 ey_27 => ?_)
      refine lv_lor hx hb dX3_openedRow_67 ?_
      refine lv_topl (fun y_28 ey_28 => ?_)
      refine va_put (D := D) (ci := 3) (v := .long y_28) (ty := .long) (C := RX3) (T := TX3) (N := 4) hx hb hts iX3 tyX3 tyX3_ok nmX3 hown hK hP hD hS 0 rfl rfl 1 (bl rfl) (hts _ qf_X3_15) (fun _ h => h) rfl (by decide +kernel) rfl rfl (Nat.le_of_ble_eq_true rfl) dX3_openedRow_68 (fun H locs hP hD hS => ?_)
      have hoo := fun (d : Int) (h1 : 0 ≤ d) (h2 : d < 36) => OB_or (op := op_19) (c := ((a * 6) + b)) (d := d) ⟨by omega, by omega⟩ ⟨h1, h2⟩ ey_27 ey_28
      refine lv_iload hx hb dX3_openedRow_71 (lv_at hl 0 rfl) ?_
      refine lv_istore (lv' := [(5, .int (iZ (((a * 6) + b) * 401))), (4, .int (iZ (((a * 6) + b) * 401))), (3, .int (iZ ((a * 6) + b))), (0, .ref h), (1, .int (iZ a)), (2, .int (iZ b))]) hx hb dX3_openedRow_73 hl (bl rfl) rfl (fun ls hl => ?_)
      have HL1 : ∀ (fu : Nat) (i : Int) (g1 g2 : Nat → Int32) (H : Heap) (locs : List Loc) (ls : Array Slot), ((((a * 6) + b) * 401) + 402 - i) < (fu : Int) → (((a * 6) + b) * 401) ≤ i → i ≤ (((a * 6) + b) * 401) + 401 → rgI g1 (-2) 420 14436 → rgI g2 (-2) 400 14436 → (∀ j : Int, (((a * 6) + b) * 401) ≤ j → j < i → gz g1 j = -2 ∧ gz g2 j = -2) → (∀ j : Int, 0 ≤ j → (j < (((a * 6) + b) * 401) ∨ i ≤ j) → gz g1 j = gz fa_17 j ∧ gz g2 j = gz fl_18 j) → va_P D vwCl [(h, .inr (3, [.ref hs, .long y_28, .ref ha_15, .ref hl_16])), (ha_15, .inl (k 1, 14436, .inl g1)), (hl_16, .inl (k 1, 14436, .inl g2))] H → va_D A [(h, .inr (3, [.ref hs, .long y_28, .ref ha_15, .ref hl_16])), (ha_15, .inl (k 1, 14436, .inl g1)), (hl_16, .inl (k 1, 14436, .inl g2))] → va_S A s.heap H locs → lv_has ls 6 [(5, .int (iZ i)), (4, .int (iZ (((a * 6) + b) * 401))), (3, .int (iZ ((a * 6) + b))), (0, .ref h), (1, .int (iZ a)), (2, .int (iZ b))] → W p l e (rj 0 (rcN r0.b) (rsN r0.b)) s m [.ref h, .int (iZ a), .int (iZ b)].toArray below meth c H locs (cz r0.b false) (sz r0.b false) (MQ below (QX (σ := (Int × Ry)) r0.b (fun u => u.2) (fun u => some (.int (iZ u.1))) (fun u => (u.1 = ((a * 6) + b) * 401 ∧ u.2.b = false ∧ OB u.2.op ((a * 6) + b) ∧ (∀ d : Int, 0 ≤ d → d < 36 → OB r0.op d → OB u.2.op d)) ∧ RT k (RX f g n ni) u.2) (fun u => [(h, .inr (3, [.ref hs, .long u.2.op, u.2.vA, u.2.vL]))]) D A) [.ref h, .int (iZ a), .int (iZ b)].toArray s (rcN r0.b) (rsN r0.b) A) (F0 m 75 ls []) := by
        intro fu
        induction fu with
        | zero => intro i g1 g2 H locs ls hμ1 hi1 hi2 rg1 rg2 hg1 hg2 hP hD hS hl; exact absurd hμ1 (by omega)
        | succ fu ih1 =>
          intro i g1 g2 H locs ls hμ1 hi1 hi2 rg1 rg2 hg1 hg2 hP hD hS hl
          refine lv_iload hx hb dX3_openedRow_75 (lv_at hl 0 rfl) ?_
          refine lv_iload hx hb dX3_openedRow_77 (lv_at hl 1 rfl) ?_
          refine lv_sipush (v := iZ 401) hx hb dX3_openedRow_79 sip_401 ?_
          refine lv_iadd hx hb dX3_openedRow_82 ?_
          refine lv_topi (fun x_29 ex_29 => ?_)
          obtain rfl : x_29 = iZ ((((a * 6) + b) * 401) + 401) := ex_29.trans (iZ_add (((a * 6) + b) * 401) 401)
          refine lv_icmp_ge (tgt := 110) hx hb dX3_openedRow_83 rfl (fun c_30 => ?_) (fun c_30 => ?_)
          ·
            have c_30 := (zle (x := iZ ((((a * 6) + b) * 401) + 401)) (y := iZ i) rfl rfl ⟨by omega, by omega⟩ ⟨by omega, by omega⟩).mp c_30
            refine lv_iload hx hb dX3_openedRow_110 (lv_at hl 1 rfl) ?_
            exact EXi hx hb hr hlocks (fun h => absurd (show false = true from h) (by decide)) hS ((((a * 6) + b) * 401), (madeR k ha_15 hl_16 g1 g2 y_28)) rfl rfl ⟨⟨rfl, rfl, (hoo ((a * 6) + b) (by omega) (by omega)).mpr (Or.inr rfl), (fun d h1 h2 h3 => (hoo d h1 h2).mpr (Or.inl (show OB op_19 d from by rw [← hop]; exact h3)))⟩, (RT.mk rg1 rg2 (RX.opn rxh_20 hn (fun d h1 h2 h3 => (hoo d h1 h2).mp h3) (fun j h1 h2 => hg1 j h1 (by omega)) (fun j h1 h2 => hg2 j h1 (by omega))))⟩ (hP.sub [0, 1, 2] rfl) (hD.sub [0, 1, 2] rfl rfl) dX3_openedRow_112
          ·
            have c_30 := mt (zle (x := iZ ((((a * 6) + b) * 401) + 401)) (y := iZ i) rfl rfl ⟨by omega, by omega⟩ ⟨by omega, by omega⟩).mpr c_30
            refine lv_aload_n hx hb dX3_openedRow_86 rfl (lv_at hl 3 rfl) ?_
            refine va_get (D := D) (ci := 3) (v := .ref ha_15) (C := RX3) (T := TX3) (N := 4) hx hb hts iX3 hown hK hP 0 rfl rfl 2 (bl rfl) (hts _ qf_X3_19) (fun _ h => h) rfl dX3_openedRow_87 ?_
            refine lv_iload hx hb dX3_openedRow_90 (lv_at hl 0 rfl) ?_
            refine lv_bipush (v := iZ (-2)) hx hb dX3_openedRow_92 bip_m2 ?_
            refine va_iast hx hb hK hP hD hS 1 1 rfl rfl (zin (e := i) (n := 14436) ⟨by omega, by omega⟩ (bl rfl)) dX3_openedRow_94 (fun H locs hP hD hS => ?_)
            obtain ⟨f_31, hf_31⟩ : ∃ gg9, gg9 = upd g1 (iZ i).toNatClampNeg (iZ (-2)) := ⟨_, rfl⟩
            rw [← hf_31] at hP hD
            have rgf_31 := rg_upd rg1 hf_31 (by omega) ⟨by omega, by omega⟩ ⟨by omega, by omega⟩
            refine lv_aload_n hx hb dX3_openedRow_95 rfl (lv_at hl 3 rfl) ?_
            refine va_get (D := D) (ci := 3) (v := .ref hl_16) (C := RX3) (T := TX3) (N := 4) hx hb hts iX3 hown hK hP 0 rfl rfl 3 (bl rfl) (hts _ qf_X3_23) (fun _ h => h) rfl dX3_openedRow_96 ?_
            refine lv_iload hx hb dX3_openedRow_99 (lv_at hl 0 rfl) ?_
            refine lv_bipush (v := iZ (-2)) hx hb dX3_openedRow_101 bip_m2 ?_
            refine va_iast hx hb hK hP hD hS 2 1 rfl rfl (zin (e := i) (n := 14436) ⟨by omega, by omega⟩ (bl rfl)) dX3_openedRow_103 (fun H locs hP hD hS => ?_)
            obtain ⟨f_32, hf_32⟩ : ∃ gg9, gg9 = upd g2 (iZ i).toNatClampNeg (iZ (-2)) := ⟨_, rfl⟩
            rw [← hf_32] at hP hD
            have rgf_32 := rg_upd rg2 hf_32 (by omega) ⟨by omega, by omega⟩ ⟨by omega, by omega⟩
            refine lv_iinc (v := iZ (i + 1)) (lv' := [(5, .int (iZ (i + 1))), (4, .int (iZ (((a * 6) + b) * 401))), (3, .int (iZ ((a * 6) + b))), (0, .ref h), (1, .int (iZ a)), (2, .int (iZ b))]) hx hb dX3_openedRow_104 hl (k := 0) rfl (iZ_add i 1) (by decide) rfl (fun ls hl => ?_)
            refine lv_goto (tgt := 75) hx hb dX3_openedRow_107 rfl ?_
            exact ih1  (i + 1) _ _ _ _ _ (by omega) (by omega) (by omega) rgf_31 rgf_32 (fun j h1 h2 => by have c1 := gz_upc (j := j) hf_31 ⟨by omega, by omega⟩ ⟨by omega, by omega⟩ (by omega); have c2 := gz_upc (j := j) hf_32 ⟨by omega, by omega⟩ ⟨by omega, by omega⟩ (by omega); rcases Int.lt_or_eq_of_le (show j ≤ i by omega) with h3 | h3; have := hg1 j h1 h3; omega; omega) (fun j h1 h2 => by have c1 := gz_upc (j := j) hf_31 ⟨by omega, by omega⟩ ⟨by omega, by omega⟩ (by omega); have c2 := gz_upc (j := j) hf_32 ⟨by omega, by omega⟩ ⟨by omega, by omega⟩ (by omega); have := hg2 j h1 (by omega); omega) (hP.sub [0, 1, 2] rfl) (hD.sub [0, 1, 2] rfl rfl) hS (lv_sub hl [0, 1, 2, 3, 4, 5] rfl)
      exact HL1 403 (((a * 6) + b) * 401) _ _ _ _ _ (by omega) (by omega) (by omega) rgah_20 rglh_20 (fun j h1 h2 => absurd h1 (by omega)) (fun j h1 h2 => ⟨rfl, rfl⟩) (hP.sub [0, 1, 2] rfl) (hD.sub [0, 1, 2] rfl rfl) hS (lv_sub hl [0, 1, 2, 3, 4, 5] rfl)
theorem bz_01 (P : Prop) : bz P = 0 ∨ bz P = 1 := by
  by_cases h : P
  · exact Or.inr (bz_t h)
  · exact Or.inl (bz_f h)
set_option maxHeartbeats 4000000 in
set_option maxRecDepth 100000 in
theorem k_arrival (l : Launch) (D : va_G) (k : Nat → ClassId) (h hs : Nat) (r0 : Ry) {P0 : RP_} (hRT : (RT k) P0 r0) (fs : List Value) (hf hg : Nat) (f1 : fs[1]? = some (.ref hf)) (f2 : fs[2]? = some (.ref hg)) (f g : Nat → Int32) (n : Int) (hn : n ≤ 6) (hx0 : FXI f n) (ni : Int) (f4 : fs[4]? = some (.int (iZ ni))) (hni : 0 ≤ ni ∧ ni ≤ 8) (hQ0 : P0 = RX f g n ni) (a w b : Int) (ha0 : 0 ≤ a ∧ a < n) (hb0 : 0 ≤ b ∧ b < n) (hw : -2147483648 ≤ w ∧ w < 2147483648) : XD (σ := (Int × Ry)) l yX3_arrival cX3_arrival 7 (some .int) 1 r0 D k [.ref h, .int (iZ a), .int (iZ w), .int (iZ b)] [(h, .inr (3, [.ref hs, .long r0.op, r0.vA, r0.vL])), (hs, .inr (5, fs)), (hf, .inl (k 1, 36, .inl f)), (hg, .inl (k 1, 32, .inl g))] (fun u => u.2) (fun u => some (.int (iZ u.1))) (fun u => ((-1 ≤ u.1 ∧ u.1 ≤ 420) ∧ u.1 = arN f g ni a w b ∧ (∀ d : Int, 0 ≤ d → d < 36 → OB r0.op d → OB u.2.op d)) ∧ RT k (RX f g n ni) u.2) (fun u => [(h, .inr (3, [.ref hs, .long u.2.op, u.2.vA, u.2.vL])), (hs, .inr (5, fs)), (hf, .inl (k 1, 36, .inl f)), (hg, .inl (k 1, 32, .inl g))]) := by
  refine MX (by decide) (Nat.le_of_ble_eq_true rfl) (fun p e s m below meth c ls A hx hb hml hr hlocks hin hts hown hKK hP hD hS hA hl => ?_)
  have hK := hKK.1
  have hl : lv_has ls 7 [(0, .ref h), (1, .int (iZ a)), (2, .int (iZ w)), (3, .int (iZ b))] := hl
  subst hQ0
  refine lv_iload_n hx hb dX3_arrival_0 rfl (lv_at hl 2 rfl) ?_
  refine lv_if_lt (tgt := 11) hx hb dX3_arrival_1 rfl (fun c_1 => ?_) (fun c_1 => ?_)
  ·
    have c_1 := (zlt (x := iZ w) (y := iZ 0) rfl rfl ⟨by omega, by omega⟩ wn_0).mp c_1
    refine lv_iconst (v := iZ (-1)) hx hb dX3_arrival_11 rfl ?_
    exact EXi hx hb hr hlocks (fun h => h) hS ((-1), r0) rfl rfl ⟨⟨⟨by omega, by omega⟩, (arN_o (by omega)).symm, (fun d h1 h2 h3 => h3)⟩, hRT⟩ (va_P.subT (pre := [(h, .inr (3, [.ref hs, .long r0.op, r0.vA, r0.vL])), (hs, .inr (5, fs)), (hf, .inl (k 1, 36, .inl f)), (hg, .inl (k 1, 32, .inl g))]) (pre' := [(h, .inr (3, [.ref hs, .long r0.op, r0.vA, r0.vL])), (hs, .inr (5, fs)), (hf, .inl (k 1, 36, .inl f)), (hg, .inl (k 1, 32, .inl g))]) (tl := r0.tl) hP [0, 1, 2, 3] rfl) (va_D.subT (pre := [(h, .inr (3, [.ref hs, .long r0.op, r0.vA, r0.vL])), (hs, .inr (5, fs)), (hf, .inl (k 1, 36, .inl f)), (hg, .inl (k 1, 32, .inl g))]) (pre' := [(h, .inr (3, [.ref hs, .long r0.op, r0.vA, r0.vL])), (hs, .inr (5, fs)), (hf, .inl (k 1, 36, .inl f)), (hg, .inl (k 1, 32, .inl g))]) (tl := r0.tl) hD [0, 1, 2, 3] rfl rfl) dX3_arrival_12
  ·
    have c_1 := mt (zlt (x := iZ w) (y := iZ 0) rfl rfl ⟨by omega, by omega⟩ wn_0).mpr c_1
    refine lv_iload_n hx hb dX3_arrival_4 rfl (lv_at hl 2 rfl) ?_
    refine lv_sipush (v := iZ 400) hx hb dX3_arrival_5 sip_400 ?_
    refine lv_icmp_le (tgt := 13) hx hb dX3_arrival_8 rfl (fun c_2 => ?_) (fun c_2 => ?_)
    ·
      have c_2 := (zle (x := iZ w) (y := iZ 400) rfl rfl ⟨by omega, by omega⟩ wn_400).mp c_2
      refine lv_iload_n hx hb dX3_arrival_13 rfl (lv_at hl 1 rfl) ?_
      refine lv_iload_n hx hb dX3_arrival_14 rfl (lv_at hl 3 rfl) ?_
      refine lv_icmp_ne (tgt := 20) hx hb dX3_arrival_15 rfl (fun c_3 => ?_) (fun c_3 => ?_)
      ·
        have c_3 := mt (zeq (x := iZ a) (y := iZ b) rfl rfl ⟨by omega, by omega⟩ ⟨by omega, by omega⟩).mpr c_3
        refine lv_aload_n hx hb dX3_arrival_20 rfl (lv_at hl 0 rfl) ?_
        refine lv_iload_n hx hb dX3_arrival_21 rfl (lv_at hl 1 rfl) ?_
        refine lv_iload_n hx hb dX3_arrival_22 rfl (lv_at hl 3 rfl) ?_
        refine CXV (r := r0) (b0 := r0.b) (As := [.int (iZ a), .int (iZ b)]) (rest := []) (ws := [(h, .inr (3, [.ref hs, .long r0.op, r0.vA, r0.vL])), (hs, .inr (5, fs)), (hf, .inl (k 1, 36, .inl f)), (hg, .inl (k 1, 32, .inl g))]) (wc := _) (wr := [(hs, .inr (5, fs)), (hf, .inl (k 1, 36, .inl f)), (hg, .inl (k 1, 32, .inl g))]) hx hb hml hown hts hKK hP hD hS hA (fun h => h) (k_openedRow l D k h hs r0 f g n ni hn hRT a b ⟨by omega, by omega⟩ ⟨by omega, by omega⟩) ci_X3_openedRow qm_X3_26 ⟨Nat.le_of_ble_eq_true rfl, Nat.le_of_ble_eq_true rfl⟩ ⟨rfl, rfl⟩ [0] [1, 2, 3] rfl rfl rfl rfl rfl (dj rfl) 0 rfl rfl rfl hl.1 rfl (Nat.le_of_ble_eq_true rfl) dX3_arrival_23 (fun u_4 H locs hφ hP hD hS hb1 => ?_)
        obtain ⟨z_6, r_7⟩ := u_4
        obtain ⟨⟨hzz_6, hmr_7, hor_7, mor_7⟩, rtr_7⟩ := hφ
        dsimp only at hzz_6 hor_7 mor_7
        subst hzz_6
        have hmr_7 : r_7.b = false := hmr_7
        have rtr_7 : RT k (RX f g n ni) r_7 := rtr_7
        have hbh_5 : r_7.b = true → r0.b = true := fun h => (fun h => h) (hb1 h)
        refine W.ceq (cells' := cz r0.b r_7.b) (slots' := sz r0.b r_7.b) rfl rfl ?_
        refine W.eq (g2 := F0 m 26 ls [.int (iZ (((a * 6) + b) * 401))]) rfl ?_
        obtain ⟨ha_8, hl_9, fa_10, fl_11, op_12, rfl, rgah_13, rglh_13, rxh_13⟩ := RT.made rtr_7 hmr_7
        refine W.ceq (cells' := cz r0.b false) (slots' := sz r0.b false) rfl rfl ?_
        refine lv_iload_n hx hb dX3_arrival_26 rfl (lv_at hl 2 rfl) ?_
        refine lv_iadd hx hb dX3_arrival_27 ?_
        refine lv_topi (fun x_14 ex_14 => ?_)
        obtain rfl : x_14 = iZ ((((a * 6) + b) * 401) + w) := ex_14.trans (iZ_add (((a * 6) + b) * 401) w)
        refine lv_istore (lv' := [(4, .int (iZ ((((a * 6) + b) * 401) + w))), (0, .ref h), (1, .int (iZ a)), (2, .int (iZ w)), (3, .int (iZ b))]) hx hb dX3_arrival_28 hl (bl rfl) rfl (fun ls hl => ?_)
        refine lv_aload_n hx hb dX3_arrival_30 rfl (lv_at hl 1 rfl) ?_
        refine va_get (D := D) (ci := 3) (v := .ref ha_8) (C := RX3) (T := TX3) (N := 4) hx hb hts iX3 hown hK hP 3 rfl rfl 2 (bl rfl) (hts _ qf_X3_19) (fun _ h => h) rfl dX3_arrival_31 ?_
        refine lv_iload hx hb dX3_arrival_34 (lv_at hl 0 rfl) ?_
        refine va_iald hx hb hK hP 4 1 rfl rfl (zin (e := ((((a * 6) + b) * 401) + w)) (n := 14436) ⟨by omega, by omega⟩ (bl rfl)) dX3_arrival_36 ?_
        refine lv_topi (fun x_15 ex_15 => ?_)
        obtain rfl : x_15 = iZ (gz fa_10 ((((a * 6) + b) * 401) + w)) := ex_15.trans (gz_eq ⟨by omega, by omega⟩)
        have h_16 := rgah_13 ((((a * 6) + b) * 401) + w) (by omega) (by omega)
        refine lv_bipush (v := iZ (-2)) hx hb dX3_arrival_37 bip_m2 ?_
        refine lv_icmp_ne (tgt := 127) hx hb dX3_arrival_39 rfl (fun c_17 => ?_) (fun c_17 => ?_)
        ·
          have c_17 := mt (zeq (x := iZ (gz fa_10 ((((a * 6) + b) * 401) + w))) (y := iZ (-2)) rfl rfl (gz_rg fa_10 ((((a * 6) + b) * 401) + w)) wn_m2).mpr c_17
          refine lv_aload_n hx hb dX3_arrival_127 rfl (lv_at hl 1 rfl) ?_
          refine va_get (D := D) (ci := 3) (v := .ref ha_8) (C := RX3) (T := TX3) (N := 4) hx hb hts iX3 hown hK hP 3 rfl rfl 2 (bl rfl) (hts _ qf_X3_19) (fun _ h => h) rfl dX3_arrival_128 ?_
          refine lv_iload hx hb dX3_arrival_131 (lv_at hl 0 rfl) ?_
          refine va_iald hx hb hK hP 4 1 rfl rfl (zin (e := ((((a * 6) + b) * 401) + w)) (n := 14436) ⟨by omega, by omega⟩ (bl rfl)) dX3_arrival_133 ?_
          refine lv_topi (fun x_18 ex_18 => ?_)
          obtain rfl : x_18 = iZ (gz fa_10 ((((a * 6) + b) * 401) + w)) := ex_18.trans (gz_eq ⟨by omega, by omega⟩)
          have h_19 := rgah_13 ((((a * 6) + b) * 401) + w) (by omega) (by omega)
          exact EXi hx hb hr hlocks (fun h => absurd (show false = true from h) (by decide)) hS ((gz fa_10 ((((a * 6) + b) * 401) + w)), (madeR k ha_8 hl_9 fa_10 fl_11 op_12)) rfl rfl ⟨⟨⟨by omega, by omega⟩, ((rxh_13 a b ha0 hb0 (by omega) hor_7 w (by omega) (by omega)).1.resolve_left c_17), mor_7⟩, (RT.mk rgah_13 rglh_13 rxh_13)⟩ (hP.sub [3, 0, 1, 2, 4, 5] rfl) (hD.sub [3, 0, 1, 2, 4, 5] rfl rfl) dX3_arrival_134
        ·
          have c_17 := (zeq (x := iZ (gz fa_10 ((((a * 6) + b) * 401) + w))) (y := iZ (-2)) rfl rfl (gz_rg fa_10 ((((a * 6) + b) * 401) + w)) wn_m2).mp c_17
          refine lv_aload_n hx hb dX3_arrival_42 rfl (lv_at hl 1 rfl) ?_
          refine va_get (D := D) (ci := 3) (v := .ref hs) (C := RX3) (T := TX3) (N := 4) hx hb hts iX3 hown hK hP 3 rfl rfl 0 (bl rfl) (hts _ qf_X3_11) (fun _ h => h) rfl dX3_arrival_43 ?_
          refine lv_iload_n hx hb dX3_arrival_46 rfl (lv_at hl 2 rfl) ?_
          refine lv_iload_n hx hb dX3_arrival_47 rfl (lv_at hl 3 rfl) ?_
          refine CRV (As := [.int (iZ a), .int (iZ w)]) (rest := []) hx hb hml hown hts hKK (hP.sub (ws' := [(hs, .inr (5, fs)), (hf, .inl (k 1, 36, .inl f))]) [0, 1] rfl) (k_heading l D k hs hf fs f1 f n hn hx0 a w ⟨by omega, by omega⟩ ⟨by omega, by omega⟩) ci_X5_heading qm_X3_30 ⟨Nat.le_of_ble_eq_true rfl, Nat.le_of_ble_eq_true rfl⟩ ⟨cz_le _ _, sz_le _ _⟩ 0 rfl rfl rfl hl.1 rfl (Nat.le_of_ble_eq_true rfl) dX3_arrival_48 ?_
          have hh_h_20 := hd_rg f a w
          refine lv_istore (lv' := [(5, .int (iZ (hd f a w))), (4, .int (iZ ((((a * 6) + b) * 401) + w))), (0, .ref h), (1, .int (iZ a)), (2, .int (iZ w)), (3, .int (iZ b))]) hx hb dX3_arrival_51 hl (bl rfl) rfl (fun ls hl => ?_)
          refine lv_iload_n hx hb dX3_arrival_53 rfl (lv_at hl 4 rfl) ?_
          refine lv_iconst (v := iZ 1) hx hb dX3_arrival_54 rfl ?_
          refine lv_iadd hx hb dX3_arrival_55 ?_
          refine lv_topi (fun x_21 ex_21 => ?_)
          obtain rfl : x_21 = iZ (w + 1) := ex_21.trans (iZ_add w 1)
          refine lv_istore (lv' := [(6, .int (iZ (w + 1))), (5, .int (iZ (hd f a w))), (4, .int (iZ ((((a * 6) + b) * 401) + w))), (0, .ref h), (1, .int (iZ a)), (2, .int (iZ w)), (3, .int (iZ b))]) hx hb dX3_arrival_56 hl (bl rfl) rfl (fun ls hl => ?_)
          have HL1 : ∀ (fu : Nat) (i : Int) (H : Heap) (locs : List Loc) (ls : Array Slot), (w + 21 - i) < (fu : Int) → w + 1 ≤ i → i ≤ w + 20 → (∀ s : Int, w + 1 ≤ s → s < i → ¬ lt f a w b s ≤ s - w) → va_P D vwCl [(hs, .inr (5, fs)), (hf, .inl (k 1, 36, .inl f)), (hg, .inl (k 1, 32, .inl g)), (h, .inr (3, [.ref hs, .long op_12, .ref ha_8, .ref hl_9])), (ha_8, .inl (k 1, 14436, .inl fa_10)), (hl_9, .inl (k 1, 14436, .inl fl_11))] H → va_D A [(hs, .inr (5, fs)), (hf, .inl (k 1, 36, .inl f)), (hg, .inl (k 1, 32, .inl g)), (h, .inr (3, [.ref hs, .long op_12, .ref ha_8, .ref hl_9])), (ha_8, .inl (k 1, 14436, .inl fa_10)), (hl_9, .inl (k 1, 14436, .inl fl_11))] → va_S A s.heap H locs → lv_has ls 7 [(6, .int (iZ i)), (5, .int (iZ (hd f a w))), (4, .int (iZ ((((a * 6) + b) * 401) + w))), (0, .ref h), (1, .int (iZ a)), (2, .int (iZ w)), (3, .int (iZ b))] → W p l e (rj 1 (rcN r0.b) (rsN r0.b)) s m [.ref h, .int (iZ a), .int (iZ w), .int (iZ b)].toArray below meth c H locs (cz r0.b false) (sz r0.b false) (MQ below (QX (σ := (Int × Ry)) r0.b (fun u => u.2) (fun u => some (.int (iZ u.1))) (fun u => ((-1 ≤ u.1 ∧ u.1 ≤ 420) ∧ u.1 = arN f g ni a w b ∧ (∀ d : Int, 0 ≤ d → d < 36 → OB r0.op d → OB u.2.op d)) ∧ RT k (RX f g n ni) u.2) (fun u => [(h, .inr (3, [.ref hs, .long u.2.op, u.2.vA, u.2.vL])), (hs, .inr (5, fs)), (hf, .inl (k 1, 36, .inl f)), (hg, .inl (k 1, 32, .inl g))]) D A) [.ref h, .int (iZ a), .int (iZ w), .int (iZ b)].toArray s (rcN r0.b) (rsN r0.b) A) (F0 m 58 ls []) := by
            intro fu
            induction fu with
            | zero => intro i H locs ls hμ1 hi1 hi2 hi3 hP hD hS hl; exact absurd hμ1 (by omega)
            | succ fu ih1 =>
              intro i H locs ls hμ1 hi1 hi2 hi3 hP hD hS hl
              refine lv_iload hx hb dX3_arrival_58 (lv_at hl 0 rfl) ?_
              refine lv_iload_n hx hb dX3_arrival_60 rfl (lv_at hl 5 rfl) ?_
              refine lv_bipush (v := iZ 20) hx hb dX3_arrival_61 bip_20 ?_
              refine lv_iadd hx hb dX3_arrival_63 ?_
              refine lv_topi (fun x_22 ex_22 => ?_)
              obtain rfl : x_22 = iZ (w + 20) := ex_22.trans (iZ_add w 20)
              refine lv_icmp_ge (tgt := 101) hx hb dX3_arrival_64 rfl (fun c_23 => ?_) (fun c_23 => ?_)
              ·
                have c_23 := (zle (x := iZ (w + 20)) (y := iZ i) rfl rfl ⟨by omega, by omega⟩ ⟨by omega, by omega⟩).mp c_23
                have hex9 : i = w + 20 ∨ lt f a w b i ≤ i - w := by first | exact Or.inl (by omega) | exact Or.inr (by unfold lt; omega)
                have hfd := arN_f (g := g) (ni := ni) hx0 ha0 hb0 (show ¬ a = b from (by omega)) (show 0 ≤ w ∧ w ≤ 400 from ⟨by omega, by omega⟩) ⟨hi1, hi2⟩ hex9 hi3
                refine lv_aload_n hx hb dX3_arrival_101 rfl (lv_at hl 3 rfl) ?_
                refine va_get (D := D) (ci := 3) (v := .ref ha_8) (C := RX3) (T := TX3) (N := 4) hx hb hts iX3 hown hK hP 3 rfl rfl 2 (bl rfl) (hts _ qf_X3_19) (fun _ h => h) rfl dX3_arrival_102 ?_
                refine lv_iload hx hb dX3_arrival_105 (lv_at hl 2 rfl) ?_
                refine lv_aload_n hx hb dX3_arrival_107 rfl (lv_at hl 3 rfl) ?_
                refine va_get (D := D) (ci := 3) (v := .ref hs) (C := RX3) (T := TX3) (N := 4) hx hb hts iX3 hown hK hP 3 rfl rfl 0 (bl rfl) (hts _ qf_X3_11) (fun _ h => h) rfl dX3_arrival_108 ?_
                refine lv_iload_n hx hb dX3_arrival_111 rfl (lv_at hl 4 rfl) ?_
                refine lv_iload_n hx hb dX3_arrival_112 rfl (lv_at hl 6 rfl) ?_
                refine lv_iload_n hx hb dX3_arrival_113 rfl (lv_at hl 5 rfl) ?_
                refine CRV (As := [.int (iZ a), .int (iZ b), .int (iZ w)]) (rest := [.int (iZ ((((a * 6) + b) * 401) + w)), .ref ha_8]) hx hb hml hown hts hKK (hP.sub (ws' := [(hs, .inr (5, fs)), (hg, .inl (k 1, 32, .inl g))]) [0, 2] rfl) (k_ice l D k hs hg fs f2 g ni f4 hni a b w ⟨by omega, by omega⟩ ⟨by omega, by omega⟩ ⟨by omega, by omega⟩) ci_X5_hasIce qm_X3_39 ⟨Nat.le_of_ble_eq_true rfl, Nat.le_of_ble_eq_true rfl⟩ ⟨cz_le _ _, sz_le _ _⟩ 0 rfl rfl rfl hl.1 rfl (Nat.le_of_ble_eq_true rfl) dX3_arrival_114 ?_
                have hz_h_24 := bz_01 (isIc g ni a b w)
                refine lv_if_eq (tgt := 124) hx hb dX3_arrival_117 rfl (fun c_25 => ?_) (fun c_25 => ?_)
                ·
                  have c_25 := (zeq (x := iZ (bz (isIc g ni a b w))) (y := iZ 0) rfl rfl ⟨by omega, by omega⟩ wn_0).mp c_25
                  refine lv_iload hx hb dX3_arrival_124 (lv_at hl 0 rfl) ?_
                  refine va_iast hx hb hK hP hD hS 4 1 rfl rfl (zin (e := ((((a * 6) + b) * 401) + w)) (n := 14436) ⟨by omega, by omega⟩ (bl rfl)) dX3_arrival_126 (fun H locs hP hD hS => ?_)
                  obtain ⟨f_26, hf_26⟩ : ∃ gg9, gg9 = upd fa_10 (iZ ((((a * 6) + b) * 401) + w)).toNatClampNeg (iZ i) := ⟨_, rfl⟩
                  rw [← hf_26] at hP hD
                  have rgf_26 := rg_upd rgah_13 hf_26 (by omega) ⟨by omega, by omega⟩ ⟨by omega, by omega⟩
                  have hv_27 : i = arN f g ni a w b := (hfd.2 (by omega)).symm
                  refine lv_aload_n hx hb dX3_arrival_127 rfl (lv_at hl 3 rfl) ?_
                  refine va_get (D := D) (ci := 3) (v := .ref ha_8) (C := RX3) (T := TX3) (N := 4) hx hb hts iX3 hown hK hP 3 rfl rfl 2 (bl rfl) (hts _ qf_X3_19) (fun _ h => h) rfl dX3_arrival_128 ?_
                  refine lv_iload hx hb dX3_arrival_131 (lv_at hl 2 rfl) ?_
                  refine va_iald hx hb hK hP 4 1 rfl rfl (zin (e := ((((a * 6) + b) * 401) + w)) (n := 14436) ⟨by omega, by omega⟩ (bl rfl)) dX3_arrival_133 ?_
                  refine lv_topi (fun x_28 ex_28 => ?_)
                  obtain rfl : x_28 = iZ (gz f_26 ((((a * 6) + b) * 401) + w)) := ex_28.trans (gz_eq ⟨by omega, by omega⟩)
                  have h_29 := rgf_26 ((((a * 6) + b) * 401) + w) (by omega) (by omega)
                  have uh_29 := gz_up hf_26 ⟨by omega, by omega⟩ ⟨by omega, by omega⟩ (j := ((((a * 6) + b) * 401) + w)) (by omega)
                  rw [if_pos rfl] at uh_29
                  exact EXi hx hb hr hlocks (fun h => absurd (show false = true from h) (by decide)) hS ((gz f_26 ((((a * 6) + b) * 401) + w)), (madeR k ha_8 hl_9 f_26 fl_11 op_12)) rfl rfl ⟨⟨⟨by omega, by omega⟩, (by have h9 := hv_27; omega), mor_7⟩, (RT.mk rgf_26 rglh_13 (RX.arr rxh_13 hf_26 rfl ha0 hb0 ⟨by omega, by omega⟩ hn hv_27 ⟨by omega, by omega⟩))⟩ (hP.sub [3, 0, 1, 2, 4, 5] rfl) (hD.sub [3, 0, 1, 2, 4, 5] rfl rfl) dX3_arrival_134
                ·
                  have c_25 := mt (zeq (x := iZ (bz (isIc g ni a b w))) (y := iZ 0) rfl rfl ⟨by omega, by omega⟩ wn_0).mpr c_25
                  refine lv_iconst (v := iZ (-1)) hx hb dX3_arrival_120 rfl ?_
                  refine lv_goto (tgt := 126) hx hb dX3_arrival_121 rfl ?_
                  refine va_iast hx hb hK hP hD hS 4 1 rfl rfl (zin (e := ((((a * 6) + b) * 401) + w)) (n := 14436) ⟨by omega, by omega⟩ (bl rfl)) dX3_arrival_126 (fun H locs hP hD hS => ?_)
                  obtain ⟨f_30, hf_30⟩ : ∃ gg9, gg9 = upd fa_10 (iZ ((((a * 6) + b) * 401) + w)).toNatClampNeg (iZ (-1)) := ⟨_, rfl⟩
                  rw [← hf_30] at hP hD
                  have rgf_30 := rg_upd rgah_13 hf_30 (by omega) ⟨by omega, by omega⟩ ⟨by omega, by omega⟩
                  have hv_31 : (-1) = arN f g ni a w b := (hfd.1 (by omega)).symm
                  refine lv_aload_n hx hb dX3_arrival_127 rfl (lv_at hl 3 rfl) ?_
                  refine va_get (D := D) (ci := 3) (v := .ref ha_8) (C := RX3) (T := TX3) (N := 4) hx hb hts iX3 hown hK hP 3 rfl rfl 2 (bl rfl) (hts _ qf_X3_19) (fun _ h => h) rfl dX3_arrival_128 ?_
                  refine lv_iload hx hb dX3_arrival_131 (lv_at hl 2 rfl) ?_
                  refine va_iald hx hb hK hP 4 1 rfl rfl (zin (e := ((((a * 6) + b) * 401) + w)) (n := 14436) ⟨by omega, by omega⟩ (bl rfl)) dX3_arrival_133 ?_
                  refine lv_topi (fun x_32 ex_32 => ?_)
                  obtain rfl : x_32 = iZ (gz f_30 ((((a * 6) + b) * 401) + w)) := ex_32.trans (gz_eq ⟨by omega, by omega⟩)
                  have h_33 := rgf_30 ((((a * 6) + b) * 401) + w) (by omega) (by omega)
                  have uh_33 := gz_up hf_30 ⟨by omega, by omega⟩ ⟨by omega, by omega⟩ (j := ((((a * 6) + b) * 401) + w)) (by omega)
                  rw [if_pos rfl] at uh_33
                  exact EXi hx hb hr hlocks (fun h => absurd (show false = true from h) (by decide)) hS ((gz f_30 ((((a * 6) + b) * 401) + w)), (madeR k ha_8 hl_9 f_30 fl_11 op_12)) rfl rfl ⟨⟨⟨by omega, by omega⟩, (by have h9 := hv_31; omega), mor_7⟩, (RT.mk rgf_30 rglh_13 (RX.arr rxh_13 hf_30 rfl ha0 hb0 ⟨by omega, by omega⟩ hn hv_31 ⟨by omega, by omega⟩))⟩ (hP.sub [3, 0, 1, 2, 4, 5] rfl) (hD.sub [3, 0, 1, 2, 4, 5] rfl rfl) dX3_arrival_134
              ·
                have c_23 := mt (zle (x := iZ (w + 20)) (y := iZ i) rfl rfl ⟨by omega, by omega⟩ ⟨by omega, by omega⟩).mpr c_23
                refine lv_aload_n hx hb dX3_arrival_67 rfl (lv_at hl 3 rfl) ?_
                refine va_get (D := D) (ci := 3) (v := .ref hs) (C := RX3) (T := TX3) (N := 4) hx hb hts iX3 hown hK hP 3 rfl rfl 0 (bl rfl) (hts _ qf_X3_11) (fun _ h => h) rfl dX3_arrival_68 ?_
                refine lv_iload_n hx hb dX3_arrival_71 rfl (lv_at hl 4 rfl) ?_
                refine lv_iload hx hb dX3_arrival_72 (lv_at hl 1 rfl) ?_
                refine lv_iload_n hx hb dX3_arrival_74 rfl (lv_at hl 6 rfl) ?_
                refine lv_aload_n hx hb dX3_arrival_75 rfl (lv_at hl 3 rfl) ?_
                refine va_get (D := D) (ci := 3) (v := .ref hs) (C := RX3) (T := TX3) (N := 4) hx hb hts iX3 hown hK hP 3 rfl rfl 0 (bl rfl) (hts _ qf_X3_11) (fun _ h => h) rfl dX3_arrival_76 ?_
                refine lv_iload_n hx hb dX3_arrival_79 rfl (lv_at hl 6 rfl) ?_
                refine lv_iload hx hb dX3_arrival_80 (lv_at hl 0 rfl) ?_
                refine CRV (As := [.int (iZ b), .int (iZ i)]) (rest := [.int (iZ b), .int (iZ (hd f a w)), .int (iZ a), .ref hs]) hx hb hml hown hts hKK (hP.sub (ws' := [(hs, .inr (5, fs)), (hf, .inl (k 1, 36, .inl f))]) [0, 1] rfl) (k_heading l D k hs hf fs f1 f n hn hx0 b i ⟨by omega, by omega⟩ ⟨by omega, by omega⟩) ci_X5_heading qm_X3_30 ⟨Nat.le_of_ble_eq_true rfl, Nat.le_of_ble_eq_true rfl⟩ ⟨cz_le _ _, sz_le _ _⟩ 0 rfl rfl rfl hl.1 rfl (Nat.le_of_ble_eq_true rfl) dX3_arrival_82 ?_
                have hh_h_34 := hd_rg f b i
                refine CRV (As := [.int (iZ a), .int (iZ (hd f a w)), .int (iZ b), .int (iZ (hd f b i))]) (rest := []) hx hb hml hown hts hKK (hP.sub (ws' := [(hs, .inr (5, fs)), (hf, .inl (k 1, 36, .inl f))]) [0, 1] rfl) (k_apart l D k hs hf fs f1 f n hn hx0 a (hd f a w) b (hd f b i) ⟨by omega, by omega⟩ ⟨by omega, by omega⟩ ⟨by omega, by omega⟩ ⟨by omega, by omega⟩) ci_X5_apart qm_X3_35 ⟨Nat.le_of_ble_eq_true rfl, Nat.le_of_ble_eq_true rfl⟩ ⟨cz_le _ _, sz_le _ _⟩ 0 rfl rfl rfl hl.1 rfl (Nat.le_of_ble_eq_true rfl) dX3_arrival_85 ?_
                have ha_h_35 := ap_rg (h := (hd f a w)) (g := (hd f b i)) hx0 (a := a) (b := b) ⟨by omega, by omega⟩ ⟨by omega, by omega⟩ ⟨by omega, by omega⟩ ⟨by omega, by omega⟩
                refine lv_iload hx hb dX3_arrival_88 (lv_at hl 0 rfl) ?_
                refine lv_iload_n hx hb dX3_arrival_90 rfl (lv_at hl 5 rfl) ?_
                refine lv_isub hx hb dX3_arrival_91 ?_
                refine lv_topi (fun x_36 ex_36 => ?_)
                obtain rfl : x_36 = iZ (i - w) := ex_36.trans (iZ_sub i w)
                refine lv_icmp_le (tgt := 101) hx hb dX3_arrival_92 rfl (fun c_37 => ?_) (fun c_37 => ?_)
                ·
                  have c_37 := (zle (x := iZ (ap f a (hd f a w) b (hd f b i))) (y := iZ (i - w)) rfl rfl ⟨by omega, by omega⟩ ⟨by omega, by omega⟩).mp c_37
                  have hex9 : i = w + 20 ∨ lt f a w b i ≤ i - w := by first | exact Or.inl (by omega) | exact Or.inr (by unfold lt; omega)
                  have hfd := arN_f (g := g) (ni := ni) hx0 ha0 hb0 (show ¬ a = b from (by omega)) (show 0 ≤ w ∧ w ≤ 400 from ⟨by omega, by omega⟩) ⟨hi1, hi2⟩ hex9 hi3
                  refine lv_aload_n hx hb dX3_arrival_101 rfl (lv_at hl 3 rfl) ?_
                  refine va_get (D := D) (ci := 3) (v := .ref ha_8) (C := RX3) (T := TX3) (N := 4) hx hb hts iX3 hown hK hP 3 rfl rfl 2 (bl rfl) (hts _ qf_X3_19) (fun _ h => h) rfl dX3_arrival_102 ?_
                  refine lv_iload hx hb dX3_arrival_105 (lv_at hl 2 rfl) ?_
                  refine lv_aload_n hx hb dX3_arrival_107 rfl (lv_at hl 3 rfl) ?_
                  refine va_get (D := D) (ci := 3) (v := .ref hs) (C := RX3) (T := TX3) (N := 4) hx hb hts iX3 hown hK hP 3 rfl rfl 0 (bl rfl) (hts _ qf_X3_11) (fun _ h => h) rfl dX3_arrival_108 ?_
                  refine lv_iload_n hx hb dX3_arrival_111 rfl (lv_at hl 4 rfl) ?_
                  refine lv_iload_n hx hb dX3_arrival_112 rfl (lv_at hl 6 rfl) ?_
                  refine lv_iload_n hx hb dX3_arrival_113 rfl (lv_at hl 5 rfl) ?_
                  refine CRV (As := [.int (iZ a), .int (iZ b), .int (iZ w)]) (rest := [.int (iZ ((((a * 6) + b) * 401) + w)), .ref ha_8]) hx hb hml hown hts hKK (hP.sub (ws' := [(hs, .inr (5, fs)), (hg, .inl (k 1, 32, .inl g))]) [0, 2] rfl) (k_ice l D k hs hg fs f2 g ni f4 hni a b w ⟨by omega, by omega⟩ ⟨by omega, by omega⟩ ⟨by omega, by omega⟩) ci_X5_hasIce qm_X3_39 ⟨Nat.le_of_ble_eq_true rfl, Nat.le_of_ble_eq_true rfl⟩ ⟨cz_le _ _, sz_le _ _⟩ 0 rfl rfl rfl hl.1 rfl (Nat.le_of_ble_eq_true rfl) dX3_arrival_114 ?_
                  have hz_h_38 := bz_01 (isIc g ni a b w)
                  refine lv_if_eq (tgt := 124) hx hb dX3_arrival_117 rfl (fun c_39 => ?_) (fun c_39 => ?_)
                  ·
                    have c_39 := (zeq (x := iZ (bz (isIc g ni a b w))) (y := iZ 0) rfl rfl ⟨by omega, by omega⟩ wn_0).mp c_39
                    refine lv_iload hx hb dX3_arrival_124 (lv_at hl 0 rfl) ?_
                    refine va_iast hx hb hK hP hD hS 4 1 rfl rfl (zin (e := ((((a * 6) + b) * 401) + w)) (n := 14436) ⟨by omega, by omega⟩ (bl rfl)) dX3_arrival_126 (fun H locs hP hD hS => ?_)
                    obtain ⟨f_40, hf_40⟩ : ∃ gg9, gg9 = upd fa_10 (iZ ((((a * 6) + b) * 401) + w)).toNatClampNeg (iZ i) := ⟨_, rfl⟩
                    rw [← hf_40] at hP hD
                    have rgf_40 := rg_upd rgah_13 hf_40 (by omega) ⟨by omega, by omega⟩ ⟨by omega, by omega⟩
                    have hv_41 : i = arN f g ni a w b := (hfd.2 (by omega)).symm
                    refine lv_aload_n hx hb dX3_arrival_127 rfl (lv_at hl 3 rfl) ?_
                    refine va_get (D := D) (ci := 3) (v := .ref ha_8) (C := RX3) (T := TX3) (N := 4) hx hb hts iX3 hown hK hP 3 rfl rfl 2 (bl rfl) (hts _ qf_X3_19) (fun _ h => h) rfl dX3_arrival_128 ?_
                    refine lv_iload hx hb dX3_arrival_131 (lv_at hl 2 rfl) ?_
                    refine va_iald hx hb hK hP 4 1 rfl rfl (zin (e := ((((a * 6) + b) * 401) + w)) (n := 14436) ⟨by omega, by omega⟩ (bl rfl)) dX3_arrival_133 ?_
                    refine lv_topi (fun x_42 ex_42 => ?_)
                    obtain rfl : x_42 = iZ (gz f_40 ((((a * 6) + b) * 401) + w)) := ex_42.trans (gz_eq ⟨by omega, by omega⟩)
                    have h_43 := rgf_40 ((((a * 6) + b) * 401) + w) (by omega) (by omega)
                    have uh_43 := gz_up hf_40 ⟨by omega, by omega⟩ ⟨by omega, by omega⟩ (j := ((((a * 6) + b) * 401) + w)) (by omega)
                    rw [if_pos rfl] at uh_43
                    exact EXi hx hb hr hlocks (fun h => absurd (show false = true from h) (by decide)) hS ((gz f_40 ((((a * 6) + b) * 401) + w)), (madeR k ha_8 hl_9 f_40 fl_11 op_12)) rfl rfl ⟨⟨⟨by omega, by omega⟩, (by have h9 := hv_41; omega), mor_7⟩, (RT.mk rgf_40 rglh_13 (RX.arr rxh_13 hf_40 rfl ha0 hb0 ⟨by omega, by omega⟩ hn hv_41 ⟨by omega, by omega⟩))⟩ (hP.sub [3, 0, 1, 2, 4, 5] rfl) (hD.sub [3, 0, 1, 2, 4, 5] rfl rfl) dX3_arrival_134
                  ·
                    have c_39 := mt (zeq (x := iZ (bz (isIc g ni a b w))) (y := iZ 0) rfl rfl ⟨by omega, by omega⟩ wn_0).mpr c_39
                    refine lv_iconst (v := iZ (-1)) hx hb dX3_arrival_120 rfl ?_
                    refine lv_goto (tgt := 126) hx hb dX3_arrival_121 rfl ?_
                    refine va_iast hx hb hK hP hD hS 4 1 rfl rfl (zin (e := ((((a * 6) + b) * 401) + w)) (n := 14436) ⟨by omega, by omega⟩ (bl rfl)) dX3_arrival_126 (fun H locs hP hD hS => ?_)
                    obtain ⟨f_44, hf_44⟩ : ∃ gg9, gg9 = upd fa_10 (iZ ((((a * 6) + b) * 401) + w)).toNatClampNeg (iZ (-1)) := ⟨_, rfl⟩
                    rw [← hf_44] at hP hD
                    have rgf_44 := rg_upd rgah_13 hf_44 (by omega) ⟨by omega, by omega⟩ ⟨by omega, by omega⟩
                    have hv_45 : (-1) = arN f g ni a w b := (hfd.1 (by omega)).symm
                    refine lv_aload_n hx hb dX3_arrival_127 rfl (lv_at hl 3 rfl) ?_
                    refine va_get (D := D) (ci := 3) (v := .ref ha_8) (C := RX3) (T := TX3) (N := 4) hx hb hts iX3 hown hK hP 3 rfl rfl 2 (bl rfl) (hts _ qf_X3_19) (fun _ h => h) rfl dX3_arrival_128 ?_
                    refine lv_iload hx hb dX3_arrival_131 (lv_at hl 2 rfl) ?_
                    refine va_iald hx hb hK hP 4 1 rfl rfl (zin (e := ((((a * 6) + b) * 401) + w)) (n := 14436) ⟨by omega, by omega⟩ (bl rfl)) dX3_arrival_133 ?_
                    refine lv_topi (fun x_46 ex_46 => ?_)
                    obtain rfl : x_46 = iZ (gz f_44 ((((a * 6) + b) * 401) + w)) := ex_46.trans (gz_eq ⟨by omega, by omega⟩)
                    have h_47 := rgf_44 ((((a * 6) + b) * 401) + w) (by omega) (by omega)
                    have uh_47 := gz_up hf_44 ⟨by omega, by omega⟩ ⟨by omega, by omega⟩ (j := ((((a * 6) + b) * 401) + w)) (by omega)
                    rw [if_pos rfl] at uh_47
                    exact EXi hx hb hr hlocks (fun h => absurd (show false = true from h) (by decide)) hS ((gz f_44 ((((a * 6) + b) * 401) + w)), (madeR k ha_8 hl_9 f_44 fl_11 op_12)) rfl rfl ⟨⟨⟨by omega, by omega⟩, (by have h9 := hv_45; omega), mor_7⟩, (RT.mk rgf_44 rglh_13 (RX.arr rxh_13 hf_44 rfl ha0 hb0 ⟨by omega, by omega⟩ hn hv_45 ⟨by omega, by omega⟩))⟩ (hP.sub [3, 0, 1, 2, 4, 5] rfl) (hD.sub [3, 0, 1, 2, 4, 5] rfl rfl) dX3_arrival_134
                ·
                  have c_37 := mt (zle (x := iZ (ap f a (hd f a w) b (hd f b i))) (y := iZ (i - w)) rfl rfl ⟨by omega, by omega⟩ ⟨by omega, by omega⟩).mpr c_37
                  refine lv_iinc (v := iZ (i + 1)) (lv' := [(6, .int (iZ (i + 1))), (5, .int (iZ (hd f a w))), (4, .int (iZ ((((a * 6) + b) * 401) + w))), (0, .ref h), (1, .int (iZ a)), (2, .int (iZ w)), (3, .int (iZ b))]) hx hb dX3_arrival_95 hl (k := 0) rfl (iZ_add i 1) (by decide) rfl (fun ls hl => ?_)
                  refine lv_goto (tgt := 58) hx hb dX3_arrival_98 rfl ?_
                  exact ih1  (i + 1) _ _ _ (by omega) (by omega) (by omega) (by intro s9 h1 h2; rcases Int.lt_or_eq_of_le (show s9 ≤ i by omega) with h3 | h3; exact hi3 s9 h1 h3; rw [h3]; have := c_37; unfold lt; omega) (hP.sub [0, 1, 2, 3, 4, 5] rfl) (hD.sub [0, 1, 2, 3, 4, 5] rfl rfl) hS (lv_sub hl [0, 1, 2, 3, 4, 5, 6] rfl)
          exact HL1 21 (w + 1) _ _ _ (by omega) (by omega) (by omega) (fun s9 h1 h2 => absurd h1 (by omega)) (hP.sub [0, 1, 2, 3, 4, 5] rfl) (hD.sub [0, 1, 2, 3, 4, 5] rfl rfl) hS (lv_sub hl [0, 1, 2, 3, 4, 5, 6] rfl)
      ·
        have c_3 := (zeq (x := iZ a) (y := iZ b) rfl rfl ⟨by omega, by omega⟩ ⟨by omega, by omega⟩).mp c_3
        refine lv_iload_n hx hb dX3_arrival_18 rfl (lv_at hl 2 rfl) ?_
        exact EXi hx hb hr hlocks (fun h => h) hS (w, r0) rfl rfl ⟨⟨⟨by omega, by omega⟩, (by obtain rfl : a = b := (by omega); exact (arN_s ⟨by omega, by omega⟩).symm), (fun d h1 h2 h3 => h3)⟩, hRT⟩ (va_P.subT (pre := [(h, .inr (3, [.ref hs, .long r0.op, r0.vA, r0.vL])), (hs, .inr (5, fs)), (hf, .inl (k 1, 36, .inl f)), (hg, .inl (k 1, 32, .inl g))]) (pre' := [(h, .inr (3, [.ref hs, .long r0.op, r0.vA, r0.vL])), (hs, .inr (5, fs)), (hf, .inl (k 1, 36, .inl f)), (hg, .inl (k 1, 32, .inl g))]) (tl := r0.tl) hP [0, 1, 2, 3] rfl) (va_D.subT (pre := [(h, .inr (3, [.ref hs, .long r0.op, r0.vA, r0.vL])), (hs, .inr (5, fs)), (hf, .inl (k 1, 36, .inl f)), (hg, .inl (k 1, 32, .inl g))]) (pre' := [(h, .inr (3, [.ref hs, .long r0.op, r0.vA, r0.vL])), (hs, .inr (5, fs)), (hf, .inl (k 1, 36, .inl f)), (hg, .inl (k 1, 32, .inl g))]) (tl := r0.tl) hD [0, 1, 2, 3] rfl rfl) dX3_arrival_19
    ·
      have c_2 := mt (zle (x := iZ w) (y := iZ 400) rfl rfl ⟨by omega, by omega⟩ wn_400).mpr c_2
      refine lv_iconst (v := iZ (-1)) hx hb dX3_arrival_11 rfl ?_
      exact EXi hx hb hr hlocks (fun h => h) hS ((-1), r0) rfl rfl ⟨⟨⟨by omega, by omega⟩, (arN_o (by omega)).symm, (fun d h1 h2 h3 => h3)⟩, hRT⟩ (va_P.subT (pre := [(h, .inr (3, [.ref hs, .long r0.op, r0.vA, r0.vL])), (hs, .inr (5, fs)), (hf, .inl (k 1, 36, .inl f)), (hg, .inl (k 1, 32, .inl g))]) (pre' := [(h, .inr (3, [.ref hs, .long r0.op, r0.vA, r0.vL])), (hs, .inr (5, fs)), (hf, .inl (k 1, 36, .inl f)), (hg, .inl (k 1, 32, .inl g))]) (tl := r0.tl) hP [0, 1, 2, 3] rfl) (va_D.subT (pre := [(h, .inr (3, [.ref hs, .long r0.op, r0.vA, r0.vL])), (hs, .inr (5, fs)), (hf, .inl (k 1, 36, .inl f)), (hg, .inl (k 1, 32, .inl g))]) (pre' := [(h, .inr (3, [.ref hs, .long r0.op, r0.vA, r0.vL])), (hs, .inr (5, fs)), (hf, .inl (k 1, 36, .inl f)), (hg, .inl (k 1, 32, .inl g))]) (tl := r0.tl) hD [0, 1, 2, 3] rfl rfl) dX3_arrival_12
