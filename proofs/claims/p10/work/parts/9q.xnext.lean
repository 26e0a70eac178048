set_option maxHeartbeats 4000000 in
set_option maxRecDepth 100000 in
theorem x_next (l : Launch) (D : va_G) (k : Nat → ClassId) (hr1 : Nat) (tx : Nat) (kw : Nat) (tp : Int) (ln : Int) (pl : Int) (en : Int) (ki : Int) (va : Int) (ke : Int) (fk : Int) (fp : Int) (nm : Int64) (bf : Nat → Int32) (kwf : Nat → Int64) (hI1 : (0 ≤ tp ∧ tp ≤ 900) ∧ (0 ≤ ln ∧ ln ≤ 900) ∧ (0 ≤ en ∧ en ≤ ln)) (hbf : rgI bf (-128) 127 900) (hkw : ∀ j : Nat, j < 25 → kwf j = lZ (kwC j)) : WD (σ := ((Nat → Int) × (Nat → Int64) × (Nat → Nat → Int32) × (Nat → Nat → Int64))) l yX4_next cX4_next 1 none 1 0 0 D k [.ref hr1] [(hr1, .inr (4, [.ref tx, .ref kw, .int (iZ tp), .int (iZ ln), .int (iZ pl), .int (iZ en), .int (iZ ki), .int (iZ va), .int (iZ ke), .long nm, .int (iZ fk), .int (iZ fp)])), (tx, .inl (k 0, 900, .inl bf)), (kw, .inl (k 2, 25, .inr (.inl kwf)))] (fun _ => none) (fun u => (RDX (tX bf ln) en (u.1 1) (u.1 2) (u.1 3) (u.1 4) (u.1 5) (u.2.1 1)) ∧ ((0 ≤ tp ∧ tp ≤ 900) ∧ (0 ≤ ln ∧ ln ≤ 900) ∧ (0 ≤ (u.1 1) ∧ (u.1 1) ≤ (u.1 2)) ∧ ((u.1 2) ≤ ln) ∧ (0 ≤ (u.1 3) ∧ (u.1 3) ≤ 4) ∧ (-2147483648 ≤ (u.1 4) ∧ (u.1 4) < 2147483648) ∧ (-1 ≤ (u.1 5) ∧ (u.1 5) ≤ 24))) (fun u => [(hr1, .inr (4, [.ref tx, .ref kw, .int (iZ tp), .int (iZ ln), .int (iZ (u.1 1)), .int (iZ (u.1 2)), .int (iZ (u.1 3)), .int (iZ (u.1 4)), .int (iZ (u.1 5)), .long (u.2.1 1), .int (iZ fk), .int (iZ fp)])), (tx, .inl (k 0, 900, .inl bf)), (kw, .inl (k 2, 25, .inr (.inl kwf)))]) := by
  refine MW (by decide) (Nat.le_of_ble_eq_true rfl) (fun p e s m below meth c ls A hx hb hml hr hlocks hin hts hown hKK hP hD hS hA hl => ?_)
  have hK := hKK.1
  have hl : lv_has ls 1 [(0, .ref hr1)] := hl
  have HL1 : ∀ (fu : Nat) (en3 : Int) (H : Heap) (locs : List Loc) (ls : Array Slot), (ln + 1 - en3) < (fu : Int) → (en ≤ en3 ∧ en3 ≤ ln) → (∀ j : Int, en ≤ j → j < en3 → wsB (tX bf ln j)) → va_P D vwCl [(hr1, .inr (4, [.ref tx, .ref kw, .int (iZ tp), .int (iZ ln), .int (iZ pl), .int (iZ en3), .int (iZ ki), .int (iZ va), .int (iZ ke), .long nm, .int (iZ fk), .int (iZ fp)])), (tx, .inl (k 0, 900, .inl bf)), (kw, .inl (k 2, 25, .inr (.inl kwf)))] H → va_D A [(hr1, .inr (4, [.ref tx, .ref kw, .int (iZ tp), .int (iZ ln), .int (iZ pl), .int (iZ en3), .int (iZ ki), .int (iZ va), .int (iZ ke), .long nm, .int (iZ fk), .int (iZ fp)])), (tx, .inl (k 0, 900, .inl bf)), (kw, .inl (k 2, 25, .inr (.inl kwf)))] → va_S A s.heap H locs → lv_has ls 1 [(0, .ref hr1)] → W p l e (rj 1 0 0) s m [.ref hr1].toArray below meth c H locs 0 0 (MQ below (QW (σ := ((Nat → Int) × (Nat → Int64) × (Nat → Nat → Int32) × (Nat → Nat → Int64))) (fun _ => none) (fun u => (RDX (tX bf ln) en (u.1 1) (u.1 2) (u.1 3) (u.1 4) (u.1 5) (u.2.1 1)) ∧ ((0 ≤ tp ∧ tp ≤ 900) ∧ (0 ≤ ln ∧ ln ≤ 900) ∧ (0 ≤ (u.1 1) ∧ (u.1 1) ≤ (u.1 2)) ∧ ((u.1 2) ≤ ln) ∧ (0 ≤ (u.1 3) ∧ (u.1 3) ≤ 4) ∧ (-2147483648 ≤ (u.1 4) ∧ (u.1 4) < 2147483648) ∧ (-1 ≤ (u.1 5) ∧ (u.1 5) ≤ 24))) (fun u => [(hr1, .inr (4, [.ref tx, .ref kw, .int (iZ tp), .int (iZ ln), .int (iZ (u.1 1)), .int (iZ (u.1 2)), .int (iZ (u.1 3)), .int (iZ (u.1 4)), .int (iZ (u.1 5)), .long (u.2.1 1), .int (iZ fk), .int (iZ fp)])), (tx, .inl (k 0, 900, .inl bf)), (kw, .inl (k 2, 25, .inr (.inl kwf)))]) D A) [.ref hr1].toArray s 0 0 A) (F0 m 0 ls []) := by
    intro fu
    induction fu with
    | zero => intro en3 H locs ls hμ1 he1 hrun hP hD hS hl; exact absurd hμ1 (by omega)
    | succ fu ih1 =>
      intro en3 H locs ls hμ1 he1 hrun hP hD hS hl
      refine lv_aload_n hx hb dX4_next_0 rfl (lv_at hl 0 rfl) ?_
      refine va_get (D := D) (ci := 4) (v := .int (iZ en3)) (C := RX4) (T := TX4) (N := 12) hx hb hts iX4 hown hK hP 0 rfl rfl 5 (by decide) (hts _ qf_X4_47) (fun _ h => h) rfl dX4_next_1 ?_
      refine lv_aload_n hx hb dX4_next_4 rfl (lv_at hl 0 rfl) ?_
      refine va_get (D := D) (ci := 4) (v := .int (iZ ln)) (C := RX4) (T := TX4) (N := 12) hx hb hts iX4 hown hK hP 0 rfl rfl 3 (by decide) (hts _ qf_X4_45) (fun _ h => h) rfl dX4_next_5 ?_
      refine lv_icmp_ge (tgt := 52) hx hb dX4_next_8 (by decide) (fun c_1 => ?_) (fun c_1 => ?_)
      ·
        have c_1 := (zle (x := iZ ln) (y := iZ en3) rfl rfl ⟨by omega, by omega⟩ ⟨by omega, by omega⟩).mp c_1
        have hte_2 := tX_c (f := bf) (sz := ln) (x := en3) (by omega) (fun h9 => hbf _ (by omega) (by omega))
        have hpl : en3 = xPl (tX bf ln) en := rnF_eq ⟨by omega, hrun, (show ¬ (tX bf ln en3 = 32 ∨ tX bf ln en3 = 10) from (by omega))⟩
        refine lv_aload_n hx hb dX4_next_52 rfl (lv_at hl 0 rfl) ?_
        refine lv_aload_n hx hb dX4_next_53 rfl (lv_at hl 0 rfl) ?_
        refine va_get (D := D) (ci := 4) (v := .int (iZ en3)) (C := RX4) (T := TX4) (N := 12) hx hb hts iX4 hown hK hP 0 rfl rfl 5 (by decide) (hts _ qf_X4_47) (fun _ h => h) rfl dX4_next_54 ?_
        refine va_put (D := D) (ci := 4) (v := .int (iZ en3)) (ty := .int) (C := RX4) (T := TX4) (N := 12) hx hb hts iX4 tyX4 tyX4_ok nmX4 hown hK hP hD hS 0 rfl rfl 4 (by decide) (hts _ qf_X4_53) (fun _ h => h) rfl (by decide +kernel) rfl rfl (Nat.le_of_ble_eq_true rfl) dX4_next_57 (fun H locs hP hD hS => ?_)
        refine lv_aload_n hx hb dX4_next_60 rfl (lv_at hl 0 rfl) ?_
        refine lv_iconst (v := iZ (-1)) hx hb dX4_next_61 (by decide) ?_
        refine va_put (D := D) (ci := 4) (v := .int (iZ (-1))) (ty := .int) (C := RX4) (T := TX4) (N := 12) hx hb hts iX4 tyX4 tyX4_ok nmX4 hown hK hP hD hS 0 rfl rfl 8 (by decide) (hts _ qf_X4_56) (fun _ h => h) rfl (by decide +kernel) rfl rfl (Nat.le_of_ble_eq_true rfl) dX4_next_62 (fun H locs hP hD hS => ?_)
        refine lv_aload_n hx hb dX4_next_65 rfl (lv_at hl 0 rfl) ?_
        refine lv_ldc2 (own := RX4) (v := (-1)) hx hb hown (hts _ qk_X4_59) dX4_next_66 ?_
        refine va_put (D := D) (ci := 4) (v := .long (-1)) (ty := .long) (C := RX4) (T := TX4) (N := 12) hx hb hts iX4 tyX4 tyX4_ok nmX4 hown hK hP hD hS 0 rfl rfl 9 (by decide) (hts _ qf_X4_61) (fun _ h => h) rfl (by decide +kernel) rfl rfl (Nat.le_of_ble_eq_true rfl) dX4_next_69 (fun H locs hP hD hS => ?_)
        refine lv_aload_n hx hb dX4_next_72 rfl (lv_at hl 0 rfl) ?_
        refine lv_iconst (v := iZ (-1)) hx hb dX4_next_73 (by decide) ?_
        refine va_put (D := D) (ci := 4) (v := .int (iZ (-1))) (ty := .int) (C := RX4) (T := TX4) (N := 12) hx hb hts iX4 tyX4 tyX4_ok nmX4 hown hK hP hD hS 0 rfl rfl 7 (by decide) (hts _ qf_X4_65) (fun _ h => h) rfl (by decide +kernel) rfl rfl (Nat.le_of_ble_eq_true rfl) dX4_next_74 (fun H locs hP hD hS => ?_)
        refine lv_aload_n hx hb dX4_next_77 rfl (lv_at hl 0 rfl) ?_
        refine va_get (D := D) (ci := 4) (v := .int (iZ en3)) (C := RX4) (T := TX4) (N := 12) hx hb hts iX4 hown hK hP 0 rfl rfl 5 (by decide) (hts _ qf_X4_47) (fun _ h => h) rfl dX4_next_78 ?_
        refine lv_aload_n hx hb dX4_next_81 rfl (lv_at hl 0 rfl) ?_
        refine va_get (D := D) (ci := 4) (v := .int (iZ ln)) (C := RX4) (T := TX4) (N := 12) hx hb hts iX4 hown hK hP 0 rfl rfl 3 (by decide) (hts _ qf_X4_45) (fun _ h => h) rfl dX4_next_82 ?_
        refine lv_icmp_lt (tgt := 96) hx hb dX4_next_85 (by decide) (fun c_3 => ?_) (fun c_3 => ?_)
        ·
          have c_3 := (zlt (x := iZ en3) (y := iZ ln) rfl rfl ⟨by omega, by omega⟩ ⟨by omega, by omega⟩).mp c_3
          refine lv_aload_n hx hb dX4_next_96 rfl (lv_at hl 0 rfl) ?_
          refine va_get (D := D) (ci := 4) (v := .ref tx) (C := RX4) (T := TX4) (N := 12) hx hb hts iX4 hown hK hP 0 rfl rfl 0 (by decide) (hts _ qf_X4_9) (fun _ h => h) rfl dX4_next_97 ?_
          refine lv_aload_n hx hb dX4_next_100 rfl (lv_at hl 0 rfl) ?_
          refine va_get (D := D) (ci := 4) (v := .int (iZ en3)) (C := RX4) (T := TX4) (N := 12) hx hb hts iX4 hown hK hP 0 rfl rfl 5 (by decide) (hts _ qf_X4_47) (fun _ h => h) rfl dX4_next_101 ?_
          refine va_bald hx hb hK hP 1 0 rfl rfl (zin (e := en3) (n := 900) ⟨by omega, by omega⟩ (by decide)) dX4_next_104 ?_
          refine lv_topi (fun x_4 ex_4 => ?_)
          obtain rfl : x_4 = iZ (gz bf en3) := ex_4.trans (gz_eq ⟨by omega, by omega⟩)
          have h_5 := hbf en3 (by omega) (by omega)
          have ht_6 := tX_c (f := bf) (sz := ln) (x := en3) (by omega) (fun _ => h_5)
          refine lv_bipush (v := iZ 97) hx hb dX4_next_105 (by decide) ?_
          refine lv_icmp_lt (tgt := 131) hx hb dX4_next_107 (by decide) (fun c_7 => ?_) (fun c_7 => ?_)
          ·
            have c_7 := (zlt (x := iZ (gz bf en3)) (y := iZ 97) rfl rfl ⟨by omega, by omega⟩ ⟨by omega, by omega⟩).mp c_7
            refine lv_aload_n hx hb dX4_next_131 rfl (lv_at hl 0 rfl) ?_
            refine va_get (D := D) (ci := 4) (v := .ref tx) (C := RX4) (T := TX4) (N := 12) hx hb hts iX4 hown hK hP 0 rfl rfl 0 (by decide) (hts _ qf_X4_9) (fun _ h => h) rfl dX4_next_132 ?_
            refine lv_aload_n hx hb dX4_next_135 rfl (lv_at hl 0 rfl) ?_
            refine va_get (D := D) (ci := 4) (v := .int (iZ en3)) (C := RX4) (T := TX4) (N := 12) hx hb hts iX4 hown hK hP 0 rfl rfl 5 (by decide) (hts _ qf_X4_47) (fun _ h => h) rfl dX4_next_136 ?_
            refine va_bald hx hb hK hP 1 0 rfl rfl (zin (e := en3) (n := 900) ⟨by omega, by omega⟩ (by decide)) dX4_next_139 ?_
            refine lv_topi (fun x_8 ex_8 => ?_)
            obtain rfl : x_8 = iZ (gz bf en3) := ex_8.trans (gz_eq ⟨by omega, by omega⟩)
            have h_9 := hbf en3 (by omega) (by omega)
            have ht_10 := tX_c (f := bf) (sz := ln) (x := en3) (by omega) (fun _ => h_9)
            refine lv_bipush (v := iZ 48) hx hb dX4_next_140 (by decide) ?_
            refine lv_icmp_lt (tgt := 166) hx hb dX4_next_142 (by decide) (fun c_11 => ?_) (fun c_11 => ?_)
            ·
              have c_11 := (zlt (x := iZ (gz bf en3)) (y := iZ 48) rfl rfl ⟨by omega, by omega⟩ ⟨by omega, by omega⟩).mp c_11
              refine lv_aload_n hx hb dX4_next_166 rfl (lv_at hl 0 rfl) ?_
              refine CWV (As := []) (rest := []) (wc := [(hr1, .inr (4, [.ref tx, .ref kw, .int (iZ tp), .int (iZ ln), .int (iZ en3), .int (iZ en3), .int (iZ ki), .int (iZ (-1)), .int (iZ (-1)), .long (-1), .int (iZ fk), .int (iZ fp)])), (tx, .inl (k 0, 900, .inl bf)), (kw, .inl (k 2, 25, .inr (.inl kwf)))]) (wr := []) hx hb hml hown hts hKK hP hD hS hA (x_readSign l D k hr1 tx kw tp ln en3 en3 ki (-1) (-1) fk fp (-1) bf kwf ⟨⟨by omega, by omega⟩, ⟨by omega, by omega⟩, by omega, by omega⟩ hbf (by omega)) ci_X4_readSign qm_X4_77 ⟨Nat.le_of_ble_eq_true rfl, Nat.le_of_ble_eq_true rfl⟩ ⟨Nat.le_of_ble_eq_true rfl, Nat.le_of_ble_eq_true rfl⟩ [0, 1, 2] [] rfl rfl rfl rfl rfl (by decide) 0 rfl rfl rfl hl.1 rfl (Nat.le_of_ble_eq_true rfl) dX4_next_167 (fun u_12 H locs hφ hP hD hS => ?_)
              obtain ⟨I_13, L_14, F_15, G_16⟩ := u_12
              obtain ⟨p_18, p_19, p_20, p_21⟩ : ((I_13 1) = en3 + 1) ∧ ((I_13 3) = gz bf en3) ∧ ((((I_13 2) : Int) = 3 ∧ (gz bf en3 = 59 ∨ gz bf en3 = 60 ∨ gz bf en3 = 62 ∨ gz bf en3 = 61)) ∨ (((I_13 2) : Int) = 4 ∧ ¬ (gz bf en3 = 59 ∨ gz bf en3 = 60 ∨ gz bf en3 = 62 ∨ gz bf en3 = 61))) ∧ (-128 ≤ (I_13 3) ∧ (I_13 3) ≤ 127) := hφ
              refine W.eq (g2 := F0 m 170 ls []) rfl ?_
              have tk := tk_sign hpl (show ¬ tX bf ln en3 = -1 from (by omega)) (show ¬ (97 ≤ tX bf ln en3 ∧ tX bf ln en3 ≤ 122) from (by omega)) (show ¬ (48 ≤ tX bf ln en3 ∧ tX bf ln en3 ≤ 57) from (by omega))
              exact EWv hx hb hr hlocks hS (fun i => [0, en3, (I_13 1), (I_13 2), (I_13 3), (-1)].getD i 0, fun i => [0, (-1)].getD i 0, fun i => [].getD i (fun _ => 0), fun i => [].getD i (fun _ => 0)) rfl ⟨(show RDX (tX bf ln) en en3 (I_13 1) (I_13 2) (I_13 3) (-1) (-1) from ⟨⟨by omega, hpl⟩, p_18.trans tk.1.symm, (by rw [tk.2.1]; split <;> omega), (fun h => by rw [tk.2.2.2]; omega), tk.2.2.1.symm, (fun h => absurd h (by omega)), Or.inr (by omega)⟩), (show (0 ≤ tp ∧ tp ≤ 900) ∧ (0 ≤ ln ∧ ln ≤ 900) ∧ (0 ≤ en3 ∧ en3 ≤ (I_13 1)) ∧ ((I_13 1) ≤ ln) ∧ (0 ≤ (I_13 2) ∧ (I_13 2) ≤ 4) ∧ (-2147483648 ≤ (I_13 3) ∧ (I_13 3) < 2147483648) ∧ (-1 ≤ (-1) ∧ (-1) ≤ 24) from ⟨⟨by omega, by omega⟩, ⟨by omega, by omega⟩, ⟨by omega, by omega⟩, by omega, ⟨by omega, by omega⟩, ⟨by omega, by omega⟩, by omega, by omega⟩)⟩ (hP.sub [0, 1, 2] rfl) (hD.sub [0, 1, 2] rfl rfl) dX4_next_170
            ·
              have c_11 := mt (zlt (x := iZ (gz bf en3)) (y := iZ 48) rfl rfl ⟨by omega, by omega⟩ ⟨by omega, by omega⟩).mpr c_11
              refine lv_aload_n hx hb dX4_next_145 rfl (lv_at hl 0 rfl) ?_
              refine va_get (D := D) (ci := 4) (v := .ref tx) (C := RX4) (T := TX4) (N := 12) hx hb hts iX4 hown hK hP 0 rfl rfl 0 (by decide) (hts _ qf_X4_9) (fun _ h => h) rfl dX4_next_146 ?_
              refine lv_aload_n hx hb dX4_next_149 rfl (lv_at hl 0 rfl) ?_
              refine va_get (D := D) (ci := 4) (v := .int (iZ en3)) (C := RX4) (T := TX4) (N := 12) hx hb hts iX4 hown hK hP 0 rfl rfl 5 (by decide) (hts _ qf_X4_47) (fun _ h => h) rfl dX4_next_150 ?_
              refine va_bald hx hb hK hP 1 0 rfl rfl (zin (e := en3) (n := 900) ⟨by omega, by omega⟩ (by decide)) dX4_next_153 ?_
              refine lv_topi (fun x_22 ex_22 => ?_)
              obtain rfl : x_22 = iZ (gz bf en3) := ex_22.trans (gz_eq ⟨by omega, by omega⟩)
              have h_23 := hbf en3 (by omega) (by omega)
              have ht_24 := tX_c (f := bf) (sz := ln) (x := en3) (by omega) (fun _ => h_23)
              refine lv_bipush (v := iZ 57) hx hb dX4_next_154 (by decide) ?_
              refine lv_icmp_gt (tgt := 166) hx hb dX4_next_156 (by decide) (fun c_25 => ?_) (fun c_25 => ?_)
              ·
                have c_25 := (zlt (x := iZ 57) (y := iZ (gz bf en3)) rfl rfl ⟨by omega, by omega⟩ ⟨by omega, by omega⟩).mp c_25
                refine lv_aload_n hx hb dX4_next_166 rfl (lv_at hl 0 rfl) ?_
                refine CWV (As := []) (rest := []) (wc := [(hr1, .inr (4, [.ref tx, .ref kw, .int (iZ tp), .int (iZ ln), .int (iZ en3), .int (iZ en3), .int (iZ ki), .int (iZ (-1)), .int (iZ (-1)), .long (-1), .int (iZ fk), .int (iZ fp)])), (tx, .inl (k 0, 900, .inl bf)), (kw, .inl (k 2, 25, .inr (.inl kwf)))]) (wr := []) hx hb hml hown hts hKK hP hD hS hA (x_readSign l D k hr1 tx kw tp ln en3 en3 ki (-1) (-1) fk fp (-1) bf kwf ⟨⟨by omega, by omega⟩, ⟨by omega, by omega⟩, by omega, by omega⟩ hbf (by omega)) ci_X4_readSign qm_X4_77 ⟨Nat.le_of_ble_eq_true rfl, Nat.le_of_ble_eq_true rfl⟩ ⟨Nat.le_of_ble_eq_true rfl, Nat.le_of_ble_eq_true rfl⟩ [0, 1, 2] [] rfl rfl rfl rfl rfl (by decide) 0 rfl rfl rfl hl.1 rfl (Nat.le_of_ble_eq_true rfl) dX4_next_167 (fun u_26 H locs hφ hP hD hS => ?_)
                obtain ⟨I_27, L_28, F_29, G_30⟩ := u_26
                obtain ⟨p_32, p_33, p_34, p_35⟩ : ((I_27 1) = en3 + 1) ∧ ((I_27 3) = gz bf en3) ∧ ((((I_27 2) : Int) = 3 ∧ (gz bf en3 = 59 ∨ gz bf en3 = 60 ∨ gz bf en3 = 62 ∨ gz bf en3 = 61)) ∨ (((I_27 2) : Int) = 4 ∧ ¬ (gz bf en3 = 59 ∨ gz bf en3 = 60 ∨ gz bf en3 = 62 ∨ gz bf en3 = 61))) ∧ (-128 ≤ (I_27 3) ∧ (I_27 3) ≤ 127) := hφ
                refine W.eq (g2 := F0 m 170 ls []) rfl ?_
                have tk := tk_sign hpl (show ¬ tX bf ln en3 = -1 from (by omega)) (show ¬ (97 ≤ tX bf ln en3 ∧ tX bf ln en3 ≤ 122) from (by omega)) (show ¬ (48 ≤ tX bf ln en3 ∧ tX bf ln en3 ≤ 57) from (by omega))
                exact EWv hx hb hr hlocks hS (fun i => [0, en3, (I_27 1), (I_27 2), (I_27 3), (-1)].getD i 0, fun i => [0, (-1)].getD i 0, fun i => [].getD i (fun _ => 0), fun i => [].getD i (fun _ => 0)) rfl ⟨(show RDX (tX bf ln) en en3 (I_27 1) (I_27 2) (I_27 3) (-1) (-1) from ⟨⟨by omega, hpl⟩, p_32.trans tk.1.symm, (by rw [tk.2.1]; split <;> omega), (fun h => by rw [tk.2.2.2]; omega), tk.2.2.1.symm, (fun h => absurd h (by omega)), Or.inr (by omega)⟩), (show (0 ≤ tp ∧ tp ≤ 900) ∧ (0 ≤ ln ∧ ln ≤ 900) ∧ (0 ≤ en3 ∧ en3 ≤ (I_27 1)) ∧ ((I_27 1) ≤ ln) ∧ (0 ≤ (I_27 2) ∧ (I_27 2) ≤ 4) ∧ (-2147483648 ≤ (I_27 3) ∧ (I_27 3) < 2147483648) ∧ (-1 ≤ (-1) ∧ (-1) ≤ 24) from ⟨⟨by omega, by omega⟩, ⟨by omega, by omega⟩, ⟨by omega, by omega⟩, by omega, ⟨by omega, by omega⟩, ⟨by omega, by omega⟩, by omega, by omega⟩)⟩ (hP.sub [0, 1, 2] rfl) (hD.sub [0, 1, 2] rfl rfl) dX4_next_170
              ·
                have c_25 := mt (zlt (x := iZ 57) (y := iZ (gz bf en3)) rfl rfl ⟨by omega, by omega⟩ ⟨by omega, by omega⟩).mpr c_25
                refine lv_aload_n hx hb dX4_next_159 rfl (lv_at hl 0 rfl) ?_
                refine CWV (As := []) (rest := []) (wc := [(hr1, .inr (4, [.ref tx, .ref kw, .int (iZ tp), .int (iZ ln), .int (iZ en3), .int (iZ en3), .int (iZ ki), .int (iZ (-1)), .int (iZ (-1)), .long (-1), .int (iZ fk), .int (iZ fp)])), (tx, .inl (k 0, 900, .inl bf)), (kw, .inl (k 2, 25, .inr (.inl kwf)))]) (wr := []) hx hb hml hown hts hKK hP hD hS hA (x_readNumber l D k hr1 tx kw tp ln en3 en3 ki (-1) (-1) fk fp (-1) bf kwf ⟨⟨by omega, by omega⟩, ⟨by omega, by omega⟩, by omega, by omega⟩ hbf (by omega)) ci_X4_readNumber qm_X4_74 ⟨Nat.le_of_ble_eq_true rfl, Nat.le_of_ble_eq_true rfl⟩ ⟨Nat.le_of_ble_eq_true rfl, Nat.le_of_ble_eq_true rfl⟩ [0, 1, 2] [] rfl rfl rfl rfl rfl (by decide) 0 rfl rfl rfl hl.1 rfl (Nat.le_of_ble_eq_true rfl) dX4_next_160 (fun u_36 H locs hφ hP hD hS => ?_)
                obtain ⟨I_37, L_38, F_39, G_40⟩ := u_36
                obtain ⟨p_42, p_43, p_44, p_45, p_46⟩ : (isRn dgB (tX bf ln) en3 (I_37 1)) ∧ ((((I_37 2) : Int) = 4 ∧ 4 < (I_37 1) - en3) ∨ (((I_37 2) : Int) = 2 ∧ (I_37 1) - en3 ≤ 4)) ∧ ((I_37 1) - en3 ≤ 4 → (I_37 3) = xDv (tX bf ln) en3 ((I_37 1) - en3).toNat) ∧ (en3 ≤ (I_37 1) ∧ (I_37 1) ≤ ln) ∧ (0 ≤ (I_37 3) ∧ (I_37 3) ≤ 9999) := hφ
                refine W.eq (g2 := F0 m 163 ls []) rfl ?_
                refine lv_goto (tgt := 170) hx hb dX4_next_163 (by decide) ?_
                have hdg : dgB (tX bf ln en3) := (show 48 ≤ tX bf ln en3 ∧ tX bf ln en3 ≤ 57 from (by omega))
                have tk := tk_num hpl hdg p_42
                exact EWv hx hb hr hlocks hS (fun i => [0, en3, (I_37 1), (I_37 2), (I_37 3), (-1)].getD i 0, fun i => [0, (-1)].getD i 0, fun i => [].getD i (fun _ => 0), fun i => [].getD i (fun _ => 0)) rfl ⟨(show RDX (tX bf ln) en en3 (I_37 1) (I_37 2) (I_37 3) (-1) (-1) from ⟨⟨by omega, hpl⟩, tk.1.symm, (by rw [tk.2.1]; split <;> omega), (fun h => by rw [tk.2.2.2]; exact p_44 (by omega)), tk.2.2.1.symm, (fun h => absurd h (by omega)), Or.inr (rn_lt p_42 hdg)⟩), (show (0 ≤ tp ∧ tp ≤ 900) ∧ (0 ≤ ln ∧ ln ≤ 900) ∧ (0 ≤ en3 ∧ en3 ≤ (I_37 1)) ∧ ((I_37 1) ≤ ln) ∧ (0 ≤ (I_37 2) ∧ (I_37 2) ≤ 4) ∧ (-2147483648 ≤ (I_37 3) ∧ (I_37 3) < 2147483648) ∧ (-1 ≤ (-1) ∧ (-1) ≤ 24) from ⟨⟨by omega, by omega⟩, ⟨by omega, by omega⟩, ⟨by omega, by omega⟩, by omega, ⟨by omega, by omega⟩, ⟨by omega, by omega⟩, by omega, by omega⟩)⟩ (hP.sub [0, 1, 2] rfl) (hD.sub [0, 1, 2] rfl rfl) dX4_next_170
          ·
            have c_7 := mt (zlt (x := iZ (gz bf en3)) (y := iZ 97) rfl rfl ⟨by omega, by omega⟩ ⟨by omega, by omega⟩).mpr c_7
            refine lv_aload_n hx hb dX4_next_110 rfl (lv_at hl 0 rfl) ?_
            refine va_get (D := D) (ci := 4) (v := .ref tx) (C := RX4) (T := TX4) (N := 12) hx hb hts iX4 hown hK hP 0 rfl rfl 0 (by decide) (hts _ qf_X4_9) (fun _ h => h) rfl dX4_next_111 ?_
            refine lv_aload_n hx hb dX4_next_114 rfl (lv_at hl 0 rfl) ?_
            refine va_get (D := D) (ci := 4) (v := .int (iZ en3)) (C := RX4) (T := TX4) (N := 12) hx hb hts iX4 hown hK hP 0 rfl rfl 5 (by decide) (hts _ qf_X4_47) (fun _ h => h) rfl dX4_next_115 ?_
            refine va_bald hx hb hK hP 1 0 rfl rfl (zin (e := en3) (n := 900) ⟨by omega, by omega⟩ (by decide)) dX4_next_118 ?_
            refine lv_topi (fun x_47 ex_47 => ?_)
            obtain rfl : x_47 = iZ (gz bf en3) := ex_47.trans (gz_eq ⟨by omega, by omega⟩)
            have h_48 := hbf en3 (by omega) (by omega)
            have ht_49 := tX_c (f := bf) (sz := ln) (x := en3) (by omega) (fun _ => h_48)
            refine lv_bipush (v := iZ 122) hx hb dX4_next_119 (by decide) ?_
            refine lv_icmp_gt (tgt := 131) hx hb dX4_next_121 (by decide) (fun c_50 => ?_) (fun c_50 => ?_)
            ·
              have c_50 := (zlt (x := iZ 122) (y := iZ (gz bf en3)) rfl rfl ⟨by omega, by omega⟩ ⟨by omega, by omega⟩).mp c_50
              refine lv_aload_n hx hb dX4_next_131 rfl (lv_at hl 0 rfl) ?_
              refine va_get (D := D) (ci := 4) (v := .ref tx) (C := RX4) (T := TX4) (N := 12) hx hb hts iX4 hown hK hP 0 rfl rfl 0 (by decide) (hts _ qf_X4_9) (fun _ h => h) rfl dX4_next_132 ?_
              refine lv_aload_n hx hb dX4_next_135 rfl (lv_at hl 0 rfl) ?_
              refine va_get (D := D) (ci := 4) (v := .int (iZ en3)) (C := RX4) (T := TX4) (N := 12) hx hb hts iX4 hown hK hP 0 rfl rfl 5 (by decide) (hts _ qf_X4_47) (fun _ h => h) rfl dX4_next_136 ?_
              refine va_bald hx hb hK hP 1 0 rfl rfl (zin (e := en3) (n := 900) ⟨by omega, by omega⟩ (by decide)) dX4_next_139 ?_
              refine lv_topi (fun x_51 ex_51 => ?_)
              obtain rfl : x_51 = iZ (gz bf en3) := ex_51.trans (gz_eq ⟨by omega, by omega⟩)
              have h_52 := hbf en3 (by omega) (by omega)
              have ht_53 := tX_c (f := bf) (sz := ln) (x := en3) (by omega) (fun _ => h_52)
              refine lv_bipush (v := iZ 48) hx hb dX4_next_140 (by decide) ?_
              refine lv_icmp_lt (tgt := 166) hx hb dX4_next_142 (by decide) (fun c_54 => ?_) (fun c_54 => ?_)
              ·
                have c_54 := (zlt (x := iZ (gz bf en3)) (y := iZ 48) rfl rfl ⟨by omega, by omega⟩ ⟨by omega, by omega⟩).mp c_54
                refine lv_aload_n hx hb dX4_next_166 rfl (lv_at hl 0 rfl) ?_
                refine CWV (As := []) (rest := []) (wc := [(hr1, .inr (4, [.ref tx, .ref kw, .int (iZ tp), .int (iZ ln), .int (iZ en3), .int (iZ en3), .int (iZ ki), .int (iZ (-1)), .int (iZ (-1)), .long (-1), .int (iZ fk), .int (iZ fp)])), (tx, .inl (k 0, 900, .inl bf)), (kw, .inl (k 2, 25, .inr (.inl kwf)))]) (wr := []) hx hb hml hown hts hKK hP hD hS hA (x_readSign l D k hr1 tx kw tp ln en3 en3 ki (-1) (-1) fk fp (-1) bf kwf ⟨⟨by omega, by omega⟩, ⟨by omega, by omega⟩, by omega, by omega⟩ hbf (by omega)) ci_X4_readSign qm_X4_77 ⟨Nat.le_of_ble_eq_true rfl, Nat.le_of_ble_eq_true rfl⟩ ⟨Nat.le_of_ble_eq_true rfl, Nat.le_of_ble_eq_true rfl⟩ [0, 1, 2] [] rfl rfl rfl rfl rfl (by decide) 0 rfl rfl rfl hl.1 rfl (Nat.le_of_ble_eq_true rfl) dX4_next_167 (fun u_55 H locs hφ hP hD hS => ?_)
                obtain ⟨I_56, L_57, F_58, G_59⟩ := u_55
                obtain ⟨p_61, p_62, p_63, p_64⟩ : ((I_56 1) = en3 + 1) ∧ ((I_56 3) = gz bf en3) ∧ ((((I_56 2) : Int) = 3 ∧ (gz bf en3 = 59 ∨ gz bf en3 = 60 ∨ gz bf en3 = 62 ∨ gz bf en3 = 61)) ∨ (((I_56 2) : Int) = 4 ∧ ¬ (gz bf en3 = 59 ∨ gz bf en3 = 60 ∨ gz bf en3 = 62 ∨ gz bf en3 = 61))) ∧ (-128 ≤ (I_56 3) ∧ (I_56 3) ≤ 127) := hφ
                refine W.eq (g2 := F0 m 170 ls []) rfl ?_
                have tk := tk_sign hpl (show ¬ tX bf ln en3 = -1 from (by omega)) (show ¬ (97 ≤ tX bf ln en3 ∧ tX bf ln en3 ≤ 122) from (by omega)) (show ¬ (48 ≤ tX bf ln en3 ∧ tX bf ln en3 ≤ 57) from (by omega))
                exact EWv hx hb hr hlocks hS (fun i => [0, en3, (I_56 1), (I_56 2), (I_56 3), (-1)].getD i 0, fun i => [0, (-1)].getD i 0, fun i => [].getD i (fun _ => 0), fun i => [].getD i (fun _ => 0)) rfl ⟨(show RDX (tX bf ln) en en3 (I_56 1) (I_56 2) (I_56 3) (-1) (-1) from ⟨⟨by omega, hpl⟩, p_61.trans tk.1.symm, (by rw [tk.2.1]; split <;> omega), (fun h => by rw [tk.2.2.2]; omega), tk.2.2.1.symm, (fun h => absurd h (by omega)), Or.inr (by omega)⟩), (show (0 ≤ tp ∧ tp ≤ 900) ∧ (0 ≤ ln ∧ ln ≤ 900) ∧ (0 ≤ en3 ∧ en3 ≤ (I_56 1)) ∧ ((I_56 1) ≤ ln) ∧ (0 ≤ (I_56 2) ∧ (I_56 2) ≤ 4) ∧ (-2147483648 ≤ (I_56 3) ∧ (I_56 3) < 2147483648) ∧ (-1 ≤ (-1) ∧ (-1) ≤ 24) from ⟨⟨by omega, by omega⟩, ⟨by omega, by omega⟩, ⟨by omega, by omega⟩, by omega, ⟨by omega, by omega⟩, ⟨by omega, by omega⟩, by omega, by omega⟩)⟩ (hP.sub [0, 1, 2] rfl) (hD.sub [0, 1, 2] rfl rfl) dX4_next_170
              ·
                have c_54 := mt (zlt (x := iZ (gz bf en3)) (y := iZ 48) rfl rfl ⟨by omega, by omega⟩ ⟨by omega, by omega⟩).mpr c_54
                refine lv_aload_n hx hb dX4_next_145 rfl (lv_at hl 0 rfl) ?_
                refine va_get (D := D) (ci := 4) (v := .ref tx) (C := RX4) (T := TX4) (N := 12) hx hb hts iX4 hown hK hP 0 rfl rfl 0 (by decide) (hts _ qf_X4_9) (fun _ h => h) rfl dX4_next_146 ?_
                refine lv_aload_n hx hb dX4_next_149 rfl (lv_at hl 0 rfl) ?_
                refine va_get (D := D) (ci := 4) (v := .int (iZ en3)) (C := RX4) (T := TX4) (N := 12) hx hb hts iX4 hown hK hP 0 rfl rfl 5 (by decide) (hts _ qf_X4_47) (fun _ h => h) rfl dX4_next_150 ?_
                refine va_bald hx hb hK hP 1 0 rfl rfl (zin (e := en3) (n := 900) ⟨by omega, by omega⟩ (by decide)) dX4_next_153 ?_
                refine lv_topi (fun x_65 ex_65 => ?_)
                obtain rfl : x_65 = iZ (gz bf en3) := ex_65.trans (gz_eq ⟨by omega, by omega⟩)
                have h_66 := hbf en3 (by omega) (by omega)
                have ht_67 := tX_c (f := bf) (sz := ln) (x := en3) (by omega) (fun _ => h_66)
                refine lv_bipush (v := iZ 57) hx hb dX4_next_154 (by decide) ?_
                refine lv_icmp_gt (tgt := 166) hx hb dX4_next_156 (by decide) (fun c_68 => ?_) (fun c_68 => ?_)
                ·
                  have c_68 := (zlt (x := iZ 57) (y := iZ (gz bf en3)) rfl rfl ⟨by omega, by omega⟩ ⟨by omega, by omega⟩).mp c_68
                  refine lv_aload_n hx hb dX4_next_166 rfl (lv_at hl 0 rfl) ?_
                  refine CWV (As := []) (rest := []) (wc := [(hr1, .inr (4, [.ref tx, .ref kw, .int (iZ tp), .int (iZ ln), .int (iZ en3), .int (iZ en3), .int (iZ ki), .int (iZ (-1)), .int (iZ (-1)), .long (-1), .int (iZ fk), .int (iZ fp)])), (tx, .inl (k 0, 900, .inl bf)), (kw, .inl (k 2, 25, .inr (.inl kwf)))]) (wr := []) hx hb hml hown hts hKK hP hD hS hA (x_readSign l D k hr1 tx kw tp ln en3 en3 ki (-1) (-1) fk fp (-1) bf kwf ⟨⟨by omega, by omega⟩, ⟨by omega, by omega⟩, by omega, by omega⟩ hbf (by omega)) ci_X4_readSign qm_X4_77 ⟨Nat.le_of_ble_eq_true rfl, Nat.le_of_ble_eq_true rfl⟩ ⟨Nat.le_of_ble_eq_true rfl, Nat.le_of_ble_eq_true rfl⟩ [0, 1, 2] [] rfl rfl rfl rfl rfl (by decide) 0 rfl rfl rfl hl.1 rfl (Nat.le_of_ble_eq_true rfl) dX4_next_167 (fun u_69 H locs hφ hP hD hS => ?_)
                  obtain ⟨I_70, L_71, F_72, G_73⟩ := u_69
                  obtain ⟨p_75, p_76, p_77, p_78⟩ : ((I_70 1) = en3 + 1) ∧ ((I_70 3) = gz bf en3) ∧ ((((I_70 2) : Int) = 3 ∧ (gz bf en3 = 59 ∨ gz bf en3 = 60 ∨ gz bf en3 = 62 ∨ gz bf en3 = 61)) ∨ (((I_70 2) : Int) = 4 ∧ ¬ (gz bf en3 = 59 ∨ gz bf en3 = 60 ∨ gz bf en3 = 62 ∨ gz bf en3 = 61))) ∧ (-128 ≤ (I_70 3) ∧ (I_70 3) ≤ 127) := hφ
                  refine W.eq (g2 := F0 m 170 ls []) rfl ?_
                  have tk := tk_sign hpl (show ¬ tX bf ln en3 = -1 from (by omega)) (show ¬ (97 ≤ tX bf ln en3 ∧ tX bf ln en3 ≤ 122) from (by omega)) (show ¬ (48 ≤ tX bf ln en3 ∧ tX bf ln en3 ≤ 57) from (by omega))
                  exact EWv hx hb hr hlocks hS (fun i => [0, en3, (I_70 1), (I_70 2), (I_70 3), (-1)].getD i 0, fun i => [0, (-1)].getD i 0, fun i => [].getD i (fun _ => 0), fun i => [].getD i (fun _ => 0)) rfl ⟨(show RDX (tX bf ln) en en3 (I_70 1) (I_70 2) (I_70 3) (-1) (-1) from ⟨⟨by omega, hpl⟩, p_75.trans tk.1.symm, (by rw [tk.2.1]; split <;> omega), (fun h => by rw [tk.2.2.2]; omega), tk.2.2.1.symm, (fun h => absurd h (by omega)), Or.inr (by omega)⟩), (show (0 ≤ tp ∧ tp ≤ 900) ∧ (0 ≤ ln ∧ ln ≤ 900) ∧ (0 ≤ en3 ∧ en3 ≤ (I_70 1)) ∧ ((I_70 1) ≤ ln) ∧ (0 ≤ (I_70 2) ∧ (I_70 2) ≤ 4) ∧ (-2147483648 ≤ (I_70 3) ∧ (I_70 3) < 2147483648) ∧ (-1 ≤ (-1) ∧ (-1) ≤ 24) from ⟨⟨by omega, by omega⟩, ⟨by omega, by omega⟩, ⟨by omega, by omega⟩, by omega, ⟨by omega, by omega⟩, ⟨by omega, by omega⟩, by omega, by omega⟩)⟩ (hP.sub [0, 1, 2] rfl) (hD.sub [0, 1, 2] rfl rfl) dX4_next_170
                ·
                  have c_68 := mt (zlt (x := iZ 57) (y := iZ (gz bf en3)) rfl rfl ⟨by omega, by omega⟩ ⟨by omega, by omega⟩).mpr c_68
                  refine lv_aload_n hx hb dX4_next_159 rfl (lv_at hl 0 rfl) ?_
                  refine CWV (As := []) (rest := []) (wc := [(hr1, .inr (4, [.ref tx, .ref kw, .int (iZ tp), .int (iZ ln), .int (iZ en3), .int (iZ en3), .int (iZ ki), .int (iZ (-1)), .int (iZ (-1)), .long (-1), .int (iZ fk), .int (iZ fp)])), (tx, .inl (k 0, 900, .inl bf)), (kw, .inl (k 2, 25, .inr (.inl kwf)))]) (wr := []) hx hb hml hown hts hKK hP hD hS hA (x_readNumber l D k hr1 tx kw tp ln en3 en3 ki (-1) (-1) fk fp (-1) bf kwf ⟨⟨by omega, by omega⟩, ⟨by omega, by omega⟩, by omega, by omega⟩ hbf (by omega)) ci_X4_readNumber qm_X4_74 ⟨Nat.le_of_ble_eq_true rfl, Nat.le_of_ble_eq_true rfl⟩ ⟨Nat.le_of_ble_eq_true rfl, Nat.le_of_ble_eq_true rfl⟩ [0, 1, 2] [] rfl rfl rfl rfl rfl (by decide) 0 rfl rfl rfl hl.1 rfl (Nat.le_of_ble_eq_true rfl) dX4_next_160 (fun u_79 H locs hφ hP hD hS => ?_)
                  obtain ⟨I_80, L_81, F_82, G_83⟩ := u_79
                  obtain ⟨p_85, p_86, p_87, p_88, p_89⟩ : (isRn dgB (tX bf ln) en3 (I_80 1)) ∧ ((((I_80 2) : Int) = 4 ∧ 4 < (I_80 1) - en3) ∨ (((I_80 2) : Int) = 2 ∧ (I_80 1) - en3 ≤ 4)) ∧ ((I_80 1) - en3 ≤ 4 → (I_80 3) = xDv (tX bf ln) en3 ((I_80 1) - en3).toNat) ∧ (en3 ≤ (I_80 1) ∧ (I_80 1) ≤ ln) ∧ (0 ≤ (I_80 3) ∧ (I_80 3) ≤ 9999) := hφ
                  refine W.eq (g2 := F0 m 163 ls []) rfl ?_
                  refine lv_goto (tgt := 170) hx hb dX4_next_163 (by decide) ?_
                  have hdg : dgB (tX bf ln en3) := (show 48 ≤ tX bf ln en3 ∧ tX bf ln en3 ≤ 57 from (by omega))
                  have tk := tk_num hpl hdg p_85
                  exact EWv hx hb hr hlocks hS (fun i => [0, en3, (I_80 1), (I_80 2), (I_80 3), (-1)].getD i 0, fun i => [0, (-1)].getD i 0, fun i => [].getD i (fun _ => 0), fun i => [].getD i (fun _ => 0)) rfl ⟨(show RDX (tX bf ln) en en3 (I_80 1) (I_80 2) (I_80 3) (-1) (-1) from ⟨⟨by omega, hpl⟩, tk.1.symm, (by rw [tk.2.1]; split <;> omega), (fun h => by rw [tk.2.2.2]; exact p_87 (by omega)), tk.2.2.1.symm, (fun h => absurd h (by omega)), Or.inr (rn_lt p_85 hdg)⟩), (show (0 ≤ tp ∧ tp ≤ 900) ∧ (0 ≤ ln ∧ ln ≤ 900) ∧ (0 ≤ en3 ∧ en3 ≤ (I_80 1)) ∧ ((I_80 1) ≤ ln) ∧ (0 ≤ (I_80 2) ∧ (I_80 2) ≤ 4) ∧ (-2147483648 ≤ (I_80 3) ∧ (I_80 3) < 2147483648) ∧ (-1 ≤ (-1) ∧ (-1) ≤ 24) from ⟨⟨by omega, by omega⟩, ⟨by omega, by omega⟩, ⟨by omega, by omega⟩, by omega, ⟨by omega, by omega⟩, ⟨by omega, by omega⟩, by omega, by omega⟩)⟩ (hP.sub [0, 1, 2] rfl) (hD.sub [0, 1, 2] rfl rfl) dX4_next_170
            ·
              have c_50 := mt (zlt (x := iZ 122) (y := iZ (gz bf en3)) rfl rfl ⟨by omega, by omega⟩ ⟨by omega, by omega⟩).mpr c_50
              refine lv_aload_n hx hb dX4_next_124 rfl (lv_at hl 0 rfl) ?_
              refine CWV (As := []) (rest := []) (wc := [(hr1, .inr (4, [.ref tx, .ref kw, .int (iZ tp), .int (iZ ln), .int (iZ en3), .int (iZ en3), .int (iZ ki), .int (iZ (-1)), .int (iZ (-1)), .long (-1), .int (iZ fk), .int (iZ fp)])), (tx, .inl (k 0, 900, .inl bf)), (kw, .inl (k 2, 25, .inr (.inl kwf)))]) (wr := []) hx hb hml hown hts hKK hP hD hS hA (x_readWord l D k hr1 tx kw tp ln en3 en3 ki (-1) (-1) fk fp (-1) bf kwf ⟨⟨by omega, by omega⟩, ⟨by omega, by omega⟩, by omega, by omega⟩ hbf hkw (by omega) (by omega)) ci_X4_readWord qm_X4_71 ⟨Nat.le_of_ble_eq_true rfl, Nat.le_of_ble_eq_true rfl⟩ ⟨Nat.le_of_ble_eq_true rfl, Nat.le_of_ble_eq_true rfl⟩ [0, 1, 2] [] rfl rfl rfl rfl rfl (by decide) 0 rfl rfl rfl hl.1 rfl (Nat.le_of_ble_eq_true rfl) dX4_next_125 (fun u_90 H locs hφ hP hD hS => ?_)
              obtain ⟨I_91, L_92, F_93, G_94⟩ := u_90
              obtain ⟨p_96, p_97, p_98, p_99, p_100, p_101⟩ : (isRn smB (tX bf ln) en3 (I_91 1)) ∧ ((L_92 1) = lZ (xCw (tX bf ln) en3 (I_91 1))) ∧ ((I_91 3) = kwu (xCw (tX bf ln) en3 (I_91 1)) 25) ∧ (((I_91 2) : Int) = 1) ∧ (en3 ≤ (I_91 1) ∧ (I_91 1) ≤ ln) ∧ (-1 ≤ (I_91 3) ∧ (I_91 3) ≤ 24) := hφ
              refine W.eq (g2 := F0 m 128 ls []) rfl ?_
              refine lv_goto (tgt := 170) hx hb dX4_next_128 (by decide) ?_
              have hsm : smB (tX bf ln en3) := (show 97 ≤ tX bf ln en3 ∧ tX bf ln en3 ≤ 122 from (by omega))
              have tk := tk_word hpl hsm p_96
              exact EWv hx hb hr hlocks hS (fun i => [0, en3, (I_91 1), (I_91 2), (-1), (I_91 3)].getD i 0, fun i => [0, (L_92 1)].getD i 0, fun i => [].getD i (fun _ => 0), fun i => [].getD i (fun _ => 0)) rfl ⟨(show RDX (tX bf ln) en en3 (I_91 1) (I_91 2) (-1) (I_91 3) (L_92 1) from ⟨⟨by omega, hpl⟩, tk.1.symm, p_99.trans tk.2.1.symm, (fun h => absurd h (by omega)), p_98.trans tk.2.2.2.symm, (fun _ => ⟨p_97.trans (congrArg lZ tk.2.2.1.symm), by unfold xLn; rw [tk.1, ← hpl]; exact xLet_rn p_96⟩), Or.inr (rn_lt p_96 hsm)⟩), (show (0 ≤ tp ∧ tp ≤ 900) ∧ (0 ≤ ln ∧ ln ≤ 900) ∧ (0 ≤ en3 ∧ en3 ≤ (I_91 1)) ∧ ((I_91 1) ≤ ln) ∧ (0 ≤ (I_91 2) ∧ (I_91 2) ≤ 4) ∧ (-2147483648 ≤ (-1) ∧ (-1) < 2147483648) ∧ (-1 ≤ (I_91 3) ∧ (I_91 3) ≤ 24) from ⟨⟨by omega, by omega⟩, ⟨by omega, by omega⟩, ⟨by omega, by omega⟩, by omega, ⟨by omega, by omega⟩, ⟨by omega, by omega⟩, by omega, by omega⟩)⟩ (hP.sub [0, 1, 2] rfl) (hD.sub [0, 1, 2] rfl rfl) dX4_next_170
        ·
          have c_3 := mt (zlt (x := iZ en3) (y := iZ ln) rfl rfl ⟨by omega, by omega⟩ ⟨by omega, by omega⟩).mpr c_3
          refine lv_aload_n hx hb dX4_next_88 rfl (lv_at hl 0 rfl) ?_
          refine lv_iconst (v := iZ 0) hx hb dX4_next_89 (by decide) ?_
          refine va_put (D := D) (ci := 4) (v := .int (iZ 0)) (ty := .int) (C := RX4) (T := TX4) (N := 12) hx hb hts iX4 tyX4 tyX4_ok nmX4 hown hK hP hD hS 0 rfl rfl 6 (by decide) (hts _ qf_X4_68) (fun _ h => h) rfl (by decide +kernel) rfl rfl (Nat.le_of_ble_eq_true rfl) dX4_next_90 (fun H locs hP hD hS => ?_)
          refine lv_goto (tgt := 170) hx hb dX4_next_93 (by decide) ?_
          have tk := tk_end hpl (show tX bf ln en3 = -1 from (by omega))
          exact EWv hx hb hr hlocks hS (fun i => [0, en3, en3, 0, (-1), (-1)].getD i 0, fun i => [0, (-1)].getD i 0, fun i => [].getD i (fun _ => 0), fun i => [].getD i (fun _ => 0)) rfl ⟨(show RDX (tX bf ln) en en3 en3 0 (-1) (-1) (-1) from ⟨⟨by omega, hpl⟩, tk.1.symm, tk.2.1.symm, (fun h => absurd h (by omega)), tk.2.2.symm, (fun h => absurd h (by omega)), Or.inl rfl⟩), (show (0 ≤ tp ∧ tp ≤ 900) ∧ (0 ≤ ln ∧ ln ≤ 900) ∧ (0 ≤ en3 ∧ en3 ≤ en3) ∧ (en3 ≤ ln) ∧ (0 ≤ 0 ∧ 0 ≤ 4) ∧ (-2147483648 ≤ (-1) ∧ (-1) < 2147483648) ∧ (-1 ≤ (-1) ∧ (-1) ≤ 24) from ⟨⟨by omega, by omega⟩, ⟨by omega, by omega⟩, ⟨by omega, by omega⟩, by omega, ⟨by omega, by omega⟩, ⟨by omega, by omega⟩, by omega, by omega⟩)⟩ (hP.sub [0, 1, 2] rfl) (hD.sub [0, 1, 2] rfl rfl) dX4_next_170
      ·
        have c_1 := mt (zle (x := iZ ln) (y := iZ en3) rfl rfl ⟨by omega, by omega⟩ ⟨by omega, by omega⟩).mpr c_1
        refine lv_aload_n hx hb dX4_next_11 rfl (lv_at hl 0 rfl) ?_
        refine va_get (D := D) (ci := 4) (v := .ref tx) (C := RX4) (T := TX4) (N := 12) hx hb hts iX4 hown hK hP 0 rfl rfl 0 (by decide) (hts _ qf_X4_9) (fun _ h => h) rfl dX4_next_12 ?_
        refine lv_aload_n hx hb dX4_next_15 rfl (lv_at hl 0 rfl) ?_
        refine va_get (D := D) (ci := 4) (v := .int (iZ en3)) (C := RX4) (T := TX4) (N := 12) hx hb hts iX4 hown hK hP 0 rfl rfl 5 (by decide) (hts _ qf_X4_47) (fun _ h => h) rfl dX4_next_16 ?_
        refine va_bald hx hb hK hP 1 0 rfl rfl (zin (e := en3) (n := 900) ⟨by omega, by omega⟩ (by decide)) dX4_next_19 ?_
        refine lv_topi (fun x_102 ex_102 => ?_)
        obtain rfl : x_102 = iZ (gz bf en3) := ex_102.trans (gz_eq ⟨by omega, by omega⟩)
        have h_103 := hbf en3 (by omega) (by omega)
        have ht_104 := tX_c (f := bf) (sz := ln) (x := en3) (by omega) (fun _ => h_103)
        refine lv_bipush (v := iZ 10) hx hb dX4_next_20 (by decide) ?_
        refine lv_icmp_eq (tgt := 39) hx hb dX4_next_22 (by decide) (fun c_105 => ?_) (fun c_105 => ?_)
        ·
          have c_105 := (zeq (x := iZ (gz bf en3)) (y := iZ 10) rfl rfl ⟨by omega, by omega⟩ ⟨by omega, by omega⟩).mp c_105
          refine lv_aload_n hx hb dX4_next_39 rfl (lv_at hl 0 rfl) ?_
          refine lv_dup hx hb dX4_next_40 rfl ?_
          refine va_get (D := D) (ci := 4) (v := .int (iZ en3)) (C := RX4) (T := TX4) (N := 12) hx hb hts iX4 hown hK hP 0 rfl rfl 5 (by decide) (hts _ qf_X4_47) (fun _ h => h) rfl dX4_next_41 ?_
          refine lv_iconst (v := iZ 1) hx hb dX4_next_44 (by decide) ?_
          refine lv_iadd hx hb dX4_next_45 ?_
          refine lv_topi (fun x_106 ex_106 => ?_)
          obtain rfl : x_106 = iZ (en3 + 1) := ex_106.trans (iZ_add en3 1)
          refine va_put (D := D) (ci := 4) (v := .int (iZ (en3 + 1))) (ty := .int) (C := RX4) (T := TX4) (N := 12) hx hb hts iX4 tyX4 tyX4_ok nmX4 hown hK hP hD hS 0 rfl rfl 5 (by decide) (hts _ qf_X4_47) (fun _ h => h) rfl (by decide +kernel) rfl rfl (Nat.le_of_ble_eq_true rfl) dX4_next_46 (fun H locs hP hD hS => ?_)
          refine lv_goto (tgt := 0) hx hb dX4_next_49 (by decide) ?_
          exact ih1  (en3 + 1) _ _ _ (by omega) (show en ≤ (en3 + 1) ∧ (en3 + 1) ≤ ln from ⟨by omega, by omega⟩) (show ∀ j : Int, en ≤ j → j < (en3 + 1) → wsB (tX bf ln j) from (rn_step hrun (show tX bf ln en3 = 32 ∨ tX bf ln en3 = 10 from (by omega)))) (hP.sub [0, 1, 2] rfl) (hD.sub [0, 1, 2] rfl rfl) hS (lv_sub hl [0] rfl)
        ·
          have c_105 := mt (zeq (x := iZ (gz bf en3)) (y := iZ 10) rfl rfl ⟨by omega, by omega⟩ ⟨by omega, by omega⟩).mpr c_105
          refine lv_aload_n hx hb dX4_next_25 rfl (lv_at hl 0 rfl) ?_
          refine va_get (D := D) (ci := 4) (v := .ref tx) (C := RX4) (T := TX4) (N := 12) hx hb hts iX4 hown hK hP 0 rfl rfl 0 (by decide) (hts _ qf_X4_9) (fun _ h => h) rfl dX4_next_26 ?_
          refine lv_aload_n hx hb dX4_next_29 rfl (lv_at hl 0 rfl) ?_
          refine va_get (D := D) (ci := 4) (v := .int (iZ en3)) (C := RX4) (T := TX4) (N := 12) hx hb hts iX4 hown hK hP 0 rfl rfl 5 (by decide) (hts _ qf_X4_47) (fun _ h => h) rfl dX4_next_30 ?_
          refine va_bald hx hb hK hP 1 0 rfl rfl (zin (e := en3) (n := 900) ⟨by omega, by omega⟩ (by decide)) dX4_next_33 ?_
          refine lv_topi (fun x_107 ex_107 => ?_)
          obtain rfl : x_107 = iZ (gz bf en3) := ex_107.trans (gz_eq ⟨by omega, by omega⟩)
          have h_108 := hbf en3 (by omega) (by omega)
          have ht_109 := tX_c (f := bf) (sz := ln) (x := en3) (by omega) (fun _ => h_108)
          refine lv_bipush (v := iZ 32) hx hb dX4_next_34 (by decide) ?_
          refine lv_icmp_ne (tgt := 52) hx hb dX4_next_36 (by decide) (fun c_110 => ?_) (fun c_110 => ?_)
          ·
            have c_110 := mt (zeq (x := iZ (gz bf en3)) (y := iZ 32) rfl rfl ⟨by omega, by omega⟩ ⟨by omega, by omega⟩).mpr c_110
            have hte_111 := tX_c (f := bf) (sz := ln) (x := en3) (by omega) (fun h9 => hbf _ (by omega) (by omega))
            have hpl : en3 = xPl (tX bf ln) en := rnF_eq ⟨by omega, hrun, (show ¬ (tX bf ln en3 = 32 ∨ tX bf ln en3 = 10) from (by omega))⟩
            refine lv_aload_n hx hb dX4_next_52 rfl (lv_at hl 0 rfl) ?_
            refine lv_aload_n hx hb dX4_next_53 rfl (lv_at hl 0 rfl) ?_
            refine va_get (D := D) (ci := 4) (v := .int (iZ en3)) (C := RX4) (T := TX4) (N := 12) hx hb hts iX4 hown hK hP 0 rfl rfl 5 (by decide) (hts _ qf_X4_47) (fun _ h => h) rfl dX4_next_54 ?_
            refine va_put (D := D) (ci := 4) (v := .int (iZ en3)) (ty := .int) (C := RX4) (T := TX4) (N := 12) hx hb hts iX4 tyX4 tyX4_ok nmX4 hown hK hP hD hS 0 rfl rfl 4 (by decide) (hts _ qf_X4_53) (fun _ h => h) rfl (by decide +kernel) rfl rfl (Nat.le_of_ble_eq_true rfl) dX4_next_57 (fun H locs hP hD hS => ?_)
            refine lv_aload_n hx hb dX4_next_60 rfl (lv_at hl 0 rfl) ?_
            refine lv_iconst (v := iZ (-1)) hx hb dX4_next_61 (by decide) ?_
            refine va_put (D := D) (ci := 4) (v := .int (iZ (-1))) (ty := .int) (C := RX4) (T := TX4) (N := 12) hx hb hts iX4 tyX4 tyX4_ok nmX4 hown hK hP hD hS 0 rfl rfl 8 (by decide) (hts _ qf_X4_56) (fun _ h => h) rfl (by decide +kernel) rfl rfl (Nat.le_of_ble_eq_true rfl) dX4_next_62 (fun H locs hP hD hS => ?_)
            refine lv_aload_n hx hb dX4_next_65 rfl (lv_at hl 0 rfl) ?_
            refine lv_ldc2 (own := RX4) (v := (-1)) hx hb hown (hts _ qk_X4_59) dX4_next_66 ?_
            refine va_put (D := D) (ci := 4) (v := .long (-1)) (ty := .long) (C := RX4) (T := TX4) (N := 12) hx hb hts iX4 tyX4 tyX4_ok nmX4 hown hK hP hD hS 0 rfl rfl 9 (by decide) (hts _ qf_X4_61) (fun _ h => h) rfl (by decide +kernel) rfl rfl (Nat.le_of_ble_eq_true rfl) dX4_next_69 (fun H locs hP hD hS => ?_)
            refine lv_aload_n hx hb dX4_next_72 rfl (lv_at hl 0 rfl) ?_
            refine lv_iconst (v := iZ (-1)) hx hb dX4_next_73 (by decide) ?_
            refine va_put (D := D) (ci := 4) (v := .int (iZ (-1))) (ty := .int) (C := RX4) (T := TX4) (N := 12) hx hb hts iX4 tyX4 tyX4_ok nmX4 hown hK hP hD hS 0 rfl rfl 7 (by decide) (hts _ qf_X4_65) (fun _ h => h) rfl (by decide +kernel) rfl rfl (Nat.le_of_ble_eq_true rfl) dX4_next_74 (fun H locs hP hD hS => ?_)
            refine lv_aload_n hx hb dX4_next_77 rfl (lv_at hl 0 rfl) ?_
            refine va_get (D := D) (ci := 4) (v := .int (iZ en3)) (C := RX4) (T := TX4) (N := 12) hx hb hts iX4 hown hK hP 0 rfl rfl 5 (by decide) (hts _ qf_X4_47) (fun _ h => h) rfl dX4_next_78 ?_
            refine lv_aload_n hx hb dX4_next_81 rfl (lv_at hl 0 rfl) ?_
            refine va_get (D := D) (ci := 4) (v := .int (iZ ln)) (C := RX4) (T := TX4) (N := 12) hx hb hts iX4 hown hK hP 0 rfl rfl 3 (by decide) (hts _ qf_X4_45) (fun _ h => h) rfl dX4_next_82 ?_
            refine lv_icmp_lt (tgt := 96) hx hb dX4_next_85 (by decide) (fun c_112 => ?_) (fun c_112 => ?_)
            ·
              have c_112 := (zlt (x := iZ en3) (y := iZ ln) rfl rfl ⟨by omega, by omega⟩ ⟨by omega, by omega⟩).mp c_112
              refine lv_aload_n hx hb dX4_next_96 rfl (lv_at hl 0 rfl) ?_
              refine va_get (D := D) (ci := 4) (v := .ref tx) (C := RX4) (T := TX4) (N := 12) hx hb hts iX4 hown hK hP 0 rfl rfl 0 (by decide) (hts _ qf_X4_9) (fun _ h => h) rfl dX4_next_97 ?_
              refine lv_aload_n hx hb dX4_next_100 rfl (lv_at hl 0 rfl) ?_
              refine va_get (D := D) (ci := 4) (v := .int (iZ en3)) (C := RX4) (T := TX4) (N := 12) hx hb hts iX4 hown hK hP 0 rfl rfl 5 (by decide) (hts _ qf_X4_47) (fun _ h => h) rfl dX4_next_101 ?_
              refine va_bald hx hb hK hP 1 0 rfl rfl (zin (e := en3) (n := 900) ⟨by omega, by omega⟩ (by decide)) dX4_next_104 ?_
              refine lv_topi (fun x_113 ex_113 => ?_)
              obtain rfl : x_113 = iZ (gz bf en3) := ex_113.trans (gz_eq ⟨by omega, by omega⟩)
              have h_114 := hbf en3 (by omega) (by omega)
              have ht_115 := tX_c (f := bf) (sz := ln) (x := en3) (by omega) (fun _ => h_114)
              refine lv_bipush (v := iZ 97) hx hb dX4_next_105 (by decide) ?_
              refine lv_icmp_lt (tgt := 131) hx hb dX4_next_107 (by decide) (fun c_116 => ?_) (fun c_116 => ?_)
              ·
                have c_116 := (zlt (x := iZ (gz bf en3)) (y := iZ 97) rfl rfl ⟨by omega, by omega⟩ ⟨by omega, by omega⟩).mp c_116
                refine lv_aload_n hx hb dX4_next_131 rfl (lv_at hl 0 rfl) ?_
                refine va_get (D := D) (ci := 4) (v := .ref tx) (C := RX4) (T := TX4) (N := 12) hx hb hts iX4 hown hK hP 0 rfl rfl 0 (by decide) (hts _ qf_X4_9) (fun _ h => h) rfl dX4_next_132 ?_
                refine lv_aload_n hx hb dX4_next_135 rfl (lv_at hl 0 rfl) ?_
                refine va_get (D := D) (ci := 4) (v := .int (iZ en3)) (C := RX4) (T := TX4) (N := 12) hx hb hts iX4 hown hK hP 0 rfl rfl 5 (by decide) (hts _ qf_X4_47) (fun _ h => h) rfl dX4_next_136 ?_
                refine va_bald hx hb hK hP 1 0 rfl rfl (zin (e := en3) (n := 900) ⟨by omega, by omega⟩ (by decide)) dX4_next_139 ?_
                refine lv_topi (fun x_117 ex_117 => ?_)
                obtain rfl : x_117 = iZ (gz bf en3) := ex_117.trans (gz_eq ⟨by omega, by omega⟩)
                have h_118 := hbf en3 (by omega) (by omega)
                have ht_119 := tX_c (f := bf) (sz := ln) (x := en3) (by omega) (fun _ => h_118)
                refine lv_bipush (v := iZ 48) hx hb dX4_next_140 (by decide) ?_
                refine lv_icmp_lt (tgt := 166) hx hb dX4_next_142 (by decide) (fun c_120 => ?_) (fun c_120 => ?_)
                ·
                  have c_120 := (zlt (x := iZ (gz bf en3)) (y := iZ 48) rfl rfl ⟨by omega, by omega⟩ ⟨by omega, by omega⟩).mp c_120
                  refine lv_aload_n hx hb dX4_next_166 rfl (lv_at hl 0 rfl) ?_
                  refine CWV (As := []) (rest := []) (wc := [(hr1, .inr (4, [.ref tx, .ref kw, .int (iZ tp), .int (iZ ln), .int (iZ en3), .int (iZ en3), .int (iZ ki), .int (iZ (-1)), .int (iZ (-1)), .long (-1), .int (iZ fk), .int (iZ fp)])), (tx, .inl (k 0, 900, .inl bf)), (kw, .inl (k 2, 25, .inr (.inl kwf)))]) (wr := []) hx hb hml hown hts hKK hP hD hS hA (x_readSign l D k hr1 tx kw tp ln en3 en3 ki (-1) (-1) fk fp (-1) bf kwf ⟨⟨by omega, by omega⟩, ⟨by omega, by omega⟩, by omega, by omega⟩ hbf (by omega)) ci_X4_readSign qm_X4_77 ⟨Nat.le_of_ble_eq_true rfl, Nat.le_of_ble_eq_true rfl⟩ ⟨Nat.le_of_ble_eq_true rfl, Nat.le_of_ble_eq_true rfl⟩ [0, 1, 2] [] rfl rfl rfl rfl rfl (by decide) 0 rfl rfl rfl hl.1 rfl (Nat.le_of_ble_eq_true rfl) dX4_next_167 (fun u_121 H locs hφ hP hD hS => ?_)
                  obtain ⟨I_122, L_123, F_124, G_125⟩ := u_121
                  obtain ⟨p_127, p_128, p_129, p_130⟩ : ((I_122 1) = en3 + 1) ∧ ((I_122 3) = gz bf en3) ∧ ((((I_122 2) : Int) = 3 ∧ (gz bf en3 = 59 ∨ gz bf en3 = 60 ∨ gz bf en3 = 62 ∨ gz bf en3 = 61)) ∨ (((I_122 2) : Int) = 4 ∧ ¬ (gz bf en3 = 59 ∨ gz bf en3 = 60 ∨ gz bf en3 = 62 ∨ gz bf en3 = 61))) ∧ (-128 ≤ (I_122 3) ∧ (I_122 3) ≤ 127) := hφ
                  refine W.eq (g2 := F0 m 170 ls []) rfl ?_
                  have tk := tk_sign hpl (show ¬ tX bf ln en3 = -1 from (by omega)) (show ¬ (97 ≤ tX bf ln en3 ∧ tX bf ln en3 ≤ 122) from (by omega)) (show ¬ (48 ≤ tX bf ln en3 ∧ tX bf ln en3 ≤ 57) from (by omega))
                  exact EWv hx hb hr hlocks hS (fun i => [0, en3, (I_122 1), (I_122 2), (I_122 3), (-1)].getD i 0, fun i => [0, (-1)].getD i 0, fun i => [].getD i (fun _ => 0), fun i => [].getD i (fun _ => 0)) rfl ⟨(show RDX (tX bf ln) en en3 (I_122 1) (I_122 2) (I_122 3) (-1) (-1) from ⟨⟨by omega, hpl⟩, p_127.trans tk.1.symm, (by rw [tk.2.1]; split <;> omega), (fun h => by rw [tk.2.2.2]; omega), tk.2.2.1.symm, (fun h => absurd h (by omega)), Or.inr (by omega)⟩), (show (0 ≤ tp ∧ tp ≤ 900) ∧ (0 ≤ ln ∧ ln ≤ 900) ∧ (0 ≤ en3 ∧ en3 ≤ (I_122 1)) ∧ ((I_122 1) ≤ ln) ∧ (0 ≤ (I_122 2) ∧ (I_122 2) ≤ 4) ∧ (-2147483648 ≤ (I_122 3) ∧ (I_122 3) < 2147483648) ∧ (-1 ≤ (-1) ∧ (-1) ≤ 24) from ⟨⟨by omega, by omega⟩, ⟨by omega, by omega⟩, ⟨by omega, by omega⟩, by omega, ⟨by omega, by omega⟩, ⟨by omega, by omega⟩, by omega, by omega⟩)⟩ (hP.sub [0, 1, 2] rfl) (hD.sub [0, 1, 2] rfl rfl) dX4_next_170
                ·
                  have c_120 := mt (zlt (x := iZ (gz bf en3)) (y := iZ 48) rfl rfl ⟨by omega, by omega⟩ ⟨by omega, by omega⟩).mpr c_120
                  refine lv_aload_n hx hb dX4_next_145 rfl (lv_at hl 0 rfl) ?_
                  refine va_get (D := D) (ci := 4) (v := .ref tx) (C := RX4) (T := TX4) (N := 12) hx hb hts iX4 hown hK hP 0 rfl rfl 0 (by decide) (hts _ qf_X4_9) (fun _ h => h) rfl dX4_next_146 ?_
                  refine lv_aload_n hx hb dX4_next_149 rfl (lv_at hl 0 rfl) ?_
                  refine va_get (D := D) (ci := 4) (v := .int (iZ en3)) (C := RX4) (T := TX4) (N := 12) hx hb hts iX4 hown hK hP 0 rfl rfl 5 (by decide) (hts _ qf_X4_47) (fun _ h => h) rfl dX4_next_150 ?_
                  refine va_bald hx hb hK hP 1 0 rfl rfl (zin (e := en3) (n := 900) ⟨by omega, by omega⟩ (by decide)) dX4_next_153 ?_
                  refine lv_topi (fun x_131 ex_131 => ?_)
                  obtain rfl : x_131 = iZ (gz bf en3) := ex_131.trans (gz_eq ⟨by omega, by omega⟩)
                  have h_132 := hbf en3 (by omega) (by omega)
                  have ht_133 := tX_c (f := bf) (sz := ln) (x := en3) (by omega) (fun _ => h_132)
                  refine lv_bipush (v := iZ 57) hx hb dX4_next_154 (by decide) ?_
                  refine lv_icmp_gt (tgt := 166) hx hb dX4_next_156 (by decide) (fun c_134 => ?_) (fun c_134 => ?_)
                  ·
                    have c_134 := (zlt (x := iZ 57) (y := iZ (gz bf en3)) rfl rfl ⟨by omega, by omega⟩ ⟨by omega, by omega⟩).mp c_134
                    refine lv_aload_n hx hb dX4_next_166 rfl (lv_at hl 0 rfl) ?_
                    refine CWV (As := []) (rest := []) (wc := [(hr1, .inr (4, [.ref tx, .ref kw, .int (iZ tp), .int (iZ ln), .int (iZ en3), .int (iZ en3), .int (iZ ki), .int (iZ (-1)), .int (iZ (-1)), .long (-1), .int (iZ fk), .int (iZ fp)])), (tx, .inl (k 0, 900, .inl bf)), (kw, .inl (k 2, 25, .inr (.inl kwf)))]) (wr := []) hx hb hml hown hts hKK hP hD hS hA (x_readSign l D k hr1 tx kw tp ln en3 en3 ki (-1) (-1) fk fp (-1) bf kwf ⟨⟨by omega, by omega⟩, ⟨by omega, by omega⟩, by omega, by omega⟩ hbf (by omega)) ci_X4_readSign qm_X4_77 ⟨Nat.le_of_ble_eq_true rfl, Nat.le_of_ble_eq_true rfl⟩ ⟨Nat.le_of_ble_eq_true rfl, Nat.le_of_ble_eq_true rfl⟩ [0, 1, 2] [] rfl rfl rfl rfl rfl (by decide) 0 rfl rfl rfl hl.1 rfl (Nat.le_of_ble_eq_true rfl) dX4_next_167 (fun u_135 H locs hφ hP hD hS => ?_)
                    obtain ⟨I_136, L_137, F_138, G_139⟩ := u_135
                    obtain ⟨p_141, p_142, p_143, p_144⟩ : ((I_136 1) = en3 + 1) ∧ ((I_136 3) = gz bf en3) ∧ ((((I_136 2) : Int) = 3 ∧ (gz bf en3 = 59 ∨ gz bf en3 = 60 ∨ gz bf en3 = 62 ∨ gz bf en3 = 61)) ∨ (((I_136 2) : Int) = 4 ∧ ¬ (gz bf en3 = 59 ∨ gz bf en3 = 60 ∨ gz bf en3 = 62 ∨ gz bf en3 = 61))) ∧ (-128 ≤ (I_136 3) ∧ (I_136 3) ≤ 127) := hφ
                    refine W.eq (g2 := F0 m 170 ls []) rfl ?_
                    have tk := tk_sign hpl (show ¬ tX bf ln en3 = -1 from (by omega)) (show ¬ (97 ≤ tX bf ln en3 ∧ tX bf ln en3 ≤ 122) from (by omega)) (show ¬ (48 ≤ tX bf ln en3 ∧ tX bf ln en3 ≤ 57) from (by omega))
                    exact EWv hx hb hr hlocks hS (fun i => [0, en3, (I_136 1), (I_136 2), (I_136 3), (-1)].getD i 0, fun i => [0, (-1)].getD i 0, fun i => [].getD i (fun _ => 0), fun i => [].getD i (fun _ => 0)) rfl ⟨(show RDX (tX bf ln) en en3 (I_136 1) (I_136 2) (I_136 3) (-1) (-1) from ⟨⟨by omega, hpl⟩, p_141.trans tk.1.symm, (by rw [tk.2.1]; split <;> omega), (fun h => by rw [tk.2.2.2]; omega), tk.2.2.1.symm, (fun h => absurd h (by omega)), Or.inr (by omega)⟩), (show (0 ≤ tp ∧ tp ≤ 900) ∧ (0 ≤ ln ∧ ln ≤ 900) ∧ (0 ≤ en3 ∧ en3 ≤ (I_136 1)) ∧ ((I_136 1) ≤ ln) ∧ (0 ≤ (I_136 2) ∧ (I_136 2) ≤ 4) ∧ (-2147483648 ≤ (I_136 3) ∧ (I_136 3) < 2147483648) ∧ (-1 ≤ (-1) ∧ (-1) ≤ 24) from ⟨⟨by omega, by omega⟩, ⟨by omega, by omega⟩, ⟨by omega, by omega⟩, by omega, ⟨by omega, by omega⟩, ⟨by omega, by omega⟩, by omega, by omega⟩)⟩ (hP.sub [0, 1, 2] rfl) (hD.sub [0, 1, 2] rfl rfl) dX4_next_170
                  ·
                    have c_134 := mt (zlt (x := iZ 57) (y := iZ (gz bf en3)) rfl rfl ⟨by omega, by omega⟩ ⟨by omega, by omega⟩).mpr c_134
                    refine lv_aload_n hx hb dX4_next_159 rfl (lv_at hl 0 rfl) ?_
                    refine CWV (As := []) (rest := []) (wc := [(hr1, .inr (4, [.ref tx, .ref kw, .int (iZ tp), .int (iZ ln), .int (iZ en3), .int (iZ en3), .int (iZ ki), .int (iZ (-1)), .int (iZ (-1)), .long (-1), .int (iZ fk), .int (iZ fp)])), (tx, .inl (k 0, 900, .inl bf)), (kw, .inl (k 2, 25, .inr (.inl kwf)))]) (wr := []) hx hb hml hown hts hKK hP hD hS hA (x_readNumber l D k hr1 tx kw tp ln en3 en3 ki (-1) (-1) fk fp (-1) bf kwf ⟨⟨by omega, by omega⟩, ⟨by omega, by omega⟩, by omega, by omega⟩ hbf (by omega)) ci_X4_readNumber qm_X4_74 ⟨Nat.le_of_ble_eq_true rfl, Nat.le_of_ble_eq_true rfl⟩ ⟨Nat.le_of_ble_eq_true rfl, Nat.le_of_ble_eq_true rfl⟩ [0, 1, 2] [] rfl rfl rfl rfl rfl (by decide) 0 rfl rfl rfl hl.1 rfl (Nat.le_of_ble_eq_true rfl) dX4_next_160 (fun u_145 H locs hφ hP hD hS => ?_)
                    obtain ⟨I_146, L_147, F_148, G_149⟩ := u_145
                    obtain ⟨p_151, p_152, p_153, p_154, p_155⟩ : (isRn dgB (tX bf ln) en3 (I_146 1)) ∧ ((((I_146 2) : Int) = 4 ∧ 4 < (I_146 1) - en3) ∨ (((I_146 2) : Int) = 2 ∧ (I_146 1) - en3 ≤ 4)) ∧ ((I_146 1) - en3 ≤ 4 → (I_146 3) = xDv (tX bf ln) en3 ((I_146 1) - en3).toNat) ∧ (en3 ≤ (I_146 1) ∧ (I_146 1) ≤ ln) ∧ (0 ≤ (I_146 3) ∧ (I_146 3) ≤ 9999) := hφ
                    refine W.eq (g2 := F0 m 163 ls []) rfl ?_
                    refine lv_goto (tgt := 170) hx hb dX4_next_163 (by decide) ?_
                    have hdg : dgB (tX bf ln en3) := (show 48 ≤ tX bf ln en3 ∧ tX bf ln en3 ≤ 57 from (by omega))
                    have tk := tk_num hpl hdg p_151
                    exact EWv hx hb hr hlocks hS (fun i => [0, en3, (I_146 1), (I_146 2), (I_146 3), (-1)].getD i 0, fun i => [0, (-1)].getD i 0, fun i => [].getD i (fun _ => 0), fun i => [].getD i (fun _ => 0)) rfl ⟨(show RDX (tX bf ln) en en3 (I_146 1) (I_146 2) (I_146 3) (-1) (-1) from ⟨⟨by omega, hpl⟩, tk.1.symm, (by rw [tk.2.1]; split <;> omega), (fun h => by rw [tk.2.2.2]; exact p_153 (by omega)), tk.2.2.1.symm, (fun h => absurd h (by omega)), Or.inr (rn_lt p_151 hdg)⟩), (show (0 ≤ tp ∧ tp ≤ 900) ∧ (0 ≤ ln ∧ ln ≤ 900) ∧ (0 ≤ en3 ∧ en3 ≤ (I_146 1)) ∧ ((I_146 1) ≤ ln) ∧ (0 ≤ (I_146 2) ∧ (I_146 2) ≤ 4) ∧ (-2147483648 ≤ (I_146 3) ∧ (I_146 3) < 2147483648) ∧ (-1 ≤ (-1) ∧ (-1) ≤ 24) from ⟨⟨by omega, by omega⟩, ⟨by omega, by omega⟩, ⟨by omega, by omega⟩, by omega, ⟨by omega, by omega⟩, ⟨by omega, by omega⟩, by omega, by omega⟩)⟩ (hP.sub [0, 1, 2] rfl) (hD.sub [0, 1, 2] rfl rfl) dX4_next_170
              ·
                have c_116 := mt (zlt (x := iZ (gz bf en3)) (y := iZ 97) rfl rfl ⟨by omega, by omega⟩ ⟨by omega, by omega⟩).mpr c_116
                refine lv_aload_n hx hb dX4_next_110 rfl (lv_at hl 0 rfl) ?_
                refine va_get (D := D) (ci := 4) (v := .ref tx) (C := RX4) (T := TX4) (N := 12) hx hb hts iX4 hown hK hP 0 rfl rfl 0 (by decide) (hts _ qf_X4_9) (fun _ h => h) rfl dX4_next_111 ?_
                refine lv_aload_n hx hb dX4_next_114 rfl (lv_at hl 0 rfl) ?_
                refine va_get (D := D) (ci := 4) (v := .int (iZ en3)) (C := RX4) (T := TX4) (N := 12) hx hb hts iX4 hown hK hP 0 rfl rfl 5 (by decide) (hts _ qf_X4_47) (fun _ h => h) rfl dX4_next_115 ?_
                refine va_bald hx hb hK hP 1 0 rfl rfl (zin (e := en3) (n := 900) ⟨by omega, by omega⟩ (by decide)) dX4_next_118 ?_
                refine lv_topi (fun x_156 ex_156 => ?_)
                obtain rfl : x_156 = iZ (gz bf en3) := ex_156.trans (gz_eq ⟨by omega, by omega⟩)
                have h_157 := hbf en3 (by omega) (by omega)
                have ht_158 := tX_c (f := bf) (sz := ln) (x := en3) (by omega) (fun _ => h_157)
                refine lv_bipush (v := iZ 122) hx hb dX4_next_119 (by decide) ?_
                refine lv_icmp_gt (tgt := 131) hx hb dX4_next_121 (by decide) (fun c_159 => ?_) (fun c_159 => ?_)
                ·
                  have c_159 := (zlt (x := iZ 122) (y := iZ (gz bf en3)) rfl rfl ⟨by omega, by omega⟩ ⟨by omega, by omega⟩).mp c_159
                  refine lv_aload_n hx hb dX4_next_131 rfl (lv_at hl 0 rfl) ?_
                  refine va_get (D := D) (ci := 4) (v := .ref tx) (C := RX4) (T := TX4) (N := 12) hx hb hts iX4 hown hK hP 0 rfl rfl 0 (by decide) (hts _ qf_X4_9) (fun _ h => h) rfl dX4_next_132 ?_
                  refine lv_aload_n hx hb dX4_next_135 rfl (lv_at hl 0 rfl) ?_
                  refine va_get (D := D) (ci := 4) (v := .int (iZ en3)) (C := RX4) (T := TX4) (N := 12) hx hb hts iX4 hown hK hP 0 rfl rfl 5 (by decide) (hts _ qf_X4_47) (fun _ h => h) rfl dX4_next_136 ?_
                  refine va_bald hx hb hK hP 1 0 rfl rfl (zin (e := en3) (n := 900) ⟨by omega, by omega⟩ (by decide)) dX4_next_139 ?_
                  refine lv_topi (fun x_160 ex_160 => ?_)
                  obtain rfl : x_160 = iZ (gz bf en3) := ex_160.trans (gz_eq ⟨by omega, by omega⟩)
                  have h_161 := hbf en3 (by omega) (by omega)
                  have ht_162 := tX_c (f := bf) (sz := ln) (x := en3) (by omega) (fun _ => h_161)
                  refine lv_bipush (v := iZ 48) hx hb dX4_next_140 (by decide) ?_
                  refine lv_icmp_lt (tgt := 166) hx hb dX4_next_142 (by decide) (fun c_163 => ?_) (fun c_163 => ?_)
                  ·
                    have c_163 := (zlt (x := iZ (gz bf en3)) (y := iZ 48) rfl rfl ⟨by omega, by omega⟩ ⟨by omega, by omega⟩).mp c_163
                    refine lv_aload_n hx hb dX4_next_166 rfl (lv_at hl 0 rfl) ?_
                    refine CWV (As := []) (rest := []) (wc := [(hr1, .inr (4, [.ref tx, .ref kw, .int (iZ tp), .int (iZ ln), .int (iZ en3), .int (iZ en3), .int (iZ ki), .int (iZ (-1)), .int (iZ (-1)), .long (-1), .int (iZ fk), .int (iZ fp)])), (tx, .inl (k 0, 900, .inl bf)), (kw, .inl (k 2, 25, .inr (.inl kwf)))]) (wr := []) hx hb hml hown hts hKK hP hD hS hA (x_readSign l D k hr1 tx kw tp ln en3 en3 ki (-1) (-1) fk fp (-1) bf kwf ⟨⟨by omega, by omega⟩, ⟨by omega, by omega⟩, by omega, by omega⟩ hbf (by omega)) ci_X4_readSign qm_X4_77 ⟨Nat.le_of_ble_eq_true rfl, Nat.le_of_ble_eq_true rfl⟩ ⟨Nat.le_of_ble_eq_true rfl, Nat.le_of_ble_eq_true rfl⟩ [0, 1, 2] [] rfl rfl rfl rfl rfl (by decide) 0 rfl rfl rfl hl.1 rfl (Nat.le_of_ble_eq_true rfl) dX4_next_167 (fun u_164 H locs hφ hP hD hS => ?_)
                    obtain ⟨I_165, L_166, F_167, G_168⟩ := u_164
                    obtain ⟨p_170, p_171, p_172, p_173⟩ : ((I_165 1) = en3 + 1) ∧ ((I_165 3) = gz bf en3) ∧ ((((I_165 2) : Int) = 3 ∧ (gz bf en3 = 59 ∨ gz bf en3 = 60 ∨ gz bf en3 = 62 ∨ gz bf en3 = 61)) ∨ (((I_165 2) : Int) = 4 ∧ ¬ (gz bf en3 = 59 ∨ gz bf en3 = 60 ∨ gz bf en3 = 62 ∨ gz bf en3 = 61))) ∧ (-128 ≤ (I_165 3) ∧ (I_165 3) ≤ 127) := hφ
                    refine W.eq (g2 := F0 m 170 ls []) rfl ?_
                    have tk := tk_sign hpl (show ¬ tX bf ln en3 = -1 from (by omega)) (show ¬ (97 ≤ tX bf ln en3 ∧ tX bf ln en3 ≤ 122) from (by omega)) (show ¬ (48 ≤ tX bf ln en3 ∧ tX bf ln en3 ≤ 57) from (by omega))
                    exact EWv hx hb hr hlocks hS (fun i => [0, en3, (I_165 1), (I_165 2), (I_165 3), (-1)].getD i 0, fun i => [0, (-1)].getD i 0, fun i => [].getD i (fun _ => 0), fun i => [].getD i (fun _ => 0)) rfl ⟨(show RDX (tX bf ln) en en3 (I_165 1) (I_165 2) (I_165 3) (-1) (-1) from ⟨⟨by omega, hpl⟩, p_170.trans tk.1.symm, (by rw [tk.2.1]; split <;> omega), (fun h => by rw [tk.2.2.2]; omega), tk.2.2.1.symm, (fun h => absurd h (by omega)), Or.inr (by omega)⟩), (show (0 ≤ tp ∧ tp ≤ 900) ∧ (0 ≤ ln ∧ ln ≤ 900) ∧ (0 ≤ en3 ∧ en3 ≤ (I_165 1)) ∧ ((I_165 1) ≤ ln) ∧ (0 ≤ (I_165 2) ∧ (I_165 2) ≤ 4) ∧ (-2147483648 ≤ (I_165 3) ∧ (I_165 3) < 2147483648) ∧ (-1 ≤ (-1) ∧ (-1) ≤ 24) from ⟨⟨by omega, by omega⟩, ⟨by omega, by omega⟩, ⟨by omega, by omega⟩, by omega, ⟨by omega, by omega⟩, ⟨by omega, by omega⟩, by omega, by omega⟩)⟩ (hP.sub [0, 1, 2] rfl) (hD.sub [0, 1, 2] rfl rfl) dX4_next_170
                  ·
                    have c_163 := mt (zlt (x := iZ (gz bf en3)) (y := iZ 48) rfl rfl ⟨by omega, by omega⟩ ⟨by omega, by omega⟩).mpr c_163
                    refine lv_aload_n hx hb dX4_next_145 rfl (lv_at hl 0 rfl) ?_
                    refine va_get (D := D) (ci := 4) (v := .ref tx) (C := RX4) (T := TX4) (N := 12) hx hb hts iX4 hown hK hP 0 rfl rfl 0 (by decide) (hts _ qf_X4_9) (fun _ h => h) rfl dX4_next_146 ?_
                    refine lv_aload_n hx hb dX4_next_149 rfl (lv_at hl 0 rfl) ?_
                    refine va_get (D := D) (ci := 4) (v := .int (iZ en3)) (C := RX4) (T := TX4) (N := 12) hx hb hts iX4 hown hK hP 0 rfl rfl 5 (by decide) (hts _ qf_X4_47) (fun _ h => h) rfl dX4_next_150 ?_
                    refine va_bald hx hb hK hP 1 0 rfl rfl (zin (e := en3) (n := 900) ⟨by omega, by omega⟩ (by decide)) dX4_next_153 ?_
                    refine lv_topi (fun x_174 ex_174 => ?_)
                    obtain rfl : x_174 = iZ (gz bf en3) := ex_174.trans (gz_eq ⟨by omega, by omega⟩)
                    have h_175 := hbf en3 (by omega) (by omega)
                    have ht_176 := tX_c (f := bf) (sz := ln) (x := en3) (by omega) (fun _ => h_175)
                    refine lv_bipush (v := iZ 57) hx hb dX4_next_154 (by decide) ?_
                    refine lv_icmp_gt (tgt := 166) hx hb dX4_next_156 (by decide) (fun c_177 => ?_) (fun c_177 => ?_)
                    ·
                      have c_177 := (zlt (x := iZ 57) (y := iZ (gz bf en3)) rfl rfl ⟨by omega, by omega⟩ ⟨by omega, by omega⟩).mp c_177
                      refine lv_aload_n hx hb dX4_next_166 rfl (lv_at hl 0 rfl) ?_
                      refine CWV (As := []) (rest := []) (wc := [(hr1, .inr (4, [.ref tx, .ref kw, .int (iZ tp), .int (iZ ln), .int (iZ en3), .int (iZ en3), .int (iZ ki), .int (iZ (-1)), .int (iZ (-1)), .long (-1), .int (iZ fk), .int (iZ fp)])), (tx, .inl (k 0, 900, .inl bf)), (kw, .inl (k 2, 25, .inr (.inl kwf)))]) (wr := []) hx hb hml hown hts hKK hP hD hS hA (x_readSign l D k hr1 tx kw tp ln en3 en3 ki (-1) (-1) fk fp (-1) bf kwf ⟨⟨by omega, by omega⟩, ⟨by omega, by omega⟩, by omega, by omega⟩ hbf (by omega)) ci_X4_readSign qm_X4_77 ⟨Nat.le_of_ble_eq_true rfl, Nat.le_of_ble_eq_true rfl⟩ ⟨Nat.le_of_ble_eq_true rfl, Nat.le_of_ble_eq_true rfl⟩ [0, 1, 2] [] rfl rfl rfl rfl rfl (by decide) 0 rfl rfl rfl hl.1 rfl (Nat.le_of_ble_eq_true rfl) dX4_next_167 (fun u_178 H locs hφ hP hD hS => ?_)
                      obtain ⟨I_179, L_180, F_181, G_182⟩ := u_178
                      obtain ⟨p_184, p_185, p_186, p_187⟩ : ((I_179 1) = en3 + 1) ∧ ((I_179 3) = gz bf en3) ∧ ((((I_179 2) : Int) = 3 ∧ (gz bf en3 = 59 ∨ gz bf en3 = 60 ∨ gz bf en3 = 62 ∨ gz bf en3 = 61)) ∨ (((I_179 2) : Int) = 4 ∧ ¬ (gz bf en3 = 59 ∨ gz bf en3 = 60 ∨ gz bf en3 = 62 ∨ gz bf en3 = 61))) ∧ (-128 ≤ (I_179 3) ∧ (I_179 3) ≤ 127) := hφ
                      refine W.eq (g2 := F0 m 170 ls []) rfl ?_
                      have tk := tk_sign hpl (show ¬ tX bf ln en3 = -1 from (by omega)) (show ¬ (97 ≤ tX bf ln en3 ∧ tX bf ln en3 ≤ 122) from (by omega)) (show ¬ (48 ≤ tX bf ln en3 ∧ tX bf ln en3 ≤ 57) from (by omega))
                      exact EWv hx hb hr hlocks hS (fun i => [0, en3, (I_179 1), (I_179 2), (I_179 3), (-1)].getD i 0, fun i => [0, (-1)].getD i 0, fun i => [].getD i (fun _ => 0), fun i => [].getD i (fun _ => 0)) rfl ⟨(show RDX (tX bf ln) en en3 (I_179 1) (I_179 2) (I_179 3) (-1) (-1) from ⟨⟨by omega, hpl⟩, p_184.trans tk.1.symm, (by rw [tk.2.1]; split <;> omega), (fun h => by rw [tk.2.2.2]; omega), tk.2.2.1.symm, (fun h => absurd h (by omega)), Or.inr (by omega)⟩), (show (0 ≤ tp ∧ tp ≤ 900) ∧ (0 ≤ ln ∧ ln ≤ 900) ∧ (0 ≤ en3 ∧ en3 ≤ (I_179 1)) ∧ ((I_179 1) ≤ ln) ∧ (0 ≤ (I_179 2) ∧ (I_179 2) ≤ 4) ∧ (-2147483648 ≤ (I_179 3) ∧ (I_179 3) < 2147483648) ∧ (-1 ≤ (-1) ∧ (-1) ≤ 24) from ⟨⟨by omega, by omega⟩, ⟨by omega, by omega⟩, ⟨by omega, by omega⟩, by omega, ⟨by omega, by omega⟩, ⟨by omega, by omega⟩, by omega, by omega⟩)⟩ (hP.sub [0, 1, 2] rfl) (hD.sub [0, 1, 2] rfl rfl) dX4_next_170
                    ·
                      have c_177 := mt (zlt (x := iZ 57) (y := iZ (gz bf en3)) rfl rfl ⟨by omega, by omega⟩ ⟨by omega, by omega⟩).mpr c_177
                      refine lv_aload_n hx hb dX4_next_159 rfl (lv_at hl 0 rfl) ?_
                      refine CWV (As := []) (rest := []) (wc := [(hr1, .inr (4, [.ref tx, .ref kw, .int (iZ tp), .int (iZ ln), .int (iZ en3), .int (iZ en3), .int (iZ ki), .int (iZ (-1)), .int (iZ (-1)), .long (-1), .int (iZ fk), .int (iZ fp)])), (tx, .inl (k 0, 900, .inl bf)), (kw, .inl (k 2, 25, .inr (.inl kwf)))]) (wr := []) hx hb hml hown hts hKK hP hD hS hA (x_readNumber l D k hr1 tx kw tp ln en3 en3 ki (-1) (-1) fk fp (-1) bf kwf ⟨⟨by omega, by omega⟩, ⟨by omega, by omega⟩, by omega, by omega⟩ hbf (by omega)) ci_X4_readNumber qm_X4_74 ⟨Nat.le_of_ble_eq_true rfl, Nat.le_of_ble_eq_true rfl⟩ ⟨Nat.le_of_ble_eq_true rfl, Nat.le_of_ble_eq_true rfl⟩ [0, 1, 2] [] rfl rfl rfl rfl rfl (by decide) 0 rfl rfl rfl hl.1 rfl (Nat.le_of_ble_eq_true rfl) dX4_next_160 (fun u_188 H locs hφ hP hD hS => ?_)
                      obtain ⟨I_189, L_190, F_191, G_192⟩ := u_188
                      obtain ⟨p_194, p_195, p_196, p_197, p_198⟩ : (isRn dgB (tX bf ln) en3 (I_189 1)) ∧ ((((I_189 2) : Int) = 4 ∧ 4 < (I_189 1) - en3) ∨ (((I_189 2) : Int) = 2 ∧ (I_189 1) - en3 ≤ 4)) ∧ ((I_189 1) - en3 ≤ 4 → (I_189 3) = xDv (tX bf ln) en3 ((I_189 1) - en3).toNat) ∧ (en3 ≤ (I_189 1) ∧ (I_189 1) ≤ ln) ∧ (0 ≤ (I_189 3) ∧ (I_189 3) ≤ 9999) := hφ
                      refine W.eq (g2 := F0 m 163 ls []) rfl ?_
                      refine lv_goto (tgt := 170) hx hb dX4_next_163 (by decide) ?_
                      have hdg : dgB (tX bf ln en3) := (show 48 ≤ tX bf ln en3 ∧ tX bf ln en3 ≤ 57 from (by omega))
                      have tk := tk_num hpl hdg p_194
                      exact EWv hx hb hr hlocks hS (fun i => [0, en3, (I_189 1), (I_189 2), (I_189 3), (-1)].getD i 0, fun i => [0, (-1)].getD i 0, fun i => [].getD i (fun _ => 0), fun i => [].getD i (fun _ => 0)) rfl ⟨(show RDX (tX bf ln) en en3 (I_189 1) (I_189 2) (I_189 3) (-1) (-1) from ⟨⟨by omega, hpl⟩, tk.1.symm, (by rw [tk.2.1]; split <;> omega), (fun h => by rw [tk.2.2.2]; exact p_196 (by omega)), tk.2.2.1.symm, (fun h => absurd h (by omega)), Or.inr (rn_lt p_194 hdg)⟩), (show (0 ≤ tp ∧ tp ≤ 900) ∧ (0 ≤ ln ∧ ln ≤ 900) ∧ (0 ≤ en3 ∧ en3 ≤ (I_189 1)) ∧ ((I_189 1) ≤ ln) ∧ (0 ≤ (I_189 2) ∧ (I_189 2) ≤ 4) ∧ (-2147483648 ≤ (I_189 3) ∧ (I_189 3) < 2147483648) ∧ (-1 ≤ (-1) ∧ (-1) ≤ 24) from ⟨⟨by omega, by omega⟩, ⟨by omega, by omega⟩, ⟨by omega, by omega⟩, by omega, ⟨by omega, by omega⟩, ⟨by omega, by omega⟩, by omega, by omega⟩)⟩ (hP.sub [0, 1, 2] rfl) (hD.sub [0, 1, 2] rfl rfl) dX4_next_170
                ·
                  have c_159 := mt (zlt (x := iZ 122) (y := iZ (gz bf en3)) rfl rfl ⟨by omega, by omega⟩ ⟨by omega, by omega⟩).mpr c_159
                  refine lv_aload_n hx hb dX4_next_124 rfl (lv_at hl 0 rfl) ?_
                  refine CWV (As := []) (rest := []) (wc := [(hr1, .inr (4, [.ref tx, .ref kw, .int (iZ tp), .int (iZ ln), .int (iZ en3), .int (iZ en3), .int (iZ ki), .int (iZ (-1)), .int (iZ (-1)), .long (-1), .int (iZ fk), .int (iZ fp)])), (tx, .inl (k 0, 900, .inl bf)), (kw, .inl (k 2, 25, .inr (.inl kwf)))]) (wr := []) hx hb hml hown hts hKK hP hD hS hA (x_readWord l D k hr1 tx kw tp ln en3 en3 ki (-1) (-1) fk fp (-1) bf kwf ⟨⟨by omega, by omega⟩, ⟨by omega, by omega⟩, by omega, by omega⟩ hbf hkw (by omega) (by omega)) ci_X4_readWord qm_X4_71 ⟨Nat.le_of_ble_eq_true rfl, Nat.le_of_ble_eq_true rfl⟩ ⟨Nat.le_of_ble_eq_true rfl, Nat.le_of_ble_eq_true rfl⟩ [0, 1, 2] [] rfl rfl rfl rfl rfl (by decide) 0 rfl rfl rfl hl.1 rfl (Nat.le_of_ble_eq_true rfl) dX4_next_125 (fun u_199 H locs hφ hP hD hS => ?_)
                  obtain ⟨I_200, L_201, F_202, G_203⟩ := u_199
                  obtain ⟨p_205, p_206, p_207, p_208, p_209, p_210⟩ : (isRn smB (tX bf ln) en3 (I_200 1)) ∧ ((L_201 1) = lZ (xCw (tX bf ln) en3 (I_200 1))) ∧ ((I_200 3) = kwu (xCw (tX bf ln) en3 (I_200 1)) 25) ∧ (((I_200 2) : Int) = 1) ∧ (en3 ≤ (I_200 1) ∧ (I_200 1) ≤ ln) ∧ (-1 ≤ (I_200 3) ∧ (I_200 3) ≤ 24) := hφ
                  refine W.eq (g2 := F0 m 128 ls []) rfl ?_
                  refine lv_goto (tgt := 170) hx hb dX4_next_128 (by decide) ?_
                  have hsm : smB (tX bf ln en3) := (show 97 ≤ tX bf ln en3 ∧ tX bf ln en3 ≤ 122 from (by omega))
                  have tk := tk_word hpl hsm p_205
                  exact EWv hx hb hr hlocks hS (fun i => [0, en3, (I_200 1), (I_200 2), (-1), (I_200 3)].getD i 0, fun i => [0, (L_201 1)].getD i 0, fun i => [].getD i (fun _ => 0), fun i => [].getD i (fun _ => 0)) rfl ⟨(show RDX (tX bf ln) en en3 (I_200 1) (I_200 2) (-1) (I_200 3) (L_201 1) from ⟨⟨by omega, hpl⟩, tk.1.symm, p_208.trans tk.2.1.symm, (fun h => absurd h (by omega)), p_207.trans tk.2.2.2.symm, (fun _ => ⟨p_206.trans (congrArg lZ tk.2.2.1.symm), by unfold xLn; rw [tk.1, ← hpl]; exact xLet_rn p_205⟩), Or.inr (rn_lt p_205 hsm)⟩), (show (0 ≤ tp ∧ tp ≤ 900) ∧ (0 ≤ ln ∧ ln ≤ 900) ∧ (0 ≤ en3 ∧ en3 ≤ (I_200 1)) ∧ ((I_200 1) ≤ ln) ∧ (0 ≤ (I_200 2) ∧ (I_200 2) ≤ 4) ∧ (-2147483648 ≤ (-1) ∧ (-1) < 2147483648) ∧ (-1 ≤ (I_200 3) ∧ (I_200 3) ≤ 24) from ⟨⟨by omega, by omega⟩, ⟨by omega, by omega⟩, ⟨by omega, by omega⟩, by omega, ⟨by omega, by omega⟩, ⟨by omega, by omega⟩, by omega, by omega⟩)⟩ (hP.sub [0, 1, 2] rfl) (hD.sub [0, 1, 2] rfl rfl) dX4_next_170
            ·
              have c_112 := mt (zlt (x := iZ en3) (y := iZ ln) rfl rfl ⟨by omega, by omega⟩ ⟨by omega, by omega⟩).mpr c_112
              refine lv_aload_n hx hb dX4_next_88 rfl (lv_at hl 0 rfl) ?_
              refine lv_iconst (v := iZ 0) hx hb dX4_next_89 (by decide) ?_
              refine va_put (D := D) (ci := 4) (v := .int (iZ 0)) (ty := .int) (C := RX4) (T := TX4) (N := 12) hx hb hts iX4 tyX4 tyX4_ok nmX4 hown hK hP hD hS 0 rfl rfl 6 (by decide) (hts _ qf_X4_68) (fun _ h => h) rfl (by decide +kernel) rfl rfl (Nat.le_of_ble_eq_true rfl) dX4_next_90 (fun H locs hP hD hS => ?_)
              refine lv_goto (tgt := 170) hx hb dX4_next_93 (by decide) ?_
              have tk := tk_end hpl (show tX bf ln en3 = -1 from (by omega))
              exact EWv hx hb hr hlocks hS (fun i => [0, en3, en3, 0, (-1), (-1)].getD i 0, fun i => [0, (-1)].getD i 0, fun i => [].getD i (fun _ => 0), fun i => [].getD i (fun _ => 0)) rfl ⟨(show RDX (tX bf ln) en en3 en3 0 (-1) (-1) (-1) from ⟨⟨by omega, hpl⟩, tk.1.symm, tk.2.1.symm, (fun h => absurd h (by omega)), tk.2.2.symm, (fun h => absurd h (by omega)), Or.inl rfl⟩), (show (0 ≤ tp ∧ tp ≤ 900) ∧ (0 ≤ ln ∧ ln ≤ 900) ∧ (0 ≤ en3 ∧ en3 ≤ en3) ∧ (en3 ≤ ln) ∧ (0 ≤ 0 ∧ 0 ≤ 4) ∧ (-2147483648 ≤ (-1) ∧ (-1) < 2147483648) ∧ (-1 ≤ (-1) ∧ (-1) ≤ 24) from ⟨⟨by omega, by omega⟩, ⟨by omega, by omega⟩, ⟨by omega, by omega⟩, by omega, ⟨by omega, by omega⟩, ⟨by omega, by omega⟩, by omega, by omega⟩)⟩ (hP.sub [0, 1, 2] rfl) (hD.sub [0, 1, 2] rfl rfl) dX4_next_170
          ·
            have c_110 := (zeq (x := iZ (gz bf en3)) (y := iZ 32) rfl rfl ⟨by omega, by omega⟩ ⟨by omega, by omega⟩).mp c_110
            refine lv_aload_n hx hb dX4_next_39 rfl (lv_at hl 0 rfl) ?_
            refine lv_dup hx hb dX4_next_40 rfl ?_
            refine va_get (D := D) (ci := 4) (v := .int (iZ en3)) (C := RX4) (T := TX4) (N := 12) hx hb hts iX4 hown hK hP 0 rfl rfl 5 (by decide) (hts _ qf_X4_47) (fun _ h => h) rfl dX4_next_41 ?_
            refine lv_iconst (v := iZ 1) hx hb dX4_next_44 (by decide) ?_
            refine lv_iadd hx hb dX4_next_45 ?_
            refine lv_topi (fun x_211 ex_211 => ?_)
            obtain rfl : x_211 = iZ (en3 + 1) := ex_211.trans (iZ_add en3 1)
            refine va_put (D := D) (ci := 4) (v := .int (iZ (en3 + 1))) (ty := .int) (C := RX4) (T := TX4) (N := 12) hx hb hts iX4 tyX4 tyX4_ok nmX4 hown hK hP hD hS 0 rfl rfl 5 (by decide) (hts _ qf_X4_47) (fun _ h => h) rfl (by decide +kernel) rfl rfl (Nat.le_of_ble_eq_true rfl) dX4_next_46 (fun H locs hP hD hS => ?_)
            refine lv_goto (tgt := 0) hx hb dX4_next_49 (by decide) ?_
            exact ih1  (en3 + 1) _ _ _ (by omega) (show en ≤ (en3 + 1) ∧ (en3 + 1) ≤ ln from ⟨by omega, by omega⟩) (show ∀ j : Int, en ≤ j → j < (en3 + 1) → wsB (tX bf ln j) from (rn_step hrun (show tX bf ln en3 = 32 ∨ tX bf ln en3 = 10 from (by omega)))) (hP.sub [0, 1, 2] rfl) (hD.sub [0, 1, 2] rfl rfl) hS (lv_sub hl [0] rfl)
  exact HL1 902 en _ _ _ (by omega) (show en ≤ en ∧ en ≤ ln from ⟨by omega, by omega⟩) (show ∀ j : Int, en ≤ j → j < en → wsB (tX bf ln j) from rn_none) (hP.sub [0, 1, 2] rfl) (hD.sub [0, 1, 2] rfl rfl) hS (lv_sub hl [0] rfl)
set_option maxHeartbeats 4000000 in
set_option maxRecDepth 100000 in
theorem x_open (l : Launch) (D : va_G) (k : Nat → ClassId) (hr1 : Nat) (tx : Nat) (kw : Nat) (tp : Int) (ln : Int) (pl : Int) (en : Int) (ki : Int) (va : Int) (ke : Int) (fk : Int) (fp : Int) (nm : Int64) (bf : Nat → Int32) (kwf : Nat → Int64) (b : Int) (hb0 : 0 ≤ b ∧ b ≤ 900) (hbf : rgI bf (-128) 127 900) (hkw : ∀ j : Nat, j < 25 → kwf j = lZ (kwC j)) : WD (σ := ((Nat → Int) × (Nat → Int64) × (Nat → Nat → Int32) × (Nat → Nat → Int64))) l yX4_open cX4_open 2 none 2 0 0 D k [.ref hr1, .int (iZ b)] [(hr1, .inr (4, [.ref tx, .ref kw, .int (iZ tp), .int (iZ ln), .int (iZ pl), .int (iZ en), .int (iZ ki), .int (iZ va), .int (iZ ke), .long nm, .int (iZ fk), .int (iZ fp)])), (tx, .inl (k 0, 900, .inl bf)), (kw, .inl (k 2, 25, .inr (.inl kwf)))] (fun _ => none) (fun u => (RDX (tX bf (u.1 2)) 0 (u.1 3) (u.1 4) (u.1 5) (u.1 6) (u.1 7) (u.2.1 1)) ∧ ((0 ≤ (u.1 1) ∧ (u.1 1) ≤ 900) ∧ (0 ≤ (u.1 2) ∧ (u.1 2) ≤ 900) ∧ (0 ≤ (u.1 3) ∧ (u.1 3) ≤ (u.1 4)) ∧ ((u.1 4) ≤ (u.1 2)) ∧ (0 ≤ (u.1 5) ∧ (u.1 5) ≤ 4) ∧ (-2147483648 ≤ (u.1 6) ∧ (u.1 6) < 2147483648) ∧ (-1 ≤ (u.1 7) ∧ (u.1 7) ≤ 24)) ∧ (((u.1 1) : Int) = 0 ∧ (u.1 2) = b ∧ ((u.1 8) : Int) = 0 ∧ (u.1 9) = -1)) (fun u => [(hr1, .inr (4, [.ref tx, .ref kw, .int (iZ (u.1 1)), .int (iZ (u.1 2)), .int (iZ (u.1 3)), .int (iZ (u.1 4)), .int (iZ (u.1 5)), .int (iZ (u.1 6)), .int (iZ (u.1 7)), .long (u.2.1 1), .int (iZ (u.1 8)), .int (iZ (u.1 9))])), (tx, .inl (k 0, 900, .inl bf)), (kw, .inl (k 2, 25, .inr (.inl kwf)))]) := by
  refine MW (by decide) (Nat.le_of_ble_eq_true rfl) (fun p e s m below meth c ls A hx hb hml hr hlocks hin hts hown hKK hP hD hS hA hl => ?_)
  have hK := hKK.1
  have hl : lv_has ls 2 [(0, .ref hr1), (1, .int (iZ b))] := hl
  refine lv_aload_n hx hb dX4_open_0 rfl (lv_at hl 0 rfl) ?_
  refine lv_iload_n hx hb dX4_open_1 rfl (lv_at hl 1 rfl) ?_
  refine va_put (D := D) (ci := 4) (v := .int (iZ b)) (ty := .int) (C := RX4) (T := TX4) (N := 12) hx hb hts iX4 tyX4 tyX4_ok nmX4 hown hK hP hD hS 0 rfl rfl 3 (by decide) (hts _ qf_X4_45) (fun _ h => h) rfl (by decide +kernel) rfl rfl (Nat.le_of_ble_eq_true rfl) dX4_open_2 (fun H locs hP hD hS => ?_)
  refine lv_aload_n hx hb dX4_open_5 rfl (lv_at hl 0 rfl) ?_
  refine lv_iconst (v := iZ 0) hx hb dX4_open_6 (by decide) ?_
  refine va_put (D := D) (ci := 4) (v := .int (iZ 0)) (ty := .int) (C := RX4) (T := TX4) (N := 12) hx hb hts iX4 tyX4 tyX4_ok nmX4 hown hK hP hD hS 0 rfl rfl 2 (by decide) (hts _ qf_X4_42) (fun _ h => h) rfl (by decide +kernel) rfl rfl (Nat.le_of_ble_eq_true rfl) dX4_open_7 (fun H locs hP hD hS => ?_)
  refine lv_aload_n hx hb dX4_open_10 rfl (lv_at hl 0 rfl) ?_
  refine lv_iconst (v := iZ 0) hx hb dX4_open_11 (by decide) ?_
  refine va_put (D := D) (ci := 4) (v := .int (iZ 0)) (ty := .int) (C := RX4) (T := TX4) (N := 12) hx hb hts iX4 tyX4 tyX4_ok nmX4 hown hK hP hD hS 0 rfl rfl 5 (by decide) (hts _ qf_X4_47) (fun _ h => h) rfl (by decide +kernel) rfl rfl (Nat.le_of_ble_eq_true rfl) dX4_open_12 (fun H locs hP hD hS => ?_)
  refine lv_aload_n hx hb dX4_open_15 rfl (lv_at hl 0 rfl) ?_
  refine lv_iconst (v := iZ 0) hx hb dX4_open_16 (by decide) ?_
  refine va_put (D := D) (ci := 4) (v := .int (iZ 0)) (ty := .int) (C := RX4) (T := TX4) (N := 12) hx hb hts iX4 tyX4 tyX4_ok nmX4 hown hK hP hD hS 0 rfl rfl 10 (by decide) (hts _ qf_X4_19) (fun _ h => h) rfl (by decide +kernel) rfl rfl (Nat.le_of_ble_eq_true rfl) dX4_open_17 (fun H locs hP hD hS => ?_)
  refine lv_aload_n hx hb dX4_open_20 rfl (lv_at hl 0 rfl) ?_
  refine lv_iconst (v := iZ (-1)) hx hb dX4_open_21 (by decide) ?_
  refine va_put (D := D) (ci := 4) (v := .int (iZ (-1))) (ty := .int) (C := RX4) (T := TX4) (N := 12) hx hb hts iX4 tyX4 tyX4_ok nmX4 hown hK hP hD hS 0 rfl rfl 11 (by decide) (hts _ qf_X4_23) (fun _ h => h) rfl (by decide +kernel) rfl rfl (Nat.le_of_ble_eq_true rfl) dX4_open_22 (fun H locs hP hD hS => ?_)
  refine lv_aload_n hx hb dX4_open_25 rfl (lv_at hl 0 rfl) ?_
  refine CWV (As := []) (rest := []) (wc := [(hr1, .inr (4, [.ref tx, .ref kw, .int (iZ 0), .int (iZ b), .int (iZ pl), .int (iZ 0), .int (iZ ki), .int (iZ va), .int (iZ ke), .long nm, .int (iZ 0), .int (iZ (-1))])), (tx, .inl (k 0, 900, .inl bf)), (kw, .inl (k 2, 25, .inr (.inl kwf)))]) (wr := []) hx hb hml hown hts hKK hP hD hS hA (x_next l D k hr1 tx kw 0 b pl 0 ki va ke 0 (-1) nm bf kwf ⟨⟨by omega, by omega⟩, ⟨by omega, by omega⟩, by omega, by omega⟩ hbf hkw) ci_X4_next qm_X4_50 ⟨Nat.le_of_ble_eq_true rfl, Nat.le_of_ble_eq_true rfl⟩ ⟨Nat.le_of_ble_eq_true rfl, Nat.le_of_ble_eq_true rfl⟩ [0, 1, 2] [] rfl rfl rfl rfl rfl (by decide) 0 rfl rfl rfl hl.1 rfl (Nat.le_of_ble_eq_true rfl) dX4_open_26 (fun u_1 H locs hφ hP hD hS => ?_)
  obtain ⟨I_2, L_3, F_4, G_5⟩ := u_1
  obtain ⟨p_7, p_8⟩ : (RDX (tX bf b) 0 (I_2 1) (I_2 2) (I_2 3) (I_2 4) (I_2 5) (L_3 1)) ∧ ((0 ≤ 0 ∧ 0 ≤ 900) ∧ (0 ≤ b ∧ b ≤ 900) ∧ (0 ≤ (I_2 1) ∧ (I_2 1) ≤ (I_2 2)) ∧ ((I_2 2) ≤ b) ∧ (0 ≤ (I_2 3) ∧ (I_2 3) ≤ 4) ∧ (-2147483648 ≤ (I_2 4) ∧ (I_2 4) < 2147483648) ∧ (-1 ≤ (I_2 5) ∧ (I_2 5) ≤ 24)) := hφ
  obtain ⟨⟨ar_9, br_9⟩, cr_9, dr_9, er_9, fr_9, gr_9, hr_9⟩ := id p_7
  obtain ⟨t1u_10, t2u_10, t3u_10, t4u_10, t5u_10, t6u_10, t7u_10⟩ := id p_8
  refine W.eq (g2 := F0 m 29 ls []) rfl ?_
  exact EWv hx hb hr hlocks hS (fun i => [0, 0, b, (I_2 1), (I_2 2), (I_2 3), (I_2 4), (I_2 5), 0, (-1)].getD i 0, fun i => [0, (L_3 1)].getD i 0, fun i => [].getD i (fun _ => 0), fun i => [].getD i (fun _ => 0)) rfl ⟨(show RDX (tX bf b) 0 (I_2 1) (I_2 2) (I_2 3) (I_2 4) (I_2 5) (L_3 1) from p_7), (show (0 ≤ 0 ∧ 0 ≤ 900) ∧ (0 ≤ b ∧ b ≤ 900) ∧ (0 ≤ (I_2 1) ∧ (I_2 1) ≤ (I_2 2)) ∧ ((I_2 2) ≤ b) ∧ (0 ≤ (I_2 3) ∧ (I_2 3) ≤ 4) ∧ (-2147483648 ≤ (I_2 4) ∧ (I_2 4) < 2147483648) ∧ (-1 ≤ (I_2 5) ∧ (I_2 5) ≤ 24) from ⟨⟨by omega, by omega⟩, ⟨by omega, by omega⟩, ⟨by omega, by omega⟩, by omega, ⟨by omega, by omega⟩, ⟨by omega, by omega⟩, by omega, by omega⟩), (show (0 : Int) = 0 ∧ b = b ∧ (0 : Int) = 0 ∧ (-1) = -1 from (by omega))⟩ (hP.sub [0, 1, 2] rfl) (hD.sub [0, 1, 2] rfl rfl) dX4_open_29
set_option maxHeartbeats 4000000 in
set_option maxRecDepth 100000 in
theorem x_fail (l : Launch) (D : va_G) (k : Nat → ClassId) (hr1 : Nat) (tx : Nat) (kw : Nat) (tp : Int) (ln : Int) (pl : Int) (en : Int) (ki : Int) (va : Int) (ke : Int) (fk : Int) (fp : Int) (nm : Int64) (bf : Nat → Int32) (kwf : Nat → Int64) (cu : Int) (w : Int) (hI1 : (0 ≤ tp ∧ tp ≤ 900) ∧ (0 ≤ ln ∧ ln ≤ 900) ∧ (0 ≤ pl ∧ pl ≤ en) ∧ (en ≤ ln) ∧ (0 ≤ ki ∧ ki ≤ 4) ∧ (-2147483648 ≤ va ∧ va < 2147483648) ∧ (-1 ≤ ke ∧ ke ≤ 24)) (hrx : RDX (tX bf ln) cu pl en ki va ke nm) : WD (σ := ((Nat → Int) × (Nat → Int64) × (Nat → Nat → Int32) × (Nat → Nat → Int64))) l yX4_fail cX4_fail 2 (some .boolean) 0 0 0 D k [.ref hr1, .int (iZ w)] [(hr1, .inr (4, [.ref tx, .ref kw, .int (iZ tp), .int (iZ ln), .int (iZ pl), .int (iZ en), .int (iZ ki), .int (iZ va), .int (iZ ke), .long nm, .int (iZ fk), .int (iZ fp)])), (tx, .inl (k 0, 900, .inl bf)), (kw, .inl (k 2, 25, .inr (.inl kwf)))] (fun _ => some (.int (iZ 0))) (fun u => (u.1 1) = xFl (tX bf ln) cu w ∧ (u.1 2) = xPl (tX bf ln) cu) (fun u => [(hr1, .inr (4, [.ref tx, .ref kw, .int (iZ tp), .int (iZ ln), .int (iZ pl), .int (iZ en), .int (iZ ki), .int (iZ va), .int (iZ ke), .long nm, .int (iZ (u.1 1)), .int (iZ (u.1 2))])), (tx, .inl (k 0, 900, .inl bf)), (kw, .inl (k 2, 25, .inr (.inl kwf)))]) := by
  refine MW (by decide) (Nat.le_of_ble_eq_true rfl) (fun p e s m below meth c ls A hx hb hml hr hlocks hin hts hown hKK hP hD hS hA hl => ?_)
  have hK := hKK.1
  have hl : lv_has ls 2 [(0, .ref hr1), (1, .int (iZ w))] := hl
  obtain ⟨⟨ar_1, br_1⟩, cr_1, dr_1, er_1, fr_1, gr_1, hr_1⟩ := id hrx
  refine lv_aload_n hx hb dX4_fail_0 rfl (lv_at hl 0 rfl) ?_
  refine lv_aload_n hx hb dX4_fail_1 rfl (lv_at hl 0 rfl) ?_
  refine va_get (D := D) (ci := 4) (v := .int (iZ ki)) (C := RX4) (T := TX4) (N := 12) hx hb hts iX4 hown hK hP 0 rfl rfl 6 (by decide) (hts _ qf_X4_68) (fun _ h => h) rfl dX4_fail_2 ?_
  refine lv_iconst (v := iZ 4) hx hb dX4_fail_5 (by decide) ?_
  refine lv_icmp_ne (tgt := 13) hx hb dX4_fail_6 (by decide) (fun c_2 => ?_) (fun c_2 => ?_)
  ·
    have c_2 := mt (zeq (x := iZ ki) (y := iZ 4) rfl rfl ⟨by omega, by omega⟩ ⟨by omega, by omega⟩).mpr c_2
    refine lv_iload_n hx hb dX4_fail_13 rfl (lv_at hl 1 rfl) ?_
    refine va_put (D := D) (ci := 4) (v := .int (iZ w)) (ty := .int) (C := RX4) (T := TX4) (N := 12) hx hb hts iX4 tyX4 tyX4_ok nmX4 hown hK hP hD hS 0 rfl rfl 10 (by decide) (hts _ qf_X4_19) (fun _ h => h) rfl (by decide +kernel) rfl rfl (Nat.le_of_ble_eq_true rfl) dX4_fail_14 (fun H locs hP hD hS => ?_)
    refine lv_aload_n hx hb dX4_fail_17 rfl (lv_at hl 0 rfl) ?_
    refine lv_aload_n hx hb dX4_fail_18 rfl (lv_at hl 0 rfl) ?_
    refine va_get (D := D) (ci := 4) (v := .int (iZ pl)) (C := RX4) (T := TX4) (N := 12) hx hb hts iX4 hown hK hP 0 rfl rfl 4 (by decide) (hts _ qf_X4_53) (fun _ h => h) rfl dX4_fail_19 ?_
    refine va_put (D := D) (ci := 4) (v := .int (iZ pl)) (ty := .int) (C := RX4) (T := TX4) (N := 12) hx hb hts iX4 tyX4 tyX4_ok nmX4 hown hK hP hD hS 0 rfl rfl 11 (by decide) (hts _ qf_X4_23) (fun _ h => h) rfl (by decide +kernel) rfl rfl (Nat.le_of_ble_eq_true rfl) dX4_fail_22 (fun H locs hP hD hS => ?_)
    refine lv_iconst (v := iZ 0) hx hb dX4_fail_25 (by decide) ?_
    exact EWz hx hb hr hlocks hS (fun i => [0, w, pl].getD i 0, fun i => [0].getD i 0, fun i => [].getD i (fun _ => 0), fun i => [].getD i (fun _ => 0)) rfl rfl (show w = xFl (tX bf ln) cu w ∧ pl = xPl (tX bf ln) cu from ⟨by unfold xFl; rw [if_neg (by omega)], by omega⟩) (hP.sub [0, 1, 2] rfl) (hD.sub [0, 1, 2] rfl rfl) dX4_fail_26
  ·
    have c_2 := (zeq (x := iZ ki) (y := iZ 4) rfl rfl ⟨by omega, by omega⟩ ⟨by omega, by omega⟩).mp c_2
    refine lv_iconst (v := iZ 1) hx hb dX4_fail_9 (by decide) ?_
    refine lv_goto (tgt := 14) hx hb dX4_fail_10 (by decide) ?_
    refine va_put (D := D) (ci := 4) (v := .int (iZ 1)) (ty := .int) (C := RX4) (T := TX4) (N := 12) hx hb hts iX4 tyX4 tyX4_ok nmX4 hown hK hP hD hS 0 rfl rfl 10 (by decide) (hts _ qf_X4_19) (fun _ h => h) rfl (by decide +kernel) rfl rfl (Nat.le_of_ble_eq_true rfl) dX4_fail_14 (fun H locs hP hD hS => ?_)
    refine lv_aload_n hx hb dX4_fail_17 rfl (lv_at hl 0 rfl) ?_
    refine lv_aload_n hx hb dX4_fail_18 rfl (lv_at hl 0 rfl) ?_
    refine va_get (D := D) (ci := 4) (v := .int (iZ pl)) (C := RX4) (T := TX4) (N := 12) hx hb hts iX4 hown hK hP 0 rfl rfl 4 (by decide) (hts _ qf_X4_53) (fun _ h => h) rfl dX4_fail_19 ?_
    refine va_put (D := D) (ci := 4) (v := .int (iZ pl)) (ty := .int) (C := RX4) (T := TX4) (N := 12) hx hb hts iX4 tyX4 tyX4_ok nmX4 hown hK hP hD hS 0 rfl rfl 11 (by decide) (hts _ qf_X4_23) (fun _ h => h) rfl (by decide +kernel) rfl rfl (Nat.le_of_ble_eq_true rfl) dX4_fail_22 (fun H locs hP hD hS => ?_)
    refine lv_iconst (v := iZ 0) hx hb dX4_fail_25 (by decide) ?_
    exact EWz hx hb hr hlocks hS (fun i => [0, 1, pl].getD i 0, fun i => [0].getD i 0, fun i => [].getD i (fun _ => 0), fun i => [].getD i (fun _ => 0)) rfl rfl (show 1 = xFl (tX bf ln) cu w ∧ pl = xPl (tX bf ln) cu from ⟨by unfold xFl; rw [if_pos (by omega)], by omega⟩) (hP.sub [0, 1, 2] rfl) (hD.sub [0, 1, 2] rfl rfl) dX4_fail_26
set_option maxHeartbeats 4000000 in
set_option maxRecDepth 100000 in
theorem x_takeWord (l : Launch) (D : va_G) (k : Nat → ClassId) (hr1 : Nat) (tx : Nat) (kw : Nat) (tp : Int) (ln : Int) (pl : Int) (en : Int) (ki : Int) (va : Int) (ke : Int) (fk : Int) (fp : Int) (nm : Int64) (bf : Nat → Int32) (kwf : Nat → Int64) (cu : Int) (w : Int) (hI1 : (0 ≤ tp ∧ tp ≤ 900) ∧ (0 ≤ ln ∧ ln ≤ 900) ∧ (0 ≤ pl ∧ pl ≤ en) ∧ (en ≤ ln) ∧ (0 ≤ ki ∧ ki ≤ 4) ∧ (-2147483648 ≤ va ∧ va < 2147483648) ∧ (-1 ≤ ke ∧ ke ≤ 24)) (hbf : rgI bf (-128) 127 900) (hkw : ∀ j : Nat, j < 25 → kwf j = lZ (kwC j)) (hrx : RDX (tX bf ln) cu pl en ki va ke nm) (hw : 0 ≤ w ∧ w ≤ 100) : WD (σ := ((Nat → Int) × (Nat → Int64) × (Nat → Nat → Int32) × (Nat → Nat → Int64))) l yX4_takeWord cX4_takeWord 2 (some .boolean) 2 0 0 D k [.ref hr1, .int (iZ w)] [(hr1, .inr (4, [.ref tx, .ref kw, .int (iZ tp), .int (iZ ln), .int (iZ pl), .int (iZ en), .int (iZ ki), .int (iZ va), .int (iZ ke), .long nm, .int (iZ fk), .int (iZ fp)])), (tx, .inl (k 0, 900, .inl bf)), (kw, .inl (k 2, 25, .inr (.inl kwf)))] (fun u => some (.int (iZ (u.1 0)))) (fun u => ((0 ≤ tp ∧ tp ≤ 900) ∧ (0 ≤ ln ∧ ln ≤ 900) ∧ (0 ≤ (u.1 1) ∧ (u.1 1) ≤ (u.1 2)) ∧ ((u.1 2) ≤ ln) ∧ (0 ≤ (u.1 3) ∧ (u.1 3) ≤ 4) ∧ (-2147483648 ≤ (u.1 4) ∧ (u.1 4) < 2147483648) ∧ (-1 ≤ (u.1 5) ∧ (u.1 5) ≤ 24)) ∧ ((((u.1 0) : Int) = 1 ∧ ∃ q9 : Int, xTw (tX bf ln) w cu = .inr q9 ∧ cu < q9 ∧ RDX (tX bf ln) q9 (u.1 1) (u.1 2) (u.1 3) (u.1 4) (u.1 5) (u.2.1 1) ∧ (u.1 6) = fk ∧ (u.1 7) = fp) ∨ (((u.1 0) : Int) = 0 ∧ xTw (tX bf ln) w cu = .inl ((u.1 6), (u.1 7))))) (fun u => [(hr1, .inr (4, [.ref tx, .ref kw, .int (iZ tp), .int (iZ ln), .int (iZ (u.1 1)), .int (iZ (u.1 2)), .int (iZ (u.1 3)), .int (iZ (u.1 4)), .int (iZ (u.1 5)), .long (u.2.1 1), .int (iZ (u.1 6)), .int (iZ (u.1 7))])), (tx, .inl (k 0, 900, .inl bf)), (kw, .inl (k 2, 25, .inr (.inl kwf)))]) := by
  refine MW (by decide) (Nat.le_of_ble_eq_true rfl) (fun p e s m below meth c ls A hx hb hml hr hlocks hin hts hown hKK hP hD hS hA hl => ?_)
  have hK := hKK.1
  have hl : lv_has ls 2 [(0, .ref hr1), (1, .int (iZ w))] := hl
  obtain ⟨⟨ar_1, br_1⟩, cr_1, dr_1, er_1, fr_1, gr_1, hr_1⟩ := id hrx
  refine lv_aload_n hx hb dX4_takeWord_0 rfl (lv_at hl 0 rfl) ?_
  refine va_get (D := D) (ci := 4) (v := .int (iZ ke)) (C := RX4) (T := TX4) (N := 12) hx hb hts iX4 hown hK hP 0 rfl rfl 8 (by decide) (hts _ qf_X4_56) (fun _ h => h) rfl dX4_takeWord_1 ?_
  refine lv_iload_n hx hb dX4_takeWord_4 rfl (lv_at hl 1 rfl) ?_
  refine lv_icmp_eq (tgt := 14) hx hb dX4_takeWord_5 (by decide) (fun c_2 => ?_) (fun c_2 => ?_)
  ·
    have c_2 := (zeq (x := iZ ke) (y := iZ w) rfl rfl ⟨by omega, by omega⟩ ⟨by omega, by omega⟩).mp c_2
    refine lv_aload_n hx hb dX4_takeWord_14 rfl (lv_at hl 0 rfl) ?_
    refine CWV (As := []) (rest := []) (wc := [(hr1, .inr (4, [.ref tx, .ref kw, .int (iZ tp), .int (iZ ln), .int (iZ pl), .int (iZ en), .int (iZ ki), .int (iZ va), .int (iZ ke), .long nm, .int (iZ fk), .int (iZ fp)])), (tx, .inl (k 0, 900, .inl bf)), (kw, .inl (k 2, 25, .inr (.inl kwf)))]) (wr := []) hx hb hml hown hts hKK hP hD hS hA (x_next l D k hr1 tx kw tp ln pl en ki va ke fk fp nm bf kwf ⟨⟨by omega, by omega⟩, ⟨by omega, by omega⟩, by omega, by omega⟩ hbf hkw) ci_X4_next qm_X4_50 ⟨Nat.le_of_ble_eq_true rfl, Nat.le_of_ble_eq_true rfl⟩ ⟨Nat.le_of_ble_eq_true rfl, Nat.le_of_ble_eq_true rfl⟩ [0, 1, 2] [] rfl rfl rfl rfl rfl (by decide) 0 rfl rfl rfl hl.1 rfl (Nat.le_of_ble_eq_true rfl) dX4_takeWord_15 (fun u_3 H locs hφ hP hD hS => ?_)
    obtain ⟨I_4, L_5, F_6, G_7⟩ := u_3
    obtain ⟨p_9, p_10⟩ : (RDX (tX bf ln) en (I_4 1) (I_4 2) (I_4 3) (I_4 4) (I_4 5) (L_5 1)) ∧ ((0 ≤ tp ∧ tp ≤ 900) ∧ (0 ≤ ln ∧ ln ≤ 900) ∧ (0 ≤ (I_4 1) ∧ (I_4 1) ≤ (I_4 2)) ∧ ((I_4 2) ≤ ln) ∧ (0 ≤ (I_4 3) ∧ (I_4 3) ≤ 4) ∧ (-2147483648 ≤ (I_4 4) ∧ (I_4 4) < 2147483648) ∧ (-1 ≤ (I_4 5) ∧ (I_4 5) ≤ 24)) := hφ
    have rx_11 := RDX.nx hrx p_9
    obtain ⟨⟨ar_12, br_12⟩, cr_12, dr_12, er_12, fr_12, gr_12, hr_12⟩ := id rx_11
    obtain ⟨t1u_13, t2u_13, t3u_13, t4u_13, t5u_13, t6u_13, t7u_13⟩ := id p_10
    refine W.eq (g2 := F0 m 18 ls []) rfl ?_
    refine lv_iconst (v := iZ 1) hx hb dX4_takeWord_18 (by decide) ?_
    exact EWz hx hb hr hlocks hS (fun i => [1, (I_4 1), (I_4 2), (I_4 3), (I_4 4), (I_4 5), fk, fp].getD i 0, fun i => [0, (L_5 1)].getD i 0, fun i => [].getD i (fun _ => 0), fun i => [].getD i (fun _ => 0)) rfl rfl ⟨(show (0 ≤ tp ∧ tp ≤ 900) ∧ (0 ≤ ln ∧ ln ≤ 900) ∧ (0 ≤ (I_4 1) ∧ (I_4 1) ≤ (I_4 2)) ∧ ((I_4 2) ≤ ln) ∧ (0 ≤ (I_4 3) ∧ (I_4 3) ≤ 4) ∧ (-2147483648 ≤ (I_4 4) ∧ (I_4 4) < 2147483648) ∧ (-1 ≤ (I_4 5) ∧ (I_4 5) ≤ 24) from ⟨⟨by omega, by omega⟩, ⟨by omega, by omega⟩, ⟨by omega, by omega⟩, by omega, ⟨by omega, by omega⟩, ⟨by omega, by omega⟩, by omega, by omega⟩), (show ((1 : Int) = 1 ∧ ∃ q9 : Int, xTw (tX bf ln) w cu = .inr q9 ∧ cu < q9 ∧ RDX (tX bf ln) q9 (I_4 1) (I_4 2) (I_4 3) (I_4 4) (I_4 5) (L_5 1) ∧ fk = fk ∧ fp = fp) ∨ ((1 : Int) = 0 ∧ xTw (tX bf ln) w cu = .inl (fk, fp)) from (Or.inl ⟨rfl, xEn (tX bf ln) cu, by unfold xTw; rw [if_pos (by omega)], by have := kw_kd (T := tX bf ln) (p := cu) (by omega); omega, rx_11, rfl, rfl⟩))⟩ (hP.sub [0, 1, 2] rfl) (hD.sub [0, 1, 2] rfl rfl) dX4_takeWord_19
  ·
    have c_2 := mt (zeq (x := iZ ke) (y := iZ w) rfl rfl ⟨by omega, by omega⟩ ⟨by omega, by omega⟩).mpr c_2
    refine lv_aload_n hx hb dX4_takeWord_8 rfl (lv_at hl 0 rfl) ?_
    refine lv_iconst (v := iZ 2) hx hb dX4_takeWord_9 (by decide) ?_
    refine CWV (As := [.int (iZ 2)]) (rest := []) (wc := [(hr1, .inr (4, [.ref tx, .ref kw, .int (iZ tp), .int (iZ ln), .int (iZ pl), .int (iZ en), .int (iZ ki), .int (iZ va), .int (iZ ke), .long nm, .int (iZ fk), .int (iZ fp)])), (tx, .inl (k 0, 900, .inl bf)), (kw, .inl (k 2, 25, .inr (.inl kwf)))]) (wr := []) hx hb hml hown hts hKK hP hD hS hA (x_fail l D k hr1 tx kw tp ln pl en ki va ke fk fp nm bf kwf cu 2 ⟨⟨by omega, by omega⟩, ⟨by omega, by omega⟩, ⟨by omega, by omega⟩, by omega, ⟨by omega, by omega⟩, ⟨by omega, by omega⟩, by omega, by omega⟩ hrx) ci_X4_fail qm_X4_80 ⟨Nat.le_of_ble_eq_true rfl, Nat.le_of_ble_eq_true rfl⟩ ⟨Nat.le_of_ble_eq_true rfl, Nat.le_of_ble_eq_true rfl⟩ [0, 1, 2] [] rfl rfl rfl rfl rfl (by decide) 0 rfl rfl rfl hl.1 rfl (Nat.le_of_ble_eq_true rfl) dX4_takeWord_10 (fun u_14 H locs hφ hP hD hS => ?_)
    obtain ⟨I_15, L_16, F_17, G_18⟩ := u_14
    have p_20 : (I_15 1) = xFl (tX bf ln) cu 2 ∧ (I_15 2) = xPl (tX bf ln) cu := hφ
    refine W.eq (g2 := F0 m 13 ls [.int (iZ 0)]) rfl ?_
    exact EWz hx hb hr hlocks hS (fun i => [0, pl, en, ki, va, ke, (I_15 1), (I_15 2)].getD i 0, fun i => [0, nm].getD i 0, fun i => [].getD i (fun _ => 0), fun i => [].getD i (fun _ => 0)) rfl rfl ⟨(show (0 ≤ tp ∧ tp ≤ 900) ∧ (0 ≤ ln ∧ ln ≤ 900) ∧ (0 ≤ pl ∧ pl ≤ en) ∧ (en ≤ ln) ∧ (0 ≤ ki ∧ ki ≤ 4) ∧ (-2147483648 ≤ va ∧ va < 2147483648) ∧ (-1 ≤ ke ∧ ke ≤ 24) from ⟨⟨by omega, by omega⟩, ⟨by omega, by omega⟩, ⟨by omega, by omega⟩, by omega, ⟨by omega, by omega⟩, ⟨by omega, by omega⟩, by omega, by omega⟩), (show ((0 : Int) = 1 ∧ ∃ q9 : Int, xTw (tX bf ln) w cu = .inr q9 ∧ cu < q9 ∧ RDX (tX bf ln) q9 pl en ki va ke nm ∧ (I_15 1) = fk ∧ (I_15 2) = fp) ∨ ((0 : Int) = 0 ∧ xTw (tX bf ln) w cu = .inl ((I_15 1), (I_15 2))) from (Or.inr ⟨rfl, by unfold xTw xEr; rw [if_neg (by omega), p_20.1, p_20.2]⟩))⟩ (hP.sub [0, 1, 2] rfl) (hD.sub [0, 1, 2] rfl rfl) dX4_takeWord_13
set_option maxHeartbeats 4000000 in
set_option maxRecDepth 100000 in
theorem x_takeSign (l : Launch) (D : va_G) (k : Nat → ClassId) (hr1 : Nat) (tx : Nat) (kw : Nat) (tp : Int) (ln : Int) (pl : Int) (en : Int) (ki : Int) (va : Int) (ke : Int) (fk : Int) (fp : Int) (nm : Int64) (bf : Nat → Int32) (kwf : Nat → Int64) (cu : Int) (w : Int) (hI1 : (0 ≤ tp ∧ tp ≤ 900) ∧ (0 ≤ ln ∧ ln ≤ 900) ∧ (0 ≤ pl ∧ pl ≤ en) ∧ (en ≤ ln) ∧ (0 ≤ ki ∧ ki ≤ 4) ∧ (-2147483648 ≤ va ∧ va < 2147483648) ∧ (-1 ≤ ke ∧ ke ≤ 24)) (hbf : rgI bf (-128) 127 900) (hkw : ∀ j : Nat, j < 25 → kwf j = lZ (kwC j)) (hrx : RDX (tX bf ln) cu pl en ki va ke nm) (hw : -2147483648 ≤ w ∧ w < 2147483648) : WD (σ := ((Nat → Int) × (Nat → Int64) × (Nat → Nat → Int32) × (Nat → Nat → Int64))) l yX4_takeSign cX4_takeSign 2 (some .boolean) 2 0 0 D k [.ref hr1, .int (iZ w)] [(hr1, .inr (4, [.ref tx, .ref kw, .int (iZ tp), .int (iZ ln), .int (iZ pl), .int (iZ en), .int (iZ ki), .int (iZ va), .int (iZ ke), .long nm, .int (iZ fk), .int (iZ fp)])), (tx, .inl (k 0, 900, .inl bf)), (kw, .inl (k 2, 25, .inr (.inl kwf)))] (fun u => some (.int (iZ (u.1 0)))) (fun u => ((0 ≤ tp ∧ tp ≤ 900) ∧ (0 ≤ ln ∧ ln ≤ 900) ∧ (0 ≤ (u.1 1) ∧ (u.1 1) ≤ (u.1 2)) ∧ ((u.1 2) ≤ ln) ∧ (0 ≤ (u.1 3) ∧ (u.1 3) ≤ 4) ∧ (-2147483648 ≤ (u.1 4) ∧ (u.1 4) < 2147483648) ∧ (-1 ≤ (u.1 5) ∧ (u.1 5) ≤ 24)) ∧ ((((u.1 0) : Int) = 1 ∧ ∃ q9 : Int, xTs (tX bf ln) w cu = .inr q9 ∧ cu < q9 ∧ RDX (tX bf ln) q9 (u.1 1) (u.1 2) (u.1 3) (u.1 4) (u.1 5) (u.2.1 1) ∧ (u.1 6) = fk ∧ (u.1 7) = fp) ∨ (((u.1 0) : Int) = 0 ∧ xTs (tX bf ln) w cu = .inl ((u.1 6), (u.1 7))))) (fun u => [(hr1, .inr (4, [.ref tx, .ref kw, .int (iZ tp), .int (iZ ln), .int (iZ (u.1 1)), .int (iZ (u.1 2)), .int (iZ (u.1 3)), .int (iZ (u.1 4)), .int (iZ (u.1 5)), .long (u.2.1 1), .int (iZ (u.1 6)), .int (iZ (u.1 7))])), (tx, .inl (k 0, 900, .inl bf)), (kw, .inl (k 2, 25, .inr (.inl kwf)))]) := by
  refine MW (by decide) (Nat.le_of_ble_eq_true rfl) (fun p e s m below meth c ls A hx hb hml hr hlocks hin hts hown hKK hP hD hS hA hl => ?_)
  have hK := hKK.1
  have hl : lv_has ls 2 [(0, .ref hr1), (1, .int (iZ w))] := hl
  obtain ⟨⟨ar_1, br_1⟩, cr_1, dr_1, er_1, fr_1, gr_1, hr_1⟩ := id hrx
  refine lv_aload_n hx hb dX4_takeSign_0 rfl (lv_at hl 0 rfl) ?_
  refine va_get (D := D) (ci := 4) (v := .int (iZ ki)) (C := RX4) (T := TX4) (N := 12) hx hb hts iX4 hown hK hP 0 rfl rfl 6 (by decide) (hts _ qf_X4_68) (fun _ h => h) rfl dX4_takeSign_1 ?_
  refine lv_iconst (v := iZ 3) hx hb dX4_takeSign_4 (by decide) ?_
  refine lv_icmp_ne (tgt := 16) hx hb dX4_takeSign_5 (by decide) (fun c_2 => ?_) (fun c_2 => ?_)
  ·
    have c_2 := mt (zeq (x := iZ ki) (y := iZ 3) rfl rfl ⟨by omega, by omega⟩ ⟨by omega, by omega⟩).mpr c_2
    refine lv_aload_n hx hb dX4_takeSign_16 rfl (lv_at hl 0 rfl) ?_
    refine lv_iconst (v := iZ 2) hx hb dX4_takeSign_17 (by decide) ?_
    refine CWV (As := [.int (iZ 2)]) (rest := []) (wc := [(hr1, .inr (4, [.ref tx, .ref kw, .int (iZ tp), .int (iZ ln), .int (iZ pl), .int (iZ en), .int (iZ ki), .int (iZ va), .int (iZ ke), .long nm, .int (iZ fk), .int (iZ fp)])), (tx, .inl (k 0, 900, .inl bf)), (kw, .inl (k 2, 25, .inr (.inl kwf)))]) (wr := []) hx hb hml hown hts hKK hP hD hS hA (x_fail l D k hr1 tx kw tp ln pl en ki va ke fk fp nm bf kwf cu 2 ⟨⟨by omega, by omega⟩, ⟨by omega, by omega⟩, ⟨by omega, by omega⟩, by omega, ⟨by omega, by omega⟩, ⟨by omega, by omega⟩, by omega, by omega⟩ hrx) ci_X4_fail qm_X4_80 ⟨Nat.le_of_ble_eq_true rfl, Nat.le_of_ble_eq_true rfl⟩ ⟨Nat.le_of_ble_eq_true rfl, Nat.le_of_ble_eq_true rfl⟩ [0, 1, 2] [] rfl rfl rfl rfl rfl (by decide) 0 rfl rfl rfl hl.1 rfl (Nat.le_of_ble_eq_true rfl) dX4_takeSign_18 (fun u_3 H locs hφ hP hD hS => ?_)
    obtain ⟨I_4, L_5, F_6, G_7⟩ := u_3
    have p_9 : (I_4 1) = xFl (tX bf ln) cu 2 ∧ (I_4 2) = xPl (tX bf ln) cu := hφ
    refine W.eq (g2 := F0 m 21 ls [.int (iZ 0)]) rfl ?_
    exact EWz hx hb hr hlocks hS (fun i => [0, pl, en, ki, va, ke, (I_4 1), (I_4 2)].getD i 0, fun i => [0, nm].getD i 0, fun i => [].getD i (fun _ => 0), fun i => [].getD i (fun _ => 0)) rfl rfl ⟨(show (0 ≤ tp ∧ tp ≤ 900) ∧ (0 ≤ ln ∧ ln ≤ 900) ∧ (0 ≤ pl ∧ pl ≤ en) ∧ (en ≤ ln) ∧ (0 ≤ ki ∧ ki ≤ 4) ∧ (-2147483648 ≤ va ∧ va < 2147483648) ∧ (-1 ≤ ke ∧ ke ≤ 24) from ⟨⟨by omega, by omega⟩, ⟨by omega, by omega⟩, ⟨by omega, by omega⟩, by omega, ⟨by omega, by omega⟩, ⟨by omega, by omega⟩, by omega, by omega⟩), (show ((0 : Int) = 1 ∧ ∃ q9 : Int, xTs (tX bf ln) w cu = .inr q9 ∧ cu < q9 ∧ RDX (tX bf ln) q9 pl en ki va ke nm ∧ (I_4 1) = fk ∧ (I_4 2) = fp) ∨ ((0 : Int) = 0 ∧ xTs (tX bf ln) w cu = .inl ((I_4 1), (I_4 2))) from (Or.inr ⟨rfl, by unfold xTs xEr; rw [if_neg (by omega), p_9.1, p_9.2]⟩))⟩ (hP.sub [0, 1, 2] rfl) (hD.sub [0, 1, 2] rfl rfl) dX4_takeSign_21
  ·
    have c_2 := (zeq (x := iZ ki) (y := iZ 3) rfl rfl ⟨by omega, by omega⟩ ⟨by omega, by omega⟩).mp c_2
    refine lv_aload_n hx hb dX4_takeSign_8 rfl (lv_at hl 0 rfl) ?_
    refine va_get (D := D) (ci := 4) (v := .int (iZ va)) (C := RX4) (T := TX4) (N := 12) hx hb hts iX4 hown hK hP 0 rfl rfl 7 (by decide) (hts _ qf_X4_65) (fun _ h => h) rfl dX4_takeSign_9 ?_
    refine lv_iload_n hx hb dX4_takeSign_12 rfl (lv_at hl 1 rfl) ?_
    refine lv_icmp_eq (tgt := 22) hx hb dX4_takeSign_13 (by decide) (fun c_10 => ?_) (fun c_10 => ?_)
    ·
      have c_10 := (zeq (x := iZ va) (y := iZ w) rfl rfl ⟨by omega, by omega⟩ ⟨by omega, by omega⟩).mp c_10
      refine lv_aload_n hx hb dX4_takeSign_22 rfl (lv_at hl 0 rfl) ?_
      refine CWV (As := []) (rest := []) (wc := [(hr1, .inr (4, [.ref tx, .ref kw, .int (iZ tp), .int (iZ ln), .int (iZ pl), .int (iZ en), .int (iZ ki), .int (iZ va), .int (iZ ke), .long nm, .int (iZ fk), .int (iZ fp)])), (tx, .inl (k 0, 900, .inl bf)), (kw, .inl (k 2, 25, .inr (.inl kwf)))]) (wr := []) hx hb hml hown hts hKK hP hD hS hA (x_next l D k hr1 tx kw tp ln pl en ki va ke fk fp nm bf kwf ⟨⟨by omega, by omega⟩, ⟨by omega, by omega⟩, by omega, by omega⟩ hbf hkw) ci_X4_next qm_X4_50 ⟨Nat.le_of_ble_eq_true rfl, Nat.le_of_ble_eq_true rfl⟩ ⟨Nat.le_of_ble_eq_true rfl, Nat.le_of_ble_eq_true rfl⟩ [0, 1, 2] [] rfl rfl rfl rfl rfl (by decide) 0 rfl rfl rfl hl.1 rfl (Nat.le_of_ble_eq_true rfl) dX4_takeSign_23 (fun u_11 H locs hφ hP hD hS => ?_)
      obtain ⟨I_12, L_13, F_14, G_15⟩ := u_11
      obtain ⟨p_17, p_18⟩ : (RDX (tX bf ln) en (I_12 1) (I_12 2) (I_12 3) (I_12 4) (I_12 5) (L_13 1)) ∧ ((0 ≤ tp ∧ tp ≤ 900) ∧ (0 ≤ ln ∧ ln ≤ 900) ∧ (0 ≤ (I_12 1) ∧ (I_12 1) ≤ (I_12 2)) ∧ ((I_12 2) ≤ ln) ∧ (0 ≤ (I_12 3) ∧ (I_12 3) ≤ 4) ∧ (-2147483648 ≤ (I_12 4) ∧ (I_12 4) < 2147483648) ∧ (-1 ≤ (I_12 5) ∧ (I_12 5) ≤ 24)) := hφ
      have rx_19 := RDX.nx hrx p_17
      obtain ⟨⟨ar_20, br_20⟩, cr_20, dr_20, er_20, fr_20, gr_20, hr_20⟩ := id rx_19
      obtain ⟨t1u_21, t2u_21, t3u_21, t4u_21, t5u_21, t6u_21, t7u_21⟩ := id p_18
      refine W.eq (g2 := F0 m 26 ls []) rfl ?_
      refine lv_iconst (v := iZ 1) hx hb dX4_takeSign_26 (by decide) ?_
      exact EWz hx hb hr hlocks hS (fun i => [1, (I_12 1), (I_12 2), (I_12 3), (I_12 4), (I_12 5), fk, fp].getD i 0, fun i => [0, (L_13 1)].getD i 0, fun i => [].getD i (fun _ => 0), fun i => [].getD i (fun _ => 0)) rfl rfl ⟨(show (0 ≤ tp ∧ tp ≤ 900) ∧ (0 ≤ ln ∧ ln ≤ 900) ∧ (0 ≤ (I_12 1) ∧ (I_12 1) ≤ (I_12 2)) ∧ ((I_12 2) ≤ ln) ∧ (0 ≤ (I_12 3) ∧ (I_12 3) ≤ 4) ∧ (-2147483648 ≤ (I_12 4) ∧ (I_12 4) < 2147483648) ∧ (-1 ≤ (I_12 5) ∧ (I_12 5) ≤ 24) from ⟨⟨by omega, by omega⟩, ⟨by omega, by omega⟩, ⟨by omega, by omega⟩, by omega, ⟨by omega, by omega⟩, ⟨by omega, by omega⟩, by omega, by omega⟩), (show ((1 : Int) = 1 ∧ ∃ q9 : Int, xTs (tX bf ln) w cu = .inr q9 ∧ cu < q9 ∧ RDX (tX bf ln) q9 (I_12 1) (I_12 2) (I_12 3) (I_12 4) (I_12 5) (L_13 1) ∧ fk = fk ∧ fp = fp) ∨ ((1 : Int) = 0 ∧ xTs (tX bf ln) w cu = .inl (fk, fp)) from (Or.inl ⟨rfl, xEn (tX bf ln) cu, by unfold xTs; rw [if_pos ⟨by omega, by omega⟩], by omega, rx_19, rfl, rfl⟩))⟩ (hP.sub [0, 1, 2] rfl) (hD.sub [0, 1, 2] rfl rfl) dX4_takeSign_27
    ·
      have c_10 := mt (zeq (x := iZ va) (y := iZ w) rfl rfl ⟨by omega, by omega⟩ ⟨by omega, by omega⟩).mpr c_10
      refine lv_aload_n hx hb dX4_takeSign_16 rfl (lv_at hl 0 rfl) ?_
      refine lv_iconst (v := iZ 2) hx hb dX4_takeSign_17 (by decide) ?_
      refine CWV (As := [.int (iZ 2)]) (rest := []) (wc := [(hr1, .inr (4, [.ref tx, .ref kw, .int (iZ tp), .int (iZ ln), .int (iZ pl), .int (iZ en), .int (iZ ki), .int (iZ va), .int (iZ ke), .long nm, .int (iZ fk), .int (iZ fp)])), (tx, .inl (k 0, 900, .inl bf)), (kw, .inl (k 2, 25, .inr (.inl kwf)))]) (wr := []) hx hb hml hown hts hKK hP hD hS hA (x_fail l D k hr1 tx kw tp ln pl en ki va ke fk fp nm bf kwf cu 2 ⟨⟨by omega, by omega⟩, ⟨by omega, by omega⟩, ⟨by omega, by omega⟩, by omega, ⟨by omega, by omega⟩, ⟨by omega, by omega⟩, by omega, by omega⟩ hrx) ci_X4_fail qm_X4_80 ⟨Nat.le_of_ble_eq_true rfl, Nat.le_of_ble_eq_true rfl⟩ ⟨Nat.le_of_ble_eq_true rfl, Nat.le_of_ble_eq_true rfl⟩ [0, 1, 2] [] rfl rfl rfl rfl rfl (by decide) 0 rfl rfl rfl hl.1 rfl (Nat.le_of_ble_eq_true rfl) dX4_takeSign_18 (fun u_22 H locs hφ hP hD hS => ?_)
      obtain ⟨I_23, L_24, F_25, G_26⟩ := u_22
      have p_28 : (I_23 1) = xFl (tX bf ln) cu 2 ∧ (I_23 2) = xPl (tX bf ln) cu := hφ
      refine W.eq (g2 := F0 m 21 ls [.int (iZ 0)]) rfl ?_
      exact EWz hx hb hr hlocks hS (fun i => [0, pl, en, ki, va, ke, (I_23 1), (I_23 2)].getD i 0, fun i => [0, nm].getD i 0, fun i => [].getD i (fun _ => 0), fun i => [].getD i (fun _ => 0)) rfl rfl ⟨(show (0 ≤ tp ∧ tp ≤ 900) ∧ (0 ≤ ln ∧ ln ≤ 900) ∧ (0 ≤ pl ∧ pl ≤ en) ∧ (en ≤ ln) ∧ (0 ≤ ki ∧ ki ≤ 4) ∧ (-2147483648 ≤ va ∧ va < 2147483648) ∧ (-1 ≤ ke ∧ ke ≤ 24) from ⟨⟨by omega, by omega⟩, ⟨by omega, by omega⟩, ⟨by omega, by omega⟩, by omega, ⟨by omega, by omega⟩, ⟨by omega, by omega⟩, by omega, by omega⟩), (show ((0 : Int) = 1 ∧ ∃ q9 : Int, xTs (tX bf ln) w cu = .inr q9 ∧ cu < q9 ∧ RDX (tX bf ln) q9 pl en ki va ke nm ∧ (I_23 1) = fk ∧ (I_23 2) = fp) ∨ ((0 : Int) = 0 ∧ xTs (tX bf ln) w cu = .inl ((I_23 1), (I_23 2))) from (Or.inr ⟨rfl, by unfold xTs xEr; rw [if_neg (by omega), p_28.1, p_28.2]⟩))⟩ (hP.sub [0, 1, 2] rfl) (hD.sub [0, 1, 2] rfl rfl) dX4_takeSign_21
set_option maxHeartbeats 4000000 in
set_option maxRecDepth 100000 in
theorem x_takeNumber (l : Launch) (D : va_G) (k : Nat → ClassId) (hr1 : Nat) (tx : Nat) (kw : Nat) (tp : Int) (ln : Int) (pl : Int) (en : Int) (ki : Int) (va : Int) (ke : Int) (fk : Int) (fp : Int) (nm : Int64) (bf : Nat → Int32) (kwf : Nat → Int64) (cu : Int) (w : Int) (x : Int) (hI1 : (0 ≤ tp ∧ tp ≤ 900) ∧ (0 ≤ ln ∧ ln ≤ 900) ∧ (0 ≤ pl ∧ pl ≤ en) ∧ (en ≤ ln) ∧ (0 ≤ ki ∧ ki ≤ 4) ∧ (-2147483648 ≤ va ∧ va < 2147483648) ∧ (-1 ≤ ke ∧ ke ≤ 24)) (hbf : rgI bf (-128) 127 900) (hkw : ∀ j : Nat, j < 25 → kwf j = lZ (kwC j)) (hrx : RDX (tX bf ln) cu pl en ki va ke nm) (hw : 0 ≤ w ∧ w ≤ 100000) (hx9 : -2147483648 ≤ x ∧ x < 2147483648) : WD (σ := ((Nat → Int) × (Nat → Int64) × (Nat → Nat → Int32) × (Nat → Nat → Int64))) l yX4_takeNumber cX4_takeNumber 4 (some .int) 2 0 0 D k [.ref hr1, .int (iZ w), .int (iZ x)] [(hr1, .inr (4, [.ref tx, .ref kw, .int (iZ tp), .int (iZ ln), .int (iZ pl), .int (iZ en), .int (iZ ki), .int (iZ va), .int (iZ ke), .long nm, .int (iZ fk), .int (iZ fp)])), (tx, .inl (k 0, 900, .inl bf)), (kw, .inl (k 2, 25, .inr (.inl kwf)))] (fun u => some (.int (iZ (u.1 0)))) (fun u => ((0 ≤ tp ∧ tp ≤ 900) ∧ (0 ≤ ln ∧ ln ≤ 900) ∧ (0 ≤ (u.1 1) ∧ (u.1 1) ≤ (u.1 2)) ∧ ((u.1 2) ≤ ln) ∧ (0 ≤ (u.1 3) ∧ (u.1 3) ≤ 4) ∧ (-2147483648 ≤ (u.1 4) ∧ (u.1 4) < 2147483648) ∧ (-1 ≤ (u.1 5) ∧ (u.1 5) ≤ 24)) ∧ ((¬ ((u.1 0) : Int) = -1 ∧ ∃ q9 : Int, xTn (tX bf ln) w x cu = .inr (q9, (u.1 0)) ∧ cu < q9 ∧ RDX (tX bf ln) q9 (u.1 1) (u.1 2) (u.1 3) (u.1 4) (u.1 5) (u.2.1 1) ∧ (w ≤ (u.1 0) ∧ (u.1 0) ≤ x) ∧ (u.1 6) = fk ∧ (u.1 7) = fp) ∨ (((u.1 0) : Int) = -1 ∧ xTn (tX bf ln) w x cu = .inl ((u.1 6), (u.1 7))))) (fun u => [(hr1, .inr (4, [.ref tx, .ref kw, .int (iZ tp), .int (iZ ln), .int (iZ (u.1 1)), .int (iZ (u.1 2)), .int (iZ (u.1 3)), .int (iZ (u.1 4)), .int (iZ (u.1 5)), .long (u.2.1 1), .int (iZ (u.1 6)), .int (iZ (u.1 7))])), (tx, .inl (k 0, 900, .inl bf)), (kw, .inl (k 2, 25, .inr (.inl kwf)))]) := by
  refine MW (by decide) (Nat.le_of_ble_eq_true rfl) (fun p e s m below meth c ls A hx hb hml hr hlocks hin hts hown hKK hP hD hS hA hl => ?_)
  have hK := hKK.1
  have hl : lv_has ls 4 [(0, .ref hr1), (1, .int (iZ w)), (2, .int (iZ x))] := hl
  obtain ⟨⟨ar_1, br_1⟩, cr_1, dr_1, er_1, fr_1, gr_1, hr_1⟩ := id hrx
  refine lv_aload_n hx hb dX4_takeNumber_0 rfl (lv_at hl 0 rfl) ?_
  refine va_get (D := D) (ci := 4) (v := .int (iZ va)) (C := RX4) (T := TX4) (N := 12) hx hb hts iX4 hown hK hP 0 rfl rfl 7 (by decide) (hts _ qf_X4_65) (fun _ h => h) rfl dX4_takeNumber_1 ?_
  refine lv_istore_n (lv' := [(3, .int (iZ va)), (0, .ref hr1), (1, .int (iZ w)), (2, .int (iZ x))]) hx hb dX4_takeNumber_4 rfl hl (by decide) rfl (fun ls hl => ?_)
  refine lv_aload_n hx hb dX4_takeNumber_5 rfl (lv_at hl 1 rfl) ?_
  refine va_get (D := D) (ci := 4) (v := .int (iZ ki)) (C := RX4) (T := TX4) (N := 12) hx hb hts iX4 hown hK hP 0 rfl rfl 6 (by decide) (hts _ qf_X4_68) (fun _ h => h) rfl dX4_takeNumber_6 ?_
  refine lv_iconst (v := iZ 2) hx hb dX4_takeNumber_9 (by decide) ?_
  refine lv_icmp_ne (tgt := 23) hx hb dX4_takeNumber_10 (by decide) (fun c_2 => ?_) (fun c_2 => ?_)
  ·
    have c_2 := mt (zeq (x := iZ ki) (y := iZ 2) rfl rfl ⟨by omega, by omega⟩ ⟨by omega, by omega⟩).mpr c_2
    refine lv_aload_n hx hb dX4_takeNumber_23 rfl (lv_at hl 1 rfl) ?_
    refine lv_aload_n hx hb dX4_takeNumber_24 rfl (lv_at hl 1 rfl) ?_
    refine va_get (D := D) (ci := 4) (v := .int (iZ ki)) (C := RX4) (T := TX4) (N := 12) hx hb hts iX4 hown hK hP 0 rfl rfl 6 (by decide) (hts _ qf_X4_68) (fun _ h => h) rfl dX4_takeNumber_25 ?_
    refine lv_iconst (v := iZ 2) hx hb dX4_takeNumber_28 (by decide) ?_
    refine lv_icmp_ne (tgt := 36) hx hb dX4_takeNumber_29 (by decide) (fun c_3 => ?_) (fun c_3 => ?_)
    ·
      have c_3 := mt (zeq (x := iZ ki) (y := iZ 2) rfl rfl ⟨by omega, by omega⟩ ⟨by omega, by omega⟩).mpr c_3
      refine lv_iconst (v := iZ 2) hx hb dX4_takeNumber_36 (by decide) ?_
      refine CWV (As := [.int (iZ 2)]) (rest := []) (wc := [(hr1, .inr (4, [.ref tx, .ref kw, .int (iZ tp), .int (iZ ln), .int (iZ pl), .int (iZ en), .int (iZ ki), .int (iZ va), .int (iZ ke), .long nm, .int (iZ fk), .int (iZ fp)])), (tx, .inl (k 0, 900, .inl bf)), (kw, .inl (k 2, 25, .inr (.inl kwf)))]) (wr := []) hx hb hml hown hts hKK hP hD hS hA (x_fail l D k hr1 tx kw tp ln pl en ki va ke fk fp nm bf kwf cu 2 ⟨⟨by omega, by omega⟩, ⟨by omega, by omega⟩, ⟨by omega, by omega⟩, by omega, ⟨by omega, by omega⟩, ⟨by omega, by omega⟩, by omega, by omega⟩ hrx) ci_X4_fail qm_X4_80 ⟨Nat.le_of_ble_eq_true rfl, Nat.le_of_ble_eq_true rfl⟩ ⟨Nat.le_of_ble_eq_true rfl, Nat.le_of_ble_eq_true rfl⟩ [0, 1, 2] [] rfl rfl rfl rfl rfl (by decide) 0 rfl rfl rfl hl.1 rfl (Nat.le_of_ble_eq_true rfl) dX4_takeNumber_37 (fun u_4 H locs hφ hP hD hS => ?_)
      obtain ⟨I_5, L_6, F_7, G_8⟩ := u_4
      have p_10 : (I_5 1) = xFl (tX bf ln) cu 2 ∧ (I_5 2) = xPl (tX bf ln) cu := hφ
      refine W.eq (g2 := F0 m 40 ls [.int (iZ 0)]) rfl ?_
      refine lv_pop hx hb dX4_takeNumber_40 rfl ?_
      refine lv_iconst (v := iZ (-1)) hx hb dX4_takeNumber_41 (by decide) ?_
      exact EWi hx hb hr hlocks hS (fun i => [(-1), pl, en, ki, va, ke, (I_5 1), (I_5 2)].getD i 0, fun i => [0, nm].getD i 0, fun i => [].getD i (fun _ => 0), fun i => [].getD i (fun _ => 0)) rfl ⟨(show (0 ≤ tp ∧ tp ≤ 900) ∧ (0 ≤ ln ∧ ln ≤ 900) ∧ (0 ≤ pl ∧ pl ≤ en) ∧ (en ≤ ln) ∧ (0 ≤ ki ∧ ki ≤ 4) ∧ (-2147483648 ≤ va ∧ va < 2147483648) ∧ (-1 ≤ ke ∧ ke ≤ 24) from ⟨⟨by omega, by omega⟩, ⟨by omega, by omega⟩, ⟨by omega, by omega⟩, by omega, ⟨by omega, by omega⟩, ⟨by omega, by omega⟩, by omega, by omega⟩), (show (¬ ((-1) : Int) = -1 ∧ ∃ q9 : Int, xTn (tX bf ln) w x cu = .inr (q9, (-1)) ∧ cu < q9 ∧ RDX (tX bf ln) q9 pl en ki va ke nm ∧ (w ≤ (-1) ∧ (-1) ≤ x) ∧ (I_5 1) = fk ∧ (I_5 2) = fp) ∨ (((-1) : Int) = -1 ∧ xTn (tX bf ln) w x cu = .inl ((I_5 1), (I_5 2))) from (Or.inr ⟨rfl, by unfold xTn xEr; rw [if_neg (by omega)]; first | (rw [if_pos (show xKd (tX bf ln) cu = 2 from (by omega)), p_10.1, p_10.2]; done) | (rw [if_neg (show ¬ xKd (tX bf ln) cu = 2 from (by omega)), p_10.1, p_10.2]; done)⟩))⟩ (hP.sub [0, 1, 2] rfl) (hD.sub [0, 1, 2] rfl rfl) dX4_takeNumber_42
    ·
      have c_3 := (zeq (x := iZ ki) (y := iZ 2) rfl rfl ⟨by omega, by omega⟩ ⟨by omega, by omega⟩).mp c_3
      exact absurd c_3 (by omega)
  ·
    have c_2 := (zeq (x := iZ ki) (y := iZ 2) rfl rfl ⟨by omega, by omega⟩ ⟨by omega, by omega⟩).mp c_2
    refine lv_iload_n hx hb dX4_takeNumber_13 rfl (lv_at hl 0 rfl) ?_
    refine lv_iload_n hx hb dX4_takeNumber_14 rfl (lv_at hl 2 rfl) ?_
    refine lv_icmp_lt (tgt := 23) hx hb dX4_takeNumber_15 (by decide) (fun c_11 => ?_) (fun c_11 => ?_)
    ·
      have c_11 := (zlt (x := iZ va) (y := iZ w) rfl rfl ⟨by omega, by omega⟩ ⟨by omega, by omega⟩).mp c_11
      refine lv_aload_n hx hb dX4_takeNumber_23 rfl (lv_at hl 1 rfl) ?_
      refine lv_aload_n hx hb dX4_takeNumber_24 rfl (lv_at hl 1 rfl) ?_
      refine va_get (D := D) (ci := 4) (v := .int (iZ ki)) (C := RX4) (T := TX4) (N := 12) hx hb hts iX4 hown hK hP 0 rfl rfl 6 (by decide) (hts _ qf_X4_68) (fun _ h => h) rfl dX4_takeNumber_25 ?_
      refine lv_iconst (v := iZ 2) hx hb dX4_takeNumber_28 (by decide) ?_
      refine lv_icmp_ne (tgt := 36) hx hb dX4_takeNumber_29 (by decide) (fun c_12 => ?_) (fun c_12 => ?_)
      ·
        have c_12 := mt (zeq (x := iZ ki) (y := iZ 2) rfl rfl ⟨by omega, by omega⟩ ⟨by omega, by omega⟩).mpr c_12
        exact absurd c_12 (by omega)
      ·
        have c_12 := (zeq (x := iZ ki) (y := iZ 2) rfl rfl ⟨by omega, by omega⟩ ⟨by omega, by omega⟩).mp c_12
        refine lv_iconst (v := iZ 4) hx hb dX4_takeNumber_32 (by decide) ?_
        refine lv_goto (tgt := 37) hx hb dX4_takeNumber_33 (by decide) ?_
        refine CWV (As := [.int (iZ 4)]) (rest := []) (wc := [(hr1, .inr (4, [.ref tx, .ref kw, .int (iZ tp), .int (iZ ln), .int (iZ pl), .int (iZ en), .int (iZ ki), .int (iZ va), .int (iZ ke), .long nm, .int (iZ fk), .int (iZ fp)])), (tx, .inl (k 0, 900, .inl bf)), (kw, .inl (k 2, 25, .inr (.inl kwf)))]) (wr := []) hx hb hml hown hts hKK hP hD hS hA (x_fail l D k hr1 tx kw tp ln pl en ki va ke fk fp nm bf kwf cu 4 ⟨⟨by omega, by omega⟩, ⟨by omega, by omega⟩, ⟨by omega, by omega⟩, by omega, ⟨by omega, by omega⟩, ⟨by omega, by omega⟩, by omega, by omega⟩ hrx) ci_X4_fail qm_X4_80 ⟨Nat.le_of_ble_eq_true rfl, Nat.le_of_ble_eq_true rfl⟩ ⟨Nat.le_of_ble_eq_true rfl, Nat.le_of_ble_eq_true rfl⟩ [0, 1, 2] [] rfl rfl rfl rfl rfl (by decide) 0 rfl rfl rfl hl.1 rfl (Nat.le_of_ble_eq_true rfl) dX4_takeNumber_37 (fun u_13 H locs hφ hP hD hS => ?_)
        obtain ⟨I_14, L_15, F_16, G_17⟩ := u_13
        have p_19 : (I_14 1) = xFl (tX bf ln) cu 4 ∧ (I_14 2) = xPl (tX bf ln) cu := hφ
        refine W.eq (g2 := F0 m 40 ls [.int (iZ 0)]) rfl ?_
        refine lv_pop hx hb dX4_takeNumber_40 rfl ?_
        refine lv_iconst (v := iZ (-1)) hx hb dX4_takeNumber_41 (by decide) ?_
        exact EWi hx hb hr hlocks hS (fun i => [(-1), pl, en, ki, va, ke, (I_14 1), (I_14 2)].getD i 0, fun i => [0, nm].getD i 0, fun i => [].getD i (fun _ => 0), fun i => [].getD i (fun _ => 0)) rfl ⟨(show (0 ≤ tp ∧ tp ≤ 900) ∧ (0 ≤ ln ∧ ln ≤ 900) ∧ (0 ≤ pl ∧ pl ≤ en) ∧ (en ≤ ln) ∧ (0 ≤ ki ∧ ki ≤ 4) ∧ (-2147483648 ≤ va ∧ va < 2147483648) ∧ (-1 ≤ ke ∧ ke ≤ 24) from ⟨⟨by omega, by omega⟩, ⟨by omega, by omega⟩, ⟨by omega, by omega⟩, by omega, ⟨by omega, by omega⟩, ⟨by omega, by omega⟩, by omega, by omega⟩), (show (¬ ((-1) : Int) = -1 ∧ ∃ q9 : Int, xTn (tX bf ln) w x cu = .inr (q9, (-1)) ∧ cu < q9 ∧ RDX (tX bf ln) q9 pl en ki va ke nm ∧ (w ≤ (-1) ∧ (-1) ≤ x) ∧ (I_14 1) = fk ∧ (I_14 2) = fp) ∨ (((-1) : Int) = -1 ∧ xTn (tX bf ln) w x cu = .inl ((I_14 1), (I_14 2))) from (Or.inr ⟨rfl, by unfold xTn xEr; rw [if_neg (by omega)]; first | (rw [if_pos (show xKd (tX bf ln) cu = 2 from (by omega)), p_19.1, p_19.2]; done) | (rw [if_neg (show ¬ xKd (tX bf ln) cu = 2 from (by omega)), p_19.1, p_19.2]; done)⟩))⟩ (hP.sub [0, 1, 2] rfl) (hD.sub [0, 1, 2] rfl rfl) dX4_takeNumber_42
    ·
      have c_11 := mt (zlt (x := iZ va) (y := iZ w) rfl rfl ⟨by omega, by omega⟩ ⟨by omega, by omega⟩).mpr c_11
      refine lv_iload_n hx hb dX4_takeNumber_18 rfl (lv_at hl 0 rfl) ?_
      refine lv_iload_n hx hb dX4_takeNumber_19 rfl (lv_at hl 3 rfl) ?_
      refine lv_icmp_le (tgt := 43) hx hb dX4_takeNumber_20 (by decide) (fun c_20 => ?_) (fun c_20 => ?_)
      ·
        have c_20 := (zle (x := iZ va) (y := iZ x) rfl rfl ⟨by omega, by omega⟩ ⟨by omega, by omega⟩).mp c_20
        refine lv_aload_n hx hb dX4_takeNumber_43 rfl (lv_at hl 1 rfl) ?_
        refine CWV (As := []) (rest := []) (wc := [(hr1, .inr (4, [.ref tx, .ref kw, .int (iZ tp), .int (iZ ln), .int (iZ pl), .int (iZ en), .int (iZ ki), .int (iZ va), .int (iZ ke), .long nm, .int (iZ fk), .int (iZ fp)])), (tx, .inl (k 0, 900, .inl bf)), (kw, .inl (k 2, 25, .inr (.inl kwf)))]) (wr := []) hx hb hml hown hts hKK hP hD hS hA (x_next l D k hr1 tx kw tp ln pl en ki va ke fk fp nm bf kwf ⟨⟨by omega, by omega⟩, ⟨by omega, by omega⟩, by omega, by omega⟩ hbf hkw) ci_X4_next qm_X4_50 ⟨Nat.le_of_ble_eq_true rfl, Nat.le_of_ble_eq_true rfl⟩ ⟨Nat.le_of_ble_eq_true rfl, Nat.le_of_ble_eq_true rfl⟩ [0, 1, 2] [] rfl rfl rfl rfl rfl (by decide) 0 rfl rfl rfl hl.1 rfl (Nat.le_of_ble_eq_true rfl) dX4_takeNumber_44 (fun u_21 H locs hφ hP hD hS => ?_)
        obtain ⟨I_22, L_23, F_24, G_25⟩ := u_21
        obtain ⟨p_27, p_28⟩ : (RDX (tX bf ln) en (I_22 1) (I_22 2) (I_22 3) (I_22 4) (I_22 5) (L_23 1)) ∧ ((0 ≤ tp ∧ tp ≤ 900) ∧ (0 ≤ ln ∧ ln ≤ 900) ∧ (0 ≤ (I_22 1) ∧ (I_22 1) ≤ (I_22 2)) ∧ ((I_22 2) ≤ ln) ∧ (0 ≤ (I_22 3) ∧ (I_22 3) ≤ 4) ∧ (-2147483648 ≤ (I_22 4) ∧ (I_22 4) < 2147483648) ∧ (-1 ≤ (I_22 5) ∧ (I_22 5) ≤ 24)) := hφ
        have rx_29 := RDX.nx hrx p_27
        obtain ⟨⟨ar_30, br_30⟩, cr_30, dr_30, er_30, fr_30, gr_30, hr_30⟩ := id rx_29
        obtain ⟨t1u_31, t2u_31, t3u_31, t4u_31, t5u_31, t6u_31, t7u_31⟩ := id p_28
        refine W.eq (g2 := F0 m 47 ls []) rfl ?_
        refine lv_iload_n hx hb dX4_takeNumber_47 rfl (lv_at hl 0 rfl) ?_
        exact EWi hx hb hr hlocks hS (fun i => [va, (I_22 1), (I_22 2), (I_22 3), (I_22 4), (I_22 5), fk, fp].getD i 0, fun i => [0, (L_23 1)].getD i 0, fun i => [].getD i (fun _ => 0), fun i => [].getD i (fun _ => 0)) rfl ⟨(show (0 ≤ tp ∧ tp ≤ 900) ∧ (0 ≤ ln ∧ ln ≤ 900) ∧ (0 ≤ (I_22 1) ∧ (I_22 1) ≤ (I_22 2)) ∧ ((I_22 2) ≤ ln) ∧ (0 ≤ (I_22 3) ∧ (I_22 3) ≤ 4) ∧ (-2147483648 ≤ (I_22 4) ∧ (I_22 4) < 2147483648) ∧ (-1 ≤ (I_22 5) ∧ (I_22 5) ≤ 24) from ⟨⟨by omega, by omega⟩, ⟨by omega, by omega⟩, ⟨by omega, by omega⟩, by omega, ⟨by omega, by omega⟩, ⟨by omega, by omega⟩, by omega, by omega⟩), (show (¬ (va : Int) = -1 ∧ ∃ q9 : Int, xTn (tX bf ln) w x cu = .inr (q9, va) ∧ cu < q9 ∧ RDX (tX bf ln) q9 (I_22 1) (I_22 2) (I_22 3) (I_22 4) (I_22 5) (L_23 1) ∧ (w ≤ va ∧ va ≤ x) ∧ fk = fk ∧ fp = fp) ∨ ((va : Int) = -1 ∧ xTn (tX bf ln) w x cu = .inl (fk, fp)) from (Or.inl ⟨by omega, xEn (tX bf ln) cu, by unfold xTn; rw [if_pos ⟨by omega, by omega, by omega⟩, show xVl (tX bf ln) cu = va from (by omega)], by omega, rx_29, ⟨by omega, by omega⟩, rfl, rfl⟩))⟩ (hP.sub [0, 1, 2] rfl) (hD.sub [0, 1, 2] rfl rfl) dX4_takeNumber_48
      ·
        have c_20 := mt (zle (x := iZ va) (y := iZ x) rfl rfl ⟨by omega, by omega⟩ ⟨by omega, by omega⟩).mpr c_20
        refine lv_aload_n hx hb dX4_takeNumber_23 rfl (lv_at hl 1 rfl) ?_
        refine lv_aload_n hx hb dX4_takeNumber_24 rfl (lv_at hl 1 rfl) ?_
        refine va_get (D := D) (ci := 4) (v := .int (iZ ki)) (C := RX4) (T := TX4) (N := 12) hx hb hts iX4 hown hK hP 0 rfl rfl 6 (by decide) (hts _ qf_X4_68) (fun _ h => h) rfl dX4_takeNumber_25 ?_
        refine lv_iconst (v := iZ 2) hx hb dX4_takeNumber_28 (by decide) ?_
        refine lv_icmp_ne (tgt := 36) hx hb dX4_takeNumber_29 (by decide) (fun c_32 => ?_) (fun c_32 => ?_)
        ·
          have c_32 := mt (zeq (x := iZ ki) (y := iZ 2) rfl rfl ⟨by omega, by omega⟩ ⟨by omega, by omega⟩).mpr c_32
          exact absurd c_32 (by omega)
        ·
          have c_32 := (zeq (x := iZ ki) (y := iZ 2) rfl rfl ⟨by omega, by omega⟩ ⟨by omega, by omega⟩).mp c_32
          refine lv_iconst (v := iZ 4) hx hb dX4_takeNumber_32 (by decide) ?_
          refine lv_goto (tgt := 37) hx hb dX4_takeNumber_33 (by decide) ?_
          refine CWV (As := [.int (iZ 4)]) (rest := []) (wc := [(hr1, .inr (4, [.ref tx, .ref kw, .int (iZ tp), .int (iZ ln), .int (iZ pl), .int (iZ en), .int (iZ ki), .int (iZ va), .int (iZ ke), .long nm, .int (iZ fk), .int (iZ fp)])), (tx, .inl (k 0, 900, .inl bf)), (kw, .inl (k 2, 25, .inr (.inl kwf)))]) (wr := []) hx hb hml hown hts hKK hP hD hS hA (x_fail l D k hr1 tx kw tp ln pl en ki va ke fk fp nm bf kwf cu 4 ⟨⟨by omega, by omega⟩, ⟨by omega, by omega⟩, ⟨by omega, by omega⟩, by omega, ⟨by omega, by omega⟩, ⟨by omega, by omega⟩, by omega, by omega⟩ hrx) ci_X4_fail qm_X4_80 ⟨Nat.le_of_ble_eq_true rfl, Nat.le_of_ble_eq_true rfl⟩ ⟨Nat.le_of_ble_eq_true rfl, Nat.le_of_ble_eq_true rfl⟩ [0, 1, 2] [] rfl rfl rfl rfl rfl (by decide) 0 rfl rfl rfl hl.1 rfl (Nat.le_of_ble_eq_true rfl) dX4_takeNumber_37 (fun u_33 H locs hφ hP hD hS => ?_)
          obtain ⟨I_34, L_35, F_36, G_37⟩ := u_33
          have p_39 : (I_34 1) = xFl (tX bf ln) cu 4 ∧ (I_34 2) = xPl (tX bf ln) cu := hφ
          refine W.eq (g2 := F0 m 40 ls [.int (iZ 0)]) rfl ?_
          refine lv_pop hx hb dX4_takeNumber_40 rfl ?_
          refine lv_iconst (v := iZ (-1)) hx hb dX4_takeNumber_41 (by decide) ?_
          exact EWi hx hb hr hlocks hS (fun i => [(-1), pl, en, ki, va, ke, (I_34 1), (I_34 2)].getD i 0, fun i => [0, nm].getD i 0, fun i => [].getD i (fun _ => 0), fun i => [].getD i (fun _ => 0)) rfl ⟨(show (0 ≤ tp ∧ tp ≤ 900) ∧ (0 ≤ ln ∧ ln ≤ 900) ∧ (0 ≤ pl ∧ pl ≤ en) ∧ (en ≤ ln) ∧ (0 ≤ ki ∧ ki ≤ 4) ∧ (-2147483648 ≤ va ∧ va < 2147483648) ∧ (-1 ≤ ke ∧ ke ≤ 24) from ⟨⟨by omega, by omega⟩, ⟨by omega, by omega⟩, ⟨by omega, by omega⟩, by omega, ⟨by omega, by omega⟩, ⟨by omega, by omega⟩, by omega, by omega⟩), (show (¬ ((-1) : Int) = -1 ∧ ∃ q9 : Int, xTn (tX bf ln) w x cu = .inr (q9, (-1)) ∧ cu < q9 ∧ RDX (tX bf ln) q9 pl en ki va ke nm ∧ (w ≤ (-1) ∧ (-1) ≤ x) ∧ (I_34 1) = fk ∧ (I_34 2) = fp) ∨ (((-1) : Int) = -1 ∧ xTn (tX bf ln) w x cu = .inl ((I_34 1), (I_34 2))) from (Or.inr ⟨rfl, by unfold xTn xEr; rw [if_neg (by omega)]; first | (rw [if_pos (show xKd (tX bf ln) cu = 2 from (by omega)), p_39.1, p_39.2]; done) | (rw [if_neg (show ¬ xKd (tX bf ln) cu = 2 from (by omega)), p_39.1, p_39.2]; done)⟩))⟩ (hP.sub [0, 1, 2] rfl) (hD.sub [0, 1, 2] rfl rfl) dX4_takeNumber_42
set_option maxHeartbeats 4000000 in
set_option maxRecDepth 100000 in
theorem x_isName (l : Launch) (D : va_G) (k : Nat → ClassId) (hr1 : Nat) (tx : Nat) (kw : Nat) (tp : Int) (ln : Int) (pl : Int) (en : Int) (ki : Int) (va : Int) (ke : Int) (fk : Int) (fp : Int) (nm : Int64) (bf : Nat → Int32) (cu : Int) (hI1 : (0 ≤ tp ∧ tp ≤ 900) ∧ (0 ≤ ln ∧ ln ≤ 900) ∧ (0 ≤ pl ∧ pl ≤ en) ∧ (en ≤ ln) ∧ (0 ≤ ki ∧ ki ≤ 4) ∧ (-2147483648 ≤ va ∧ va < 2147483648) ∧ (-1 ≤ ke ∧ ke ≤ 24)) (hrx : RDX (tX bf ln) cu pl en ki va ke nm) : RP l yX4_isName cX4_isName 1 (some .boolean) 0 D k [.ref hr1] [(hr1, .inr (4, [.ref tx, .ref kw, .int (iZ tp), .int (iZ ln), .int (iZ pl), .int (iZ en), .int (iZ ki), .int (iZ va), .int (iZ ke), .long nm, .int (iZ fk), .int (iZ fp)])), (tx, .inl (k 0, 900, .inl bf))] (fun z => ((z : Int) = 1 ∧ xIn (tX bf ln) cu) ∨ ((z : Int) = 0 ∧ ¬ xIn (tX bf ln) cu)) := by
  refine MRP (by decide) (Nat.le_of_ble_eq_true rfl) (fun p e s m below meth c ls hx hb hml hr hlocks hts hown hKK hP hl => ?_)
  have hK := hKK.1
  have hl : lv_has ls 1 [(0, .ref hr1)] := hl
  obtain ⟨⟨ar_1, br_1⟩, cr_1, dr_1, er_1, fr_1, gr_1, hr_1⟩ := id hrx
  refine lv_aload_n hx hb dX4_isName_0 rfl (lv_at hl 0 rfl) ?_
  refine va_get (D := D) (ci := 4) (v := .int (iZ ki)) (C := RX4) (T := TX4) (N := 12) hx hb hts iX4 hown hK hP 0 rfl rfl 6 (by decide) (hts _ qf_X4_68) (fun _ h => h) rfl dX4_isName_1 ?_
  refine lv_iconst (v := iZ 1) hx hb dX4_isName_4 (by decide) ?_
  refine lv_icmp_ne (tgt := 31) hx hb dX4_isName_5 (by decide) (fun c_2 => ?_) (fun c_2 => ?_)
  ·
    have c_2 := mt (zeq (x := iZ ki) (y := iZ 1) rfl rfl ⟨by omega, by omega⟩ ⟨by omega, by omega⟩).mpr c_2
    refine lv_iconst (v := iZ 0) hx hb dX4_isName_31 (by decide) ?_
    exact EPz hx hb hr hlocks (by omega) (Or.inr ⟨rfl, fun h9 => absurd h9.1 (by omega)⟩) dX4_isName_32
  ·
    have c_2 := (zeq (x := iZ ki) (y := iZ 1) rfl rfl ⟨by omega, by omega⟩ ⟨by omega, by omega⟩).mp c_2
    refine lv_aload_n hx hb dX4_isName_8 rfl (lv_at hl 0 rfl) ?_
    refine va_get (D := D) (ci := 4) (v := .int (iZ ke)) (C := RX4) (T := TX4) (N := 12) hx hb hts iX4 hown hK hP 0 rfl rfl 8 (by decide) (hts _ qf_X4_56) (fun _ h => h) rfl dX4_isName_9 ?_
    refine lv_iconst (v := iZ (-1)) hx hb dX4_isName_12 (by decide) ?_
    refine lv_icmp_ne (tgt := 31) hx hb dX4_isName_13 (by decide) (fun c_3 => ?_) (fun c_3 => ?_)
    ·
      have c_3 := mt (zeq (x := iZ ke) (y := iZ (-1)) rfl rfl ⟨by omega, by omega⟩ ⟨by omega, by omega⟩).mpr c_3
      refine lv_iconst (v := iZ 0) hx hb dX4_isName_31 (by decide) ?_
      exact EPz hx hb hr hlocks (by omega) (Or.inr ⟨rfl, fun h9 => absurd h9.2.1 (by omega)⟩) dX4_isName_32
    ·
      have c_3 := (zeq (x := iZ ke) (y := iZ (-1)) rfl rfl ⟨by omega, by omega⟩ ⟨by omega, by omega⟩).mp c_3
      refine lv_aload_n hx hb dX4_isName_16 rfl (lv_at hl 0 rfl) ?_
      refine va_get (D := D) (ci := 4) (v := .long nm) (C := RX4) (T := TX4) (N := 12) hx hb hts iX4 hown hK hP 0 rfl rfl 9 (by decide) (hts _ qf_X4_61) (fun _ h => h) rfl dX4_isName_17 ?_
      refine lv_ldc2 (own := RX4) (v := (-1)) hx hb hown (hts _ qk_X4_59) dX4_isName_20 ?_
      refine W.lcmp hx hb dX4_isName_23 ?_
      refine lv_if_eq (tgt := 31) hx hb dX4_isName_24 (by decide) (fun c_4 => ?_) (fun c_4 => ?_)
      ·
        have c_4 := Int64.toInt_inj.symm.mp ((lg_cmp_eq nm (-1)).mp c_4)
        refine lv_iconst (v := iZ 0) hx hb dX4_isName_31 (by decide) ?_
        exact EPz hx hb hr hlocks (by omega) (Or.inr ⟨rfl, fun h9 => h9.2.2 ((nm_m1 (gr_1 (by omega)).1 (xNm_rg (gr_1 (by omega)).2 (by omega))).mp c_4)⟩) dX4_isName_32
      ·
        have c_4 := mt (fun h9 => (lg_cmp_eq nm (-1)).mpr (Int64.toInt_inj.symm.mpr h9)) c_4
        refine lv_iconst (v := iZ 1) hx hb dX4_isName_27 (by decide) ?_
        refine lv_goto (tgt := 32) hx hb dX4_isName_28 (by decide) ?_
        exact EPz hx hb hr hlocks (by omega) (Or.inl ⟨rfl, by omega, by omega, mt (nm_m1 (gr_1 (by omega)).1 (xNm_rg (gr_1 (by omega)).2 (by omega))).mpr c_4⟩) dX4_isName_32
