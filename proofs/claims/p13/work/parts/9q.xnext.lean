section
set_option maxHeartbeats 4000000 in
set_option maxRecDepth 100000 in
theorem x_next (l : Launch) (D : va_G) (k : Nat → ClassId) (hr1 : Nat) (tx : Nat) (kw : Nat) (tp : Int) (ln : Int) (pl : Int) (en : Int) (ki : Int) (va : Int) (ke : Int) (fk : Int) (fp : Int) (nm : Int64) (bf : Nat → Int32) (kwf : Nat → Int64) (hI1 : (0 ≤ tp ∧ tp ≤ 900) ∧ (0 ≤ ln ∧ ln ≤ 900) ∧ (0 ≤ en ∧ en ≤ ln)) (hbf : rgI bf (-128) 127 900) (hkw : ∀ j : Nat, j < 25 → kwf j = lZ (kwC j)) : WD (σ := ((Int × Int × Int × Int × Int × Int) × (Int64 × Int64) × (Unit) × (Unit))) l yX4_next cX4_next 1 none 1 0 0 D k [.ref hr1] [(hr1, .inr (4, [.ref tx, .ref kw, .int (iZ tp), .int (iZ ln), .int (iZ pl), .int (iZ en), .int (iZ ki), .int (iZ va), .int (iZ ke), .long nm, .int (iZ fk), .int (iZ fp)])), (tx, .inl (k 0, 900, .inl bf)), (kw, .inl (k 2, 25, .inr (.inl kwf)))] (fun _ => none) (fun u => (RDX (tX bf ln) en u.1.2.1 u.1.2.2.1 u.1.2.2.2.1 u.1.2.2.2.2.1 u.1.2.2.2.2.2 u.2.1.2) ∧ ((0 ≤ tp ∧ tp ≤ 900) ∧ (0 ≤ ln ∧ ln ≤ 900) ∧ (0 ≤ u.1.2.1 ∧ u.1.2.1 ≤ u.1.2.2.1) ∧ (u.1.2.2.1 ≤ ln) ∧ (0 ≤ u.1.2.2.2.1 ∧ u.1.2.2.2.1 ≤ 4) ∧ (-2147483648 ≤ u.1.2.2.2.2.1 ∧ u.1.2.2.2.2.1 < 2147483648) ∧ (-1 ≤ u.1.2.2.2.2.2 ∧ u.1.2.2.2.2.2 ≤ 24))) (fun u => [(hr1, .inr (4, [.ref tx, .ref kw, .int (iZ tp), .int (iZ ln), .int (iZ u.1.2.1), .int (iZ u.1.2.2.1), .int (iZ u.1.2.2.2.1), .int (iZ u.1.2.2.2.2.1), .int (iZ u.1.2.2.2.2.2), .long u.2.1.2, .int (iZ fk), .int (iZ fp)])), (tx, .inl (k 0, 900, .inl bf)), (kw, .inl (k 2, 25, .inr (.inl kwf)))]) := by
  refine MW (by decide) (Nat.le_of_ble_eq_true rfl) (fun p e s m below meth c ls A hx hb hml hr hlocks hin hts hown hKK hP hD hS hA hl => ?_)
  have hK := hKK.1
  have hl : lv_has ls 1 [(0, .ref hr1)] := hl
  have HL1 : ∀ (fu : Nat) (en3 : Int) (H : Heap) (locs : List Loc) (ls : Array Slot), (ln + 1 - en3) < (fu : Int) → (en ≤ en3 ∧ en3 ≤ ln) → (∀ j : Int, en ≤ j → j < en3 → wsB (tX bf ln j)) → va_P D vwCl [(hr1, .inr (4, [.ref tx, .ref kw, .int (iZ tp), .int (iZ ln), .int (iZ pl), .int (iZ en3), .int (iZ ki), .int (iZ va), .int (iZ ke), .long nm, .int (iZ fk), .int (iZ fp)])), (tx, .inl (k 0, 900, .inl bf)), (kw, .inl (k 2, 25, .inr (.inl kwf)))] H → va_D A [(hr1, .inr (4, [.ref tx, .ref kw, .int (iZ tp), .int (iZ ln), .int (iZ pl), .int (iZ en3), .int (iZ ki), .int (iZ va), .int (iZ ke), .long nm, .int (iZ fk), .int (iZ fp)])), (tx, .inl (k 0, 900, .inl bf)), (kw, .inl (k 2, 25, .inr (.inl kwf)))] → va_S A s.heap H locs → lv_has ls 1 [(0, .ref hr1)] → W p l e (rj 1 0 0) s m [.ref hr1].toArray below meth c H locs 0 0 (MQ below (QW (σ := ((Int × Int × Int × Int × Int × Int) × (Int64 × Int64) × (Unit) × (Unit))) (fun _ => none) (fun u => (RDX (tX bf ln) en u.1.2.1 u.1.2.2.1 u.1.2.2.2.1 u.1.2.2.2.2.1 u.1.2.2.2.2.2 u.2.1.2) ∧ ((0 ≤ tp ∧ tp ≤ 900) ∧ (0 ≤ ln ∧ ln ≤ 900) ∧ (0 ≤ u.1.2.1 ∧ u.1.2.1 ≤ u.1.2.2.1) ∧ (u.1.2.2.1 ≤ ln) ∧ (0 ≤ u.1.2.2.2.1 ∧ u.1.2.2.2.1 ≤ 4) ∧ (-2147483648 ≤ u.1.2.2.2.2.1 ∧ u.1.2.2.2.2.1 < 2147483648) ∧ (-1 ≤ u.1.2.2.2.2.2 ∧ u.1.2.2.2.2.2 ≤ 24))) (fun u => [(hr1, .inr (4, [.ref tx, .ref kw, .int (iZ tp), .int (iZ ln), .int (iZ u.1.2.1), .int (iZ u.1.2.2.1), .int (iZ u.1.2.2.2.1), .int (iZ u.1.2.2.2.2.1), .int (iZ u.1.2.2.2.2.2), .long u.2.1.2, .int (iZ fk), .int (iZ fp)])), (tx, .inl (k 0, 900, .inl bf)), (kw, .inl (k 2, 25, .inr (.inl kwf)))]) D A) [.ref hr1].toArray s 0 0 A) (F0 m 0 ls []) := by
    intro fu
    induction fu with
    | zero => intro en3 H locs ls hμ1 he1 hrun hP hD hS hl; exact absurd hμ1 (by omega)
    | succ fu ih1 =>
      intro en3 H locs ls hμ1 he1 hrun hP hD hS hl
      refine lv_aload_n hx hb dX4_next_0 rfl (lv_at hl 0 rfl) ?_
      refine va_get (D := D) (ci := 4) (v := .int (iZ en3)) (C := RX4) (T := TX4) (N := 12) hx hb hts iX4 hown hK hP 0 rfl rfl 5 (bl rfl) (hts _ qf_X4_47) (fun _ h => h) rfl dX4_next_1 ?_
      refine lv_aload_n hx hb dX4_next_4 rfl (lv_at hl 0 rfl) ?_
      refine va_get (D := D) (ci := 4) (v := .int (iZ ln)) (C := RX4) (T := TX4) (N := 12) hx hb hts iX4 hown hK hP 0 rfl rfl 3 (bl rfl) (hts _ qf_X4_45) (fun _ h => h) rfl dX4_next_5 ?_
      refine lv_icmp_ge (tgt := 52) hx hb dX4_next_8 rfl (fun c_1 => ?_) (fun c_1 => ?_)
      ·
        have c_1 := (zle (x := iZ ln) (y := iZ en3) rfl rfl ⟨by omega, by omega⟩ ⟨by omega, by omega⟩).mp c_1
        have hte_2 := tX_c (f := bf) (sz := ln) (x := en3) (by omega) (fun h9 => hbf _ (by omega) (by omega))
        have hpl : en3 = xPl (tX bf ln) en := rnF_eq ⟨by omega, hrun, (show ¬ (tX bf ln en3 = 32 ∨ tX bf ln en3 = 10) from (by omega))⟩
        refine lv_aload_n hx hb dX4_next_52 rfl (lv_at hl 0 rfl) ?_
        refine lv_aload_n hx hb dX4_next_53 rfl (lv_at hl 0 rfl) ?_
        refine va_get (D := D) (ci := 4) (v := .int (iZ en3)) (C := RX4) (T := TX4) (N := 12) hx hb hts iX4 hown hK hP 0 rfl rfl 5 (bl rfl) (hts _ qf_X4_47) (fun _ h => h) rfl dX4_next_54 ?_
        refine va_put (D := D) (ci := 4) (v := .int (iZ en3)) (ty := .int) (C := RX4) (T := TX4) (N := 12) hx hb hts iX4 tyX4 tyX4_ok nmX4 hown hK hP hD hS 0 rfl rfl 4 (bl rfl) (hts _ qf_X4_53) (fun _ h => h) rfl (by decide +kernel) rfl rfl (Nat.le_of_ble_eq_true rfl) dX4_next_57 (fun H locs hP hD hS => ?_)
        refine lv_aload_n hx hb dX4_next_60 rfl (lv_at hl 0 rfl) ?_
        refine lv_iconst (v := iZ (-1)) hx hb dX4_next_61 rfl ?_
        refine va_put (D := D) (ci := 4) (v := .int (iZ (-1))) (ty := .int) (C := RX4) (T := TX4) (N := 12) hx hb hts iX4 tyX4 tyX4_ok nmX4 hown hK hP hD hS 0 rfl rfl 8 (bl rfl) (hts _ qf_X4_56) (fun _ h => h) rfl (by decide +kernel) rfl rfl (Nat.le_of_ble_eq_true rfl) dX4_next_62 (fun H locs hP hD hS => ?_)
        refine lv_aload_n hx hb dX4_next_65 rfl (lv_at hl 0 rfl) ?_
        refine lv_ldc2 (own := RX4) (v := (-1)) hx hb hown (hts _ qk_X4_59) dX4_next_66 ?_
        refine va_put (D := D) (ci := 4) (v := .long (-1)) (ty := .long) (C := RX4) (T := TX4) (N := 12) hx hb hts iX4 tyX4 tyX4_ok nmX4 hown hK hP hD hS 0 rfl rfl 9 (bl rfl) (hts _ qf_X4_61) (fun _ h => h) rfl (by decide +kernel) rfl rfl (Nat.le_of_ble_eq_true rfl) dX4_next_69 (fun H locs hP hD hS => ?_)
        refine lv_aload_n hx hb dX4_next_72 rfl (lv_at hl 0 rfl) ?_
        refine lv_iconst (v := iZ (-1)) hx hb dX4_next_73 rfl ?_
        refine va_put (D := D) (ci := 4) (v := .int (iZ (-1))) (ty := .int) (C := RX4) (T := TX4) (N := 12) hx hb hts iX4 tyX4 tyX4_ok nmX4 hown hK hP hD hS 0 rfl rfl 7 (bl rfl) (hts _ qf_X4_65) (fun _ h => h) rfl (by decide +kernel) rfl rfl (Nat.le_of_ble_eq_true rfl) dX4_next_74 (fun H locs hP hD hS => ?_)
        refine lv_aload_n hx hb dX4_next_77 rfl (lv_at hl 0 rfl) ?_
        refine va_get (D := D) (ci := 4) (v := .int (iZ en3)) (C := RX4) (T := TX4) (N := 12) hx hb hts iX4 hown hK hP 0 rfl rfl 5 (bl rfl) (hts _ qf_X4_47) (fun _ h => h) rfl dX4_next_78 ?_
        refine lv_aload_n hx hb dX4_next_81 rfl (lv_at hl 0 rfl) ?_
        refine va_get (D := D) (ci := 4) (v := .int (iZ ln)) (C := RX4) (T := TX4) (N := 12) hx hb hts iX4 hown hK hP 0 rfl rfl 3 (bl rfl) (hts _ qf_X4_45) (fun _ h => h) rfl dX4_next_82 ?_
        refine lv_icmp_lt (tgt := 96) hx hb dX4_next_85 rfl (fun c_3 => ?_) (fun c_3 => ?_)
        ·
          have c_3 := (zlt (x := iZ en3) (y := iZ ln) rfl rfl ⟨by omega, by omega⟩ ⟨by omega, by omega⟩).mp c_3
          refine lv_aload_n hx hb dX4_next_96 rfl (lv_at hl 0 rfl) ?_
          refine va_get (D := D) (ci := 4) (v := .ref tx) (C := RX4) (T := TX4) (N := 12) hx hb hts iX4 hown hK hP 0 rfl rfl 0 (bl rfl) (hts _ qf_X4_9) (fun _ h => h) rfl dX4_next_97 ?_
          refine lv_aload_n hx hb dX4_next_100 rfl (lv_at hl 0 rfl) ?_
          refine va_get (D := D) (ci := 4) (v := .int (iZ en3)) (C := RX4) (T := TX4) (N := 12) hx hb hts iX4 hown hK hP 0 rfl rfl 5 (bl rfl) (hts _ qf_X4_47) (fun _ h => h) rfl dX4_next_101 ?_
          refine va_bald hx hb hK hP 1 0 rfl rfl (zin (e := en3) (n := 900) ⟨by omega, by omega⟩ (bl rfl)) dX4_next_104 ?_
          refine lv_topi (fun x_4 ex_4 => ?_)
          obtain rfl : x_4 = iZ (gz bf en3) := ex_4.trans (gz_eq ⟨by omega, by omega⟩)
          have h_5 := hbf en3 (by omega) (by omega)
          have ht_6 := tX_c (f := bf) (sz := ln) (x := en3) (by omega) (fun _ => h_5)
          refine lv_bipush (v := iZ 97) hx hb dX4_next_105 bip_97 ?_
          refine lv_icmp_lt (tgt := 131) hx hb dX4_next_107 rfl (fun c_7 => ?_) (fun c_7 => ?_)
          ·
            have c_7 := (zlt (x := iZ (gz bf en3)) (y := iZ 97) rfl rfl (gz_rg bf en3) wn_97).mp c_7
            refine lv_aload_n hx hb dX4_next_131 rfl (lv_at hl 0 rfl) ?_
            refine va_get (D := D) (ci := 4) (v := .ref tx) (C := RX4) (T := TX4) (N := 12) hx hb hts iX4 hown hK hP 0 rfl rfl 0 (bl rfl) (hts _ qf_X4_9) (fun _ h => h) rfl dX4_next_132 ?_
            refine lv_aload_n hx hb dX4_next_135 rfl (lv_at hl 0 rfl) ?_
            refine va_get (D := D) (ci := 4) (v := .int (iZ en3)) (C := RX4) (T := TX4) (N := 12) hx hb hts iX4 hown hK hP 0 rfl rfl 5 (bl rfl) (hts _ qf_X4_47) (fun _ h => h) rfl dX4_next_136 ?_
            refine va_bald hx hb hK hP 1 0 rfl rfl (zin (e := en3) (n := 900) ⟨by omega, by omega⟩ (bl rfl)) dX4_next_139 ?_
            refine lv_topi (fun x_8 ex_8 => ?_)
            obtain rfl : x_8 = iZ (gz bf en3) := ex_8.trans (gz_eq ⟨by omega, by omega⟩)
            have h_9 := hbf en3 (by omega) (by omega)
            have ht_10 := tX_c (f := bf) (sz := ln) (x := en3) (by omega) (fun _ => h_9)
            refine lv_bipush (v := iZ 48) hx hb dX4_next_140 bip_48 ?_
            refine lv_icmp_lt (tgt := 166) hx hb dX4_next_142 rfl (fun c_11 => ?_) (fun c_11 => ?_)
            ·
              have c_11 := (zlt (x := iZ (gz bf en3)) (y := iZ 48) rfl rfl (gz_rg bf en3) wn_48).mp c_11
              refine lv_aload_n hx hb dX4_next_166 rfl (lv_at hl 0 rfl) ?_
              refine CWV (As := []) (rest := []) (wc := _) (wr := []) hx hb hml hown hts hKK hP hD hS hA (x_readSign l D k hr1 tx kw tp ln en3 en3 ki (-1) (-1) fk fp (-1) bf kwf ⟨⟨by omega, by omega⟩, ⟨by omega, by omega⟩, by omega, by omega⟩ hbf (by omega)) ci_X4_readSign qm_X4_77 ⟨Nat.le_of_ble_eq_true rfl, Nat.le_of_ble_eq_true rfl⟩ ⟨Nat.le_of_ble_eq_true rfl, Nat.le_of_ble_eq_true rfl⟩ [0, 1, 2] [] rfl rfl rfl rfl rfl (dj rfl) 0 rfl rfl rfl hl.1 rfl (Nat.le_of_ble_eq_true rfl) dX4_next_167 (fun u_12 H locs hφ hP hD hS => ?_)
              obtain ⟨p_13, p_14, p_15, p_16⟩ : (u_12.1.2.1 = en3 + 1) ∧ (u_12.1.2.2.2 = gz bf en3) ∧ (((u_12.1.2.2.1 : Int) = 3 ∧ (gz bf en3 = 59 ∨ gz bf en3 = 60 ∨ gz bf en3 = 62 ∨ gz bf en3 = 61)) ∨ ((u_12.1.2.2.1 : Int) = 4 ∧ ¬ (gz bf en3 = 59 ∨ gz bf en3 = 60 ∨ gz bf en3 = 62 ∨ gz bf en3 = 61))) ∧ (-128 ≤ u_12.1.2.2.2 ∧ u_12.1.2.2.2 ≤ 127) := hφ
              refine W.eq (g2 := F0 m 170 ls []) rfl ?_
              have tk := tk_sign hpl (show ¬ tX bf ln en3 = -1 from (by omega)) (show ¬ (97 ≤ tX bf ln en3 ∧ tX bf ln en3 ≤ 122) from (by omega)) (show ¬ (48 ≤ tX bf ln en3 ∧ tX bf ln en3 ≤ 57) from (by omega))
              exact EWv hx hb hr hlocks hS ((0, en3, u_12.1.2.1, u_12.1.2.2.1, u_12.1.2.2.2, (-1)), (0, (-1)), (), ()) rfl ⟨(show RDX (tX bf ln) en en3 u_12.1.2.1 u_12.1.2.2.1 u_12.1.2.2.2 (-1) (-1) from ⟨⟨by omega, hpl⟩, p_13.trans tk.1.symm, (by rw [tk.2.1]; split <;> omega), (fun h => by rw [tk.2.2.2]; omega), tk.2.2.1.symm, (fun h => absurd h (by omega)), Or.inr (by omega)⟩), (show (0 ≤ tp ∧ tp ≤ 900) ∧ (0 ≤ ln ∧ ln ≤ 900) ∧ (0 ≤ en3 ∧ en3 ≤ u_12.1.2.1) ∧ (u_12.1.2.1 ≤ ln) ∧ (0 ≤ u_12.1.2.2.1 ∧ u_12.1.2.2.1 ≤ 4) ∧ (-2147483648 ≤ u_12.1.2.2.2 ∧ u_12.1.2.2.2 < 2147483648) ∧ (-1 ≤ (-1) ∧ (-1) ≤ 24) from (by first | with_reducible assumption | exact ⟨⟨by omega, by omega⟩, ⟨by omega, by omega⟩, ⟨by omega, by omega⟩, by omega, ⟨by omega, by omega⟩, ⟨by omega, by omega⟩, by omega, by omega⟩))⟩ (hP.sub [0, 1, 2] rfl) (hD.sub [0, 1, 2] rfl rfl) dX4_next_170
            ·
              have c_11 := mt (zlt (x := iZ (gz bf en3)) (y := iZ 48) rfl rfl (gz_rg bf en3) wn_48).mpr c_11
              refine lv_aload_n hx hb dX4_next_145 rfl (lv_at hl 0 rfl) ?_
              refine va_get (D := D) (ci := 4) (v := .ref tx) (C := RX4) (T := TX4) (N := 12) hx hb hts iX4 hown hK hP 0 rfl rfl 0 (bl rfl) (hts _ qf_X4_9) (fun _ h => h) rfl dX4_next_146 ?_
              refine lv_aload_n hx hb dX4_next_149 rfl (lv_at hl 0 rfl) ?_
              refine va_get (D := D) (ci := 4) (v := .int (iZ en3)) (C := RX4) (T := TX4) (N := 12) hx hb hts iX4 hown hK hP 0 rfl rfl 5 (bl rfl) (hts _ qf_X4_47) (fun _ h => h) rfl dX4_next_150 ?_
              refine va_bald hx hb hK hP 1 0 rfl rfl (zin (e := en3) (n := 900) ⟨by omega, by omega⟩ (bl rfl)) dX4_next_153 ?_
              refine lv_topi (fun x_17 ex_17 => ?_)
              obtain rfl : x_17 = iZ (gz bf en3) := ex_17.trans (gz_eq ⟨by omega, by omega⟩)
              have h_18 := hbf en3 (by omega) (by omega)
              have ht_19 := tX_c (f := bf) (sz := ln) (x := en3) (by omega) (fun _ => h_18)
              refine lv_bipush (v := iZ 57) hx hb dX4_next_154 bip_57 ?_
              refine lv_icmp_gt (tgt := 166) hx hb dX4_next_156 rfl (fun c_20 => ?_) (fun c_20 => ?_)
              ·
                have c_20 := (zlt (x := iZ 57) (y := iZ (gz bf en3)) rfl rfl wn_57 (gz_rg bf en3)).mp c_20
                refine lv_aload_n hx hb dX4_next_166 rfl (lv_at hl 0 rfl) ?_
                refine CWV (As := []) (rest := []) (wc := _) (wr := []) hx hb hml hown hts hKK hP hD hS hA (x_readSign l D k hr1 tx kw tp ln en3 en3 ki (-1) (-1) fk fp (-1) bf kwf ⟨⟨by omega, by omega⟩, ⟨by omega, by omega⟩, by omega, by omega⟩ hbf (by omega)) ci_X4_readSign qm_X4_77 ⟨Nat.le_of_ble_eq_true rfl, Nat.le_of_ble_eq_true rfl⟩ ⟨Nat.le_of_ble_eq_true rfl, Nat.le_of_ble_eq_true rfl⟩ [0, 1, 2] [] rfl rfl rfl rfl rfl (dj rfl) 0 rfl rfl rfl hl.1 rfl (Nat.le_of_ble_eq_true rfl) dX4_next_167 (fun u_21 H locs hφ hP hD hS => ?_)
                obtain ⟨p_22, p_23, p_24, p_25⟩ : (u_21.1.2.1 = en3 + 1) ∧ (u_21.1.2.2.2 = gz bf en3) ∧ (((u_21.1.2.2.1 : Int) = 3 ∧ (gz bf en3 = 59 ∨ gz bf en3 = 60 ∨ gz bf en3 = 62 ∨ gz bf en3 = 61)) ∨ ((u_21.1.2.2.1 : Int) = 4 ∧ ¬ (gz bf en3 = 59 ∨ gz bf en3 = 60 ∨ gz bf en3 = 62 ∨ gz bf en3 = 61))) ∧ (-128 ≤ u_21.1.2.2.2 ∧ u_21.1.2.2.2 ≤ 127) := hφ
                refine W.eq (g2 := F0 m 170 ls []) rfl ?_
                have tk := tk_sign hpl (show ¬ tX bf ln en3 = -1 from (by omega)) (show ¬ (97 ≤ tX bf ln en3 ∧ tX bf ln en3 ≤ 122) from (by omega)) (show ¬ (48 ≤ tX bf ln en3 ∧ tX bf ln en3 ≤ 57) from (by omega))
                exact EWv hx hb hr hlocks hS ((0, en3, u_21.1.2.1, u_21.1.2.2.1, u_21.1.2.2.2, (-1)), (0, (-1)), (), ()) rfl ⟨(show RDX (tX bf ln) en en3 u_21.1.2.1 u_21.1.2.2.1 u_21.1.2.2.2 (-1) (-1) from ⟨⟨by omega, hpl⟩, p_22.trans tk.1.symm, (by rw [tk.2.1]; split <;> omega), (fun h => by rw [tk.2.2.2]; omega), tk.2.2.1.symm, (fun h => absurd h (by omega)), Or.inr (by omega)⟩), (show (0 ≤ tp ∧ tp ≤ 900) ∧ (0 ≤ ln ∧ ln ≤ 900) ∧ (0 ≤ en3 ∧ en3 ≤ u_21.1.2.1) ∧ (u_21.1.2.1 ≤ ln) ∧ (0 ≤ u_21.1.2.2.1 ∧ u_21.1.2.2.1 ≤ 4) ∧ (-2147483648 ≤ u_21.1.2.2.2 ∧ u_21.1.2.2.2 < 2147483648) ∧ (-1 ≤ (-1) ∧ (-1) ≤ 24) from (by first | with_reducible assumption | exact ⟨⟨by omega, by omega⟩, ⟨by omega, by omega⟩, ⟨by omega, by omega⟩, by omega, ⟨by omega, by omega⟩, ⟨by omega, by omega⟩, by omega, by omega⟩))⟩ (hP.sub [0, 1, 2] rfl) (hD.sub [0, 1, 2] rfl rfl) dX4_next_170
              ·
                have c_20 := mt (zlt (x := iZ 57) (y := iZ (gz bf en3)) rfl rfl wn_57 (gz_rg bf en3)).mpr c_20
                refine lv_aload_n hx hb dX4_next_159 rfl (lv_at hl 0 rfl) ?_
                refine CWV (As := []) (rest := []) (wc := _) (wr := []) hx hb hml hown hts hKK hP hD hS hA (x_readNumber l D k hr1 tx kw tp ln en3 en3 ki (-1) (-1) fk fp (-1) bf kwf ⟨⟨by omega, by omega⟩, ⟨by omega, by omega⟩, by omega, by omega⟩ hbf (by omega)) ci_X4_readNumber qm_X4_74 ⟨Nat.le_of_ble_eq_true rfl, Nat.le_of_ble_eq_true rfl⟩ ⟨Nat.le_of_ble_eq_true rfl, Nat.le_of_ble_eq_true rfl⟩ [0, 1, 2] [] rfl rfl rfl rfl rfl (dj rfl) 0 rfl rfl rfl hl.1 rfl (Nat.le_of_ble_eq_true rfl) dX4_next_160 (fun u_26 H locs hφ hP hD hS => ?_)
                obtain ⟨p_27, p_28, p_29, p_30, p_31⟩ : (isRn dgB (tX bf ln) en3 u_26.1.2.1) ∧ (((u_26.1.2.2.1 : Int) = 4 ∧ 4 < u_26.1.2.1 - en3) ∨ ((u_26.1.2.2.1 : Int) = 2 ∧ u_26.1.2.1 - en3 ≤ 4)) ∧ (u_26.1.2.1 - en3 ≤ 4 → u_26.1.2.2.2 = xDv (tX bf ln) en3 (u_26.1.2.1 - en3).toNat) ∧ (en3 ≤ u_26.1.2.1 ∧ u_26.1.2.1 ≤ ln) ∧ (0 ≤ u_26.1.2.2.2 ∧ u_26.1.2.2.2 ≤ 9999) := hφ
                refine W.eq (g2 := F0 m 163 ls []) rfl ?_
                refine lv_goto (tgt := 170) hx hb dX4_next_163 rfl ?_
                have hdg : dgB (tX bf ln en3) := (show 48 ≤ tX bf ln en3 ∧ tX bf ln en3 ≤ 57 from (by omega))
                have tk := tk_num hpl hdg p_27
                exact EWv hx hb hr hlocks hS ((0, en3, u_26.1.2.1, u_26.1.2.2.1, u_26.1.2.2.2, (-1)), (0, (-1)), (), ()) rfl ⟨(show RDX (tX bf ln) en en3 u_26.1.2.1 u_26.1.2.2.1 u_26.1.2.2.2 (-1) (-1) from ⟨⟨by omega, hpl⟩, tk.1.symm, (by rw [tk.2.1]; split <;> omega), (fun h => by rw [tk.2.2.2]; exact p_29 (by omega)), tk.2.2.1.symm, (fun h => absurd h (by omega)), Or.inr (rn_lt p_27 hdg)⟩), (show (0 ≤ tp ∧ tp ≤ 900) ∧ (0 ≤ ln ∧ ln ≤ 900) ∧ (0 ≤ en3 ∧ en3 ≤ u_26.1.2.1) ∧ (u_26.1.2.1 ≤ ln) ∧ (0 ≤ u_26.1.2.2.1 ∧ u_26.1.2.2.1 ≤ 4) ∧ (-2147483648 ≤ u_26.1.2.2.2 ∧ u_26.1.2.2.2 < 2147483648) ∧ (-1 ≤ (-1) ∧ (-1) ≤ 24) from (by first | with_reducible assumption | exact ⟨⟨by omega, by omega⟩, ⟨by omega, by omega⟩, ⟨by omega, by omega⟩, by omega, ⟨by omega, by omega⟩, ⟨by omega, by omega⟩, by omega, by omega⟩))⟩ (hP.sub [0, 1, 2] rfl) (hD.sub [0, 1, 2] rfl rfl) dX4_next_170
          ·
            have c_7 := mt (zlt (x := iZ (gz bf en3)) (y := iZ 97) rfl rfl (gz_rg bf en3) wn_97).mpr c_7
            refine lv_aload_n hx hb dX4_next_110 rfl (lv_at hl 0 rfl) ?_
            refine va_get (D := D) (ci := 4) (v := .ref tx) (C := RX4) (T := TX4) (N := 12) hx hb hts iX4 hown hK hP 0 rfl rfl 0 (bl rfl) (hts _ qf_X4_9) (fun _ h => h) rfl dX4_next_111 ?_
            refine lv_aload_n hx hb dX4_next_114 rfl (lv_at hl 0 rfl) ?_
            refine va_get (D := D) (ci := 4) (v := .int (iZ en3)) (C := RX4) (T := TX4) (N := 12) hx hb hts iX4 hown hK hP 0 rfl rfl 5 (bl rfl) (hts _ qf_X4_47) (fun _ h => h) rfl dX4_next_115 ?_
            refine va_bald hx hb hK hP 1 0 rfl rfl (zin (e := en3) (n := 900) ⟨by omega, by omega⟩ (bl rfl)) dX4_next_118 ?_
            refine lv_topi (fun x_32 ex_32 => ?_)
            obtain rfl : x_32 = iZ (gz bf en3) := ex_32.trans (gz_eq ⟨by omega, by omega⟩)
            have h_33 := hbf en3 (by omega) (by omega)
            have ht_34 := tX_c (f := bf) (sz := ln) (x := en3) (by omega) (fun _ => h_33)
            refine lv_bipush (v := iZ 122) hx hb dX4_next_119 bip_122 ?_
            refine lv_icmp_gt (tgt := 131) hx hb dX4_next_121 rfl (fun c_35 => ?_) (fun c_35 => ?_)
            ·
              have c_35 := (zlt (x := iZ 122) (y := iZ (gz bf en3)) rfl rfl wn_122 (gz_rg bf en3)).mp c_35
              refine lv_aload_n hx hb dX4_next_131 rfl (lv_at hl 0 rfl) ?_
              refine va_get (D := D) (ci := 4) (v := .ref tx) (C := RX4) (T := TX4) (N := 12) hx hb hts iX4 hown hK hP 0 rfl rfl 0 (bl rfl) (hts _ qf_X4_9) (fun _ h => h) rfl dX4_next_132 ?_
              refine lv_aload_n hx hb dX4_next_135 rfl (lv_at hl 0 rfl) ?_
              refine va_get (D := D) (ci := 4) (v := .int (iZ en3)) (C := RX4) (T := TX4) (N := 12) hx hb hts iX4 hown hK hP 0 rfl rfl 5 (bl rfl) (hts _ qf_X4_47) (fun _ h => h) rfl dX4_next_136 ?_
              refine va_bald hx hb hK hP 1 0 rfl rfl (zin (e := en3) (n := 900) ⟨by omega, by omega⟩ (bl rfl)) dX4_next_139 ?_
              refine lv_topi (fun x_36 ex_36 => ?_)
              obtain rfl : x_36 = iZ (gz bf en3) := ex_36.trans (gz_eq ⟨by omega, by omega⟩)
              have h_37 := hbf en3 (by omega) (by omega)
              have ht_38 := tX_c (f := bf) (sz := ln) (x := en3) (by omega) (fun _ => h_37)
              refine lv_bipush (v := iZ 48) hx hb dX4_next_140 bip_48 ?_
              refine lv_icmp_lt (tgt := 166) hx hb dX4_next_142 rfl (fun c_39 => ?_) (fun c_39 => ?_)
              ·
                have c_39 := (zlt (x := iZ (gz bf en3)) (y := iZ 48) rfl rfl (gz_rg bf en3) wn_48).mp c_39
                refine lv_aload_n hx hb dX4_next_166 rfl (lv_at hl 0 rfl) ?_
                refine CWV (As := []) (rest := []) (wc := _) (wr := []) hx hb hml hown hts hKK hP hD hS hA (x_readSign l D k hr1 tx kw tp ln en3 en3 ki (-1) (-1) fk fp (-1) bf kwf ⟨⟨by omega, by omega⟩, ⟨by omega, by omega⟩, by omega, by omega⟩ hbf (by omega)) ci_X4_readSign qm_X4_77 ⟨Nat.le_of_ble_eq_true rfl, Nat.le_of_ble_eq_true rfl⟩ ⟨Nat.le_of_ble_eq_true rfl, Nat.le_of_ble_eq_true rfl⟩ [0, 1, 2] [] rfl rfl rfl rfl rfl (dj rfl) 0 rfl rfl rfl hl.1 rfl (Nat.le_of_ble_eq_true rfl) dX4_next_167 (fun u_40 H locs hφ hP hD hS => ?_)
                obtain ⟨p_41, p_42, p_43, p_44⟩ : (u_40.1.2.1 = en3 + 1) ∧ (u_40.1.2.2.2 = gz bf en3) ∧ (((u_40.1.2.2.1 : Int) = 3 ∧ (gz bf en3 = 59 ∨ gz bf en3 = 60 ∨ gz bf en3 = 62 ∨ gz bf en3 = 61)) ∨ ((u_40.1.2.2.1 : Int) = 4 ∧ ¬ (gz bf en3 = 59 ∨ gz bf en3 = 60 ∨ gz bf en3 = 62 ∨ gz bf en3 = 61))) ∧ (-128 ≤ u_40.1.2.2.2 ∧ u_40.1.2.2.2 ≤ 127) := hφ
                refine W.eq (g2 := F0 m 170 ls []) rfl ?_
                have tk := tk_sign hpl (show ¬ tX bf ln en3 = -1 from (by omega)) (show ¬ (97 ≤ tX bf ln en3 ∧ tX bf ln en3 ≤ 122) from (by omega)) (show ¬ (48 ≤ tX bf ln en3 ∧ tX bf ln en3 ≤ 57) from (by omega))
                exact EWv hx hb hr hlocks hS ((0, en3, u_40.1.2.1, u_40.1.2.2.1, u_40.1.2.2.2, (-1)), (0, (-1)), (), ()) rfl ⟨(show RDX (tX bf ln) en en3 u_40.1.2.1 u_40.1.2.2.1 u_40.1.2.2.2 (-1) (-1) from ⟨⟨by omega, hpl⟩, p_41.trans tk.1.symm, (by rw [tk.2.1]; split <;> omega), (fun h => by rw [tk.2.2.2]; omega), tk.2.2.1.symm, (fun h => absurd h (by omega)), Or.inr (by omega)⟩), (show (0 ≤ tp ∧ tp ≤ 900) ∧ (0 ≤ ln ∧ ln ≤ 900) ∧ (0 ≤ en3 ∧ en3 ≤ u_40.1.2.1) ∧ (u_40.1.2.1 ≤ ln) ∧ (0 ≤ u_40.1.2.2.1 ∧ u_40.1.2.2.1 ≤ 4) ∧ (-2147483648 ≤ u_40.1.2.2.2 ∧ u_40.1.2.2.2 < 2147483648) ∧ (-1 ≤ (-1) ∧ (-1) ≤ 24) from (by first | with_reducible assumption | exact ⟨⟨by omega, by omega⟩, ⟨by omega, by omega⟩, ⟨by omega, by omega⟩, by omega, ⟨by omega, by omega⟩, ⟨by omega, by omega⟩, by omega, by omega⟩))⟩ (hP.sub [0, 1, 2] rfl) (hD.sub [0, 1, 2] rfl rfl) dX4_next_170
              ·
                have c_39 := mt (zlt (x := iZ (gz bf en3)) (y := iZ 48) rfl rfl (gz_rg bf en3) wn_48).mpr c_39
                refine lv_aload_n hx hb dX4_next_145 rfl (lv_at hl 0 rfl) ?_
                refine va_get (D := D) (ci := 4) (v := .ref tx) (C := RX4) (T := TX4) (N := 12) hx hb hts iX4 hown hK hP 0 rfl rfl 0 (bl rfl) (hts _ qf_X4_9) (fun _ h => h) rfl dX4_next_146 ?_
                refine lv_aload_n hx hb dX4_next_149 rfl (lv_at hl 0 rfl) ?_
                refine va_get (D := D) (ci := 4) (v := .int (iZ en3)) (C := RX4) (T := TX4) (N := 12) hx hb hts iX4 hown hK hP 0 rfl rfl 5 (bl rfl) (hts _ qf_X4_47) (fun _ h => h) rfl dX4_next_150 ?_
                refine va_bald hx hb hK hP 1 0 rfl rfl (zin (e := en3) (n := 900) ⟨by omega, by omega⟩ (bl rfl)) dX4_next_153 ?_
                refine lv_topi (fun x_45 ex_45 => ?_)
                obtain rfl : x_45 = iZ (gz bf en3) := ex_45.trans (gz_eq ⟨by omega, by omega⟩)
                have h_46 := hbf en3 (by omega) (by omega)
                have ht_47 := tX_c (f := bf) (sz := ln) (x := en3) (by omega) (fun _ => h_46)
                refine lv_bipush (v := iZ 57) hx hb dX4_next_154 bip_57 ?_
                refine lv_icmp_gt (tgt := 166) hx hb dX4_next_156 rfl (fun c_48 => ?_) (fun c_48 => ?_)
                ·
                  have c_48 := (zlt (x := iZ 57) (y := iZ (gz bf en3)) rfl rfl wn_57 (gz_rg bf en3)).mp c_48
                  refine lv_aload_n hx hb dX4_next_166 rfl (lv_at hl 0 rfl) ?_
                  refine CWV (As := []) (rest := []) (wc := _) (wr := []) hx hb hml hown hts hKK hP hD hS hA (x_readSign l D k hr1 tx kw tp ln en3 en3 ki (-1) (-1) fk fp (-1) bf kwf ⟨⟨by omega, by omega⟩, ⟨by omega, by omega⟩, by omega, by omega⟩ hbf (by omega)) ci_X4_readSign qm_X4_77 ⟨Nat.le_of_ble_eq_true rfl, Nat.le_of_ble_eq_true rfl⟩ ⟨Nat.le_of_ble_eq_true rfl, Nat.le_of_ble_eq_true rfl⟩ [0, 1, 2] [] rfl rfl rfl rfl rfl (dj rfl) 0 rfl rfl rfl hl.1 rfl (Nat.le_of_ble_eq_true rfl) dX4_next_167 (fun u_49 H locs hφ hP hD hS => ?_)
                  obtain ⟨p_50, p_51, p_52, p_53⟩ : (u_49.1.2.1 = en3 + 1) ∧ (u_49.1.2.2.2 = gz bf en3) ∧ (((u_49.1.2.2.1 : Int) = 3 ∧ (gz bf en3 = 59 ∨ gz bf en3 = 60 ∨ gz bf en3 = 62 ∨ gz bf en3 = 61)) ∨ ((u_49.1.2.2.1 : Int) = 4 ∧ ¬ (gz bf en3 = 59 ∨ gz bf en3 = 60 ∨ gz bf en3 = 62 ∨ gz bf en3 = 61))) ∧ (-128 ≤ u_49.1.2.2.2 ∧ u_49.1.2.2.2 ≤ 127) := hφ
                  refine W.eq (g2 := F0 m 170 ls []) rfl ?_
                  have tk := tk_sign hpl (show ¬ tX bf ln en3 = -1 from (by omega)) (show ¬ (97 ≤ tX bf ln en3 ∧ tX bf ln en3 ≤ 122) from (by omega)) (show ¬ (48 ≤ tX bf ln en3 ∧ tX bf ln en3 ≤ 57) from (by omega))
                  exact EWv hx hb hr hlocks hS ((0, en3, u_49.1.2.1, u_49.1.2.2.1, u_49.1.2.2.2, (-1)), (0, (-1)), (), ()) rfl ⟨(show RDX (tX bf ln) en en3 u_49.1.2.1 u_49.1.2.2.1 u_49.1.2.2.2 (-1) (-1) from ⟨⟨by omega, hpl⟩, p_50.trans tk.1.symm, (by rw [tk.2.1]; split <;> omega), (fun h => by rw [tk.2.2.2]; omega), tk.2.2.1.symm, (fun h => absurd h (by omega)), Or.inr (by omega)⟩), (show (0 ≤ tp ∧ tp ≤ 900) ∧ (0 ≤ ln ∧ ln ≤ 900) ∧ (0 ≤ en3 ∧ en3 ≤ u_49.1.2.1) ∧ (u_49.1.2.1 ≤ ln) ∧ (0 ≤ u_49.1.2.2.1 ∧ u_49.1.2.2.1 ≤ 4) ∧ (-2147483648 ≤ u_49.1.2.2.2 ∧ u_49.1.2.2.2 < 2147483648) ∧ (-1 ≤ (-1) ∧ (-1) ≤ 24) from (by first | with_reducible assumption | exact ⟨⟨by omega, by omega⟩, ⟨by omega, by omega⟩, ⟨by omega, by omega⟩, by omega, ⟨by omega, by omega⟩, ⟨by omega, by omega⟩, by omega, by omega⟩))⟩ (hP.sub [0, 1, 2] rfl) (hD.sub [0, 1, 2] rfl rfl) dX4_next_170
                ·
                  have c_48 := mt (zlt (x := iZ 57) (y := iZ (gz bf en3)) rfl rfl wn_57 (gz_rg bf en3)).mpr c_48
                  refine lv_aload_n hx hb dX4_next_159 rfl (lv_at hl 0 rfl) ?_
                  refine CWV (As := []) (rest := []) (wc := _) (wr := []) hx hb hml hown hts hKK hP hD hS hA (x_readNumber l D k hr1 tx kw tp ln en3 en3 ki (-1) (-1) fk fp (-1) bf kwf ⟨⟨by omega, by omega⟩, ⟨by omega, by omega⟩, by omega, by omega⟩ hbf (by omega)) ci_X4_readNumber qm_X4_74 ⟨Nat.le_of_ble_eq_true rfl, Nat.le_of_ble_eq_true rfl⟩ ⟨Nat.le_of_ble_eq_true rfl, Nat.le_of_ble_eq_true rfl⟩ [0, 1, 2] [] rfl rfl rfl rfl rfl (dj rfl) 0 rfl rfl rfl hl.1 rfl (Nat.le_of_ble_eq_true rfl) dX4_next_160 (fun u_54 H locs hφ hP hD hS => ?_)
                  obtain ⟨p_55, p_56, p_57, p_58, p_59⟩ : (isRn dgB (tX bf ln) en3 u_54.1.2.1) ∧ (((u_54.1.2.2.1 : Int) = 4 ∧ 4 < u_54.1.2.1 - en3) ∨ ((u_54.1.2.2.1 : Int) = 2 ∧ u_54.1.2.1 - en3 ≤ 4)) ∧ (u_54.1.2.1 - en3 ≤ 4 → u_54.1.2.2.2 = xDv (tX bf ln) en3 (u_54.1.2.1 - en3).toNat) ∧ (en3 ≤ u_54.1.2.1 ∧ u_54.1.2.1 ≤ ln) ∧ (0 ≤ u_54.1.2.2.2 ∧ u_54.1.2.2.2 ≤ 9999) := hφ
                  refine W.eq (g2 := F0 m 163 ls []) rfl ?_
                  refine lv_goto (tgt := 170) hx hb dX4_next_163 rfl ?_
                  have hdg : dgB (tX bf ln en3) := (show 48 ≤ tX bf ln en3 ∧ tX bf ln en3 ≤ 57 from (by omega))
                  have tk := tk_num hpl hdg p_55
                  exact EWv hx hb hr hlocks hS ((0, en3, u_54.1.2.1, u_54.1.2.2.1, u_54.1.2.2.2, (-1)), (0, (-1)), (), ()) rfl ⟨(show RDX (tX bf ln) en en3 u_54.1.2.1 u_54.1.2.2.1 u_54.1.2.2.2 (-1) (-1) from ⟨⟨by omega, hpl⟩, tk.1.symm, (by rw [tk.2.1]; split <;> omega), (fun h => by rw [tk.2.2.2]; exact p_57 (by omega)), tk.2.2.1.symm, (fun h => absurd h (by omega)), Or.inr (rn_lt p_55 hdg)⟩), (show (0 ≤ tp ∧ tp ≤ 900) ∧ (0 ≤ ln ∧ ln ≤ 900) ∧ (0 ≤ en3 ∧ en3 ≤ u_54.1.2.1) ∧ (u_54.1.2.1 ≤ ln) ∧ (0 ≤ u_54.1.2.2.1 ∧ u_54.1.2.2.1 ≤ 4) ∧ (-2147483648 ≤ u_54.1.2.2.2 ∧ u_54.1.2.2.2 < 2147483648) ∧ (-1 ≤ (-1) ∧ (-1) ≤ 24) from (by first | with_reducible assumption | exact ⟨⟨by omega, by omega⟩, ⟨by omega, by omega⟩, ⟨by omega, by omega⟩, by omega, ⟨by omega, by omega⟩, ⟨by omega, by omega⟩, by omega, by omega⟩))⟩ (hP.sub [0, 1, 2] rfl) (hD.sub [0, 1, 2] rfl rfl) dX4_next_170
            ·
              have c_35 := mt (zlt (x := iZ 122) (y := iZ (gz bf en3)) rfl rfl wn_122 (gz_rg bf en3)).mpr c_35
              refine lv_aload_n hx hb dX4_next_124 rfl (lv_at hl 0 rfl) ?_
              refine CWV (As := []) (rest := []) (wc := _) (wr := []) hx hb hml hown hts hKK hP hD hS hA (x_readWord l D k hr1 tx kw tp ln en3 en3 ki (-1) (-1) fk fp (-1) bf kwf ⟨⟨by omega, by omega⟩, ⟨by omega, by omega⟩, by omega, by omega⟩ hbf hkw (by omega) (by omega)) ci_X4_readWord qm_X4_71 ⟨Nat.le_of_ble_eq_true rfl, Nat.le_of_ble_eq_true rfl⟩ ⟨Nat.le_of_ble_eq_true rfl, Nat.le_of_ble_eq_true rfl⟩ [0, 1, 2] [] rfl rfl rfl rfl rfl (dj rfl) 0 rfl rfl rfl hl.1 rfl (Nat.le_of_ble_eq_true rfl) dX4_next_125 (fun u_60 H locs hφ hP hD hS => ?_)
              obtain ⟨p_61, p_62, p_63, p_64, p_65, p_66⟩ : (isRn smB (tX bf ln) en3 u_60.1.2.1) ∧ (u_60.2.1.2 = lZ (xCw (tX bf ln) en3 u_60.1.2.1)) ∧ (u_60.1.2.2.2 = kwu (xCw (tX bf ln) en3 u_60.1.2.1) 25) ∧ ((u_60.1.2.2.1 : Int) = 1) ∧ (en3 ≤ u_60.1.2.1 ∧ u_60.1.2.1 ≤ ln) ∧ (-1 ≤ u_60.1.2.2.2 ∧ u_60.1.2.2.2 ≤ 24) := hφ
              refine W.eq (g2 := F0 m 128 ls []) rfl ?_
              refine lv_goto (tgt := 170) hx hb dX4_next_128 rfl ?_
              have hsm : smB (tX bf ln en3) := (show 97 ≤ tX bf ln en3 ∧ tX bf ln en3 ≤ 122 from (by omega))
              have tk := tk_word hpl hsm p_61
              exact EWv hx hb hr hlocks hS ((0, en3, u_60.1.2.1, u_60.1.2.2.1, (-1), u_60.1.2.2.2), (0, u_60.2.1.2), (), ()) rfl ⟨(show RDX (tX bf ln) en en3 u_60.1.2.1 u_60.1.2.2.1 (-1) u_60.1.2.2.2 u_60.2.1.2 from ⟨⟨by omega, hpl⟩, tk.1.symm, p_64.trans tk.2.1.symm, (fun h => absurd h (by omega)), p_63.trans tk.2.2.2.symm, (fun _ => ⟨p_62.trans (congrArg lZ tk.2.2.1.symm), by unfold xLn; rw [tk.1, ← hpl]; exact xLet_rn p_61⟩), Or.inr (rn_lt p_61 hsm)⟩), (show (0 ≤ tp ∧ tp ≤ 900) ∧ (0 ≤ ln ∧ ln ≤ 900) ∧ (0 ≤ en3 ∧ en3 ≤ u_60.1.2.1) ∧ (u_60.1.2.1 ≤ ln) ∧ (0 ≤ u_60.1.2.2.1 ∧ u_60.1.2.2.1 ≤ 4) ∧ (-2147483648 ≤ (-1) ∧ (-1) < 2147483648) ∧ (-1 ≤ u_60.1.2.2.2 ∧ u_60.1.2.2.2 ≤ 24) from (by first | with_reducible assumption | exact ⟨⟨by omega, by omega⟩, ⟨by omega, by omega⟩, ⟨by omega, by omega⟩, by omega, ⟨by omega, by omega⟩, ⟨by omega, by omega⟩, by omega, by omega⟩))⟩ (hP.sub [0, 1, 2] rfl) (hD.sub [0, 1, 2] rfl rfl) dX4_next_170
        ·
          have c_3 := mt (zlt (x := iZ en3) (y := iZ ln) rfl rfl ⟨by omega, by omega⟩ ⟨by omega, by omega⟩).mpr c_3
          refine lv_aload_n hx hb dX4_next_88 rfl (lv_at hl 0 rfl) ?_
          refine lv_iconst (v := iZ 0) hx hb dX4_next_89 rfl ?_
          refine va_put (D := D) (ci := 4) (v := .int (iZ 0)) (ty := .int) (C := RX4) (T := TX4) (N := 12) hx hb hts iX4 tyX4 tyX4_ok nmX4 hown hK hP hD hS 0 rfl rfl 6 (bl rfl) (hts _ qf_X4_68) (fun _ h => h) rfl (by decide +kernel) rfl rfl (Nat.le_of_ble_eq_true rfl) dX4_next_90 (fun H locs hP hD hS => ?_)
          refine lv_goto (tgt := 170) hx hb dX4_next_93 rfl ?_
          have tk := tk_end hpl (show tX bf ln en3 = -1 from (by omega))
          exact EWv hx hb hr hlocks hS ((0, en3, en3, 0, (-1), (-1)), (0, (-1)), (), ()) rfl ⟨(show RDX (tX bf ln) en en3 en3 0 (-1) (-1) (-1) from ⟨⟨by omega, hpl⟩, tk.1.symm, tk.2.1.symm, (fun h => absurd h (by omega)), tk.2.2.symm, (fun h => absurd h (by omega)), Or.inl rfl⟩), (show (0 ≤ tp ∧ tp ≤ 900) ∧ (0 ≤ ln ∧ ln ≤ 900) ∧ (0 ≤ en3 ∧ en3 ≤ en3) ∧ (en3 ≤ ln) ∧ (0 ≤ 0 ∧ 0 ≤ 4) ∧ (-2147483648 ≤ (-1) ∧ (-1) < 2147483648) ∧ (-1 ≤ (-1) ∧ (-1) ≤ 24) from (by first | with_reducible assumption | exact ⟨⟨by omega, by omega⟩, ⟨by omega, by omega⟩, ⟨by omega, by omega⟩, by omega, ⟨by omega, by omega⟩, ⟨by omega, by omega⟩, by omega, by omega⟩))⟩ (hP.sub [0, 1, 2] rfl) (hD.sub [0, 1, 2] rfl rfl) dX4_next_170
      ·
        have c_1 := mt (zle (x := iZ ln) (y := iZ en3) rfl rfl ⟨by omega, by omega⟩ ⟨by omega, by omega⟩).mpr c_1
        refine lv_aload_n hx hb dX4_next_11 rfl (lv_at hl 0 rfl) ?_
        refine va_get (D := D) (ci := 4) (v := .ref tx) (C := RX4) (T := TX4) (N := 12) hx hb hts iX4 hown hK hP 0 rfl rfl 0 (bl rfl) (hts _ qf_X4_9) (fun _ h => h) rfl dX4_next_12 ?_
        refine lv_aload_n hx hb dX4_next_15 rfl (lv_at hl 0 rfl) ?_
        refine va_get (D := D) (ci := 4) (v := .int (iZ en3)) (C := RX4) (T := TX4) (N := 12) hx hb hts iX4 hown hK hP 0 rfl rfl 5 (bl rfl) (hts _ qf_X4_47) (fun _ h => h) rfl dX4_next_16 ?_
        refine va_bald hx hb hK hP 1 0 rfl rfl (zin (e := en3) (n := 900) ⟨by omega, by omega⟩ (bl rfl)) dX4_next_19 ?_
        refine lv_topi (fun x_67 ex_67 => ?_)
        obtain rfl : x_67 = iZ (gz bf en3) := ex_67.trans (gz_eq ⟨by omega, by omega⟩)
        have h_68 := hbf en3 (by omega) (by omega)
        have ht_69 := tX_c (f := bf) (sz := ln) (x := en3) (by omega) (fun _ => h_68)
        refine lv_bipush (v := iZ 10) hx hb dX4_next_20 bip_10 ?_
        refine lv_icmp_eq (tgt := 39) hx hb dX4_next_22 rfl (fun c_70 => ?_) (fun c_70 => ?_)
        ·
          have c_70 := (zeq (x := iZ (gz bf en3)) (y := iZ 10) rfl rfl (gz_rg bf en3) wn_10).mp c_70
          refine lv_aload_n hx hb dX4_next_39 rfl (lv_at hl 0 rfl) ?_
          refine lv_dup hx hb dX4_next_40 rfl ?_
          refine va_get (D := D) (ci := 4) (v := .int (iZ en3)) (C := RX4) (T := TX4) (N := 12) hx hb hts iX4 hown hK hP 0 rfl rfl 5 (bl rfl) (hts _ qf_X4_47) (fun _ h => h) rfl dX4_next_41 ?_
          refine lv_iconst (v := iZ 1) hx hb dX4_next_44 rfl ?_
          refine lv_iadd hx hb dX4_next_45 ?_
          refine lv_topi (fun x_71 ex_71 => ?_)
          obtain rfl : x_71 = iZ (en3 + 1) := ex_71.trans (iZ_add en3 1)
          refine va_put (D := D) (ci := 4) (v := .int (iZ (en3 + 1))) (ty := .int) (C := RX4) (T := TX4) (N := 12) hx hb hts iX4 tyX4 tyX4_ok nmX4 hown hK hP hD hS 0 rfl rfl 5 (bl rfl) (hts _ qf_X4_47) (fun _ h => h) rfl (by decide +kernel) rfl rfl (Nat.le_of_ble_eq_true rfl) dX4_next_46 (fun H locs hP hD hS => ?_)
          refine lv_goto (tgt := 0) hx hb dX4_next_49 rfl ?_
          exact ih1  (en3 + 1) _ _ _ (by omega) (show en ≤ (en3 + 1) ∧ (en3 + 1) ≤ ln from ⟨by omega, by omega⟩) (show ∀ j : Int, en ≤ j → j < (en3 + 1) → wsB (tX bf ln j) from (rn_step hrun (show tX bf ln en3 = 32 ∨ tX bf ln en3 = 10 from (by omega)))) (hP.sub [0, 1, 2] rfl) (hD.sub [0, 1, 2] rfl rfl) hS (lv_sub hl [0] rfl)
        ·
          have c_70 := mt (zeq (x := iZ (gz bf en3)) (y := iZ 10) rfl rfl (gz_rg bf en3) wn_10).mpr c_70
          refine lv_aload_n hx hb dX4_next_25 rfl (lv_at hl 0 rfl) ?_
          refine va_get (D := D) (ci := 4) (v := .ref tx) (C := RX4) (T := TX4) (N := 12) hx hb hts iX4 hown hK hP 0 rfl rfl 0 (bl rfl) (hts _ qf_X4_9) (fun _ h => h) rfl dX4_next_26 ?_
          refine lv_aload_n hx hb dX4_next_29 rfl (lv_at hl 0 rfl) ?_
          refine va_get (D := D) (ci := 4) (v := .int (iZ en3)) (C := RX4) (T := TX4) (N := 12) hx hb hts iX4 hown hK hP 0 rfl rfl 5 (bl rfl) (hts _ qf_X4_47) (fun _ h => h) rfl dX4_next_30 ?_
          refine va_bald hx hb hK hP 1 0 rfl rfl (zin (e := en3) (n := 900) ⟨by omega, by omega⟩ (bl rfl)) dX4_next_33 ?_
          refine lv_topi (fun x_72 ex_72 => ?_)
          obtain rfl : x_72 = iZ (gz bf en3) := ex_72.trans (gz_eq ⟨by omega, by omega⟩)
          have h_73 := hbf en3 (by omega) (by omega)
          have ht_74 := tX_c (f := bf) (sz := ln) (x := en3) (by omega) (fun _ => h_73)
          refine lv_bipush (v := iZ 32) hx hb dX4_next_34 bip_32 ?_
          refine lv_icmp_ne (tgt := 52) hx hb dX4_next_36 rfl (fun c_75 => ?_) (fun c_75 => ?_)
          ·
            have c_75 := mt (zeq (x := iZ (gz bf en3)) (y := iZ 32) rfl rfl (gz_rg bf en3) wn_32).mpr c_75
            have hte_76 := tX_c (f := bf) (sz := ln) (x := en3) (by omega) (fun h9 => hbf _ (by omega) (by omega))
            have hpl : en3 = xPl (tX bf ln) en := rnF_eq ⟨by omega, hrun, (show ¬ (tX bf ln en3 = 32 ∨ tX bf ln en3 = 10) from (by omega))⟩
            refine lv_aload_n hx hb dX4_next_52 rfl (lv_at hl 0 rfl) ?_
            refine lv_aload_n hx hb dX4_next_53 rfl (lv_at hl 0 rfl) ?_
            refine va_get (D := D) (ci := 4) (v := .int (iZ en3)) (C := RX4) (T := TX4) (N := 12) hx hb hts iX4 hown hK hP 0 rfl rfl 5 (bl rfl) (hts _ qf_X4_47) (fun _ h => h) rfl dX4_next_54 ?_
            refine va_put (D := D) (ci := 4) (v := .int (iZ en3)) (ty := .int) (C := RX4) (T := TX4) (N := 12) hx hb hts iX4 tyX4 tyX4_ok nmX4 hown hK hP hD hS 0 rfl rfl 4 (bl rfl) (hts _ qf_X4_53) (fun _ h => h) rfl (by decide +kernel) rfl rfl (Nat.le_of_ble_eq_true rfl) dX4_next_57 (fun H locs hP hD hS => ?_)
            refine lv_aload_n hx hb dX4_next_60 rfl (lv_at hl 0 rfl) ?_
            refine lv_iconst (v := iZ (-1)) hx hb dX4_next_61 rfl ?_
            refine va_put (D := D) (ci := 4) (v := .int (iZ (-1))) (ty := .int) (C := RX4) (T := TX4) (N := 12) hx hb hts iX4 tyX4 tyX4_ok nmX4 hown hK hP hD hS 0 rfl rfl 8 (bl rfl) (hts _ qf_X4_56) (fun _ h => h) rfl (by decide +kernel) rfl rfl (Nat.le_of_ble_eq_true rfl) dX4_next_62 (fun H locs hP hD hS => ?_)
            refine lv_aload_n hx hb dX4_next_65 rfl (lv_at hl 0 rfl) ?_
            refine lv_ldc2 (own := RX4) (v := (-1)) hx hb hown (hts _ qk_X4_59) dX4_next_66 ?_
            refine va_put (D := D) (ci := 4) (v := .long (-1)) (ty := .long) (C := RX4) (T := TX4) (N := 12) hx hb hts iX4 tyX4 tyX4_ok nmX4 hown hK hP hD hS 0 rfl rfl 9 (bl rfl) (hts _ qf_X4_61) (fun _ h => h) rfl (by decide +kernel) rfl rfl (Nat.le_of_ble_eq_true rfl) dX4_next_69 (fun H locs hP hD hS => ?_)
            refine lv_aload_n hx hb dX4_next_72 rfl (lv_at hl 0 rfl) ?_
            refine lv_iconst (v := iZ (-1)) hx hb dX4_next_73 rfl ?_
            refine va_put (D := D) (ci := 4) (v := .int (iZ (-1))) (ty := .int) (C := RX4) (T := TX4) (N := 12) hx hb hts iX4 tyX4 tyX4_ok nmX4 hown hK hP hD hS 0 rfl rfl 7 (bl rfl) (hts _ qf_X4_65) (fun _ h => h) rfl (by decide +kernel) rfl rfl (Nat.le_of_ble_eq_true rfl) dX4_next_74 (fun H locs hP hD hS => ?_)
            refine lv_aload_n hx hb dX4_next_77 rfl (lv_at hl 0 rfl) ?_
            refine va_get (D := D) (ci := 4) (v := .int (iZ en3)) (C := RX4) (T := TX4) (N := 12) hx hb hts iX4 hown hK hP 0 rfl rfl 5 (bl rfl) (hts _ qf_X4_47) (fun _ h => h) rfl dX4_next_78 ?_
            refine lv_aload_n hx hb dX4_next_81 rfl (lv_at hl 0 rfl) ?_
            refine va_get (D := D) (ci := 4) (v := .int (iZ ln)) (C := RX4) (T := TX4) (N := 12) hx hb hts iX4 hown hK hP 0 rfl rfl 3 (bl rfl) (hts _ qf_X4_45) (fun _ h => h) rfl dX4_next_82 ?_
            refine lv_icmp_lt (tgt := 96) hx hb dX4_next_85 rfl (fun c_77 => ?_) (fun c_77 => ?_)
            ·
              have c_77 := (zlt (x := iZ en3) (y := iZ ln) rfl rfl ⟨by omega, by omega⟩ ⟨by omega, by omega⟩).mp c_77
              refine lv_aload_n hx hb dX4_next_96 rfl (lv_at hl 0 rfl) ?_
              refine va_get (D := D) (ci := 4) (v := .ref tx) (C := RX4) (T := TX4) (N := 12) hx hb hts iX4 hown hK hP 0 rfl rfl 0 (bl rfl) (hts _ qf_X4_9) (fun _ h => h) rfl dX4_next_97 ?_
              refine lv_aload_n hx hb dX4_next_100 rfl (lv_at hl 0 rfl) ?_
              refine va_get (D := D) (ci := 4) (v := .int (iZ en3)) (C := RX4) (T := TX4) (N := 12) hx hb hts iX4 hown hK hP 0 rfl rfl 5 (bl rfl) (hts _ qf_X4_47) (fun _ h => h) rfl dX4_next_101 ?_
              refine va_bald hx hb hK hP 1 0 rfl rfl (zin (e := en3) (n := 900) ⟨by omega, by omega⟩ (bl rfl)) dX4_next_104 ?_
              refine lv_topi (fun x_78 ex_78 => ?_)
              obtain rfl : x_78 = iZ (gz bf en3) := ex_78.trans (gz_eq ⟨by omega, by omega⟩)
              have h_79 := hbf en3 (by omega) (by omega)
              have ht_80 := tX_c (f := bf) (sz := ln) (x := en3) (by omega) (fun _ => h_79)
              refine lv_bipush (v := iZ 97) hx hb dX4_next_105 bip_97 ?_
              refine lv_icmp_lt (tgt := 131) hx hb dX4_next_107 rfl (fun c_81 => ?_) (fun c_81 => ?_)
              ·
                have c_81 := (zlt (x := iZ (gz bf en3)) (y := iZ 97) rfl rfl (gz_rg bf en3) wn_97).mp c_81
                refine lv_aload_n hx hb dX4_next_131 rfl (lv_at hl 0 rfl) ?_
                refine va_get (D := D) (ci := 4) (v := .ref tx) (C := RX4) (T := TX4) (N := 12) hx hb hts iX4 hown hK hP 0 rfl rfl 0 (bl rfl) (hts _ qf_X4_9) (fun _ h => h) rfl dX4_next_132 ?_
                refine lv_aload_n hx hb dX4_next_135 rfl (lv_at hl 0 rfl) ?_
                refine va_get (D := D) (ci := 4) (v := .int (iZ en3)) (C := RX4) (T := TX4) (N := 12) hx hb hts iX4 hown hK hP 0 rfl rfl 5 (bl rfl) (hts _ qf_X4_47) (fun _ h => h) rfl dX4_next_136 ?_
                refine va_bald hx hb hK hP 1 0 rfl rfl (zin (e := en3) (n := 900) ⟨by omega, by omega⟩ (bl rfl)) dX4_next_139 ?_
                refine lv_topi (fun x_82 ex_82 => ?_)
                obtain rfl : x_82 = iZ (gz bf en3) := ex_82.trans (gz_eq ⟨by omega, by omega⟩)
                have h_83 := hbf en3 (by omega) (by omega)
                have ht_84 := tX_c (f := bf) (sz := ln) (x := en3) (by omega) (fun _ => h_83)
                refine lv_bipush (v := iZ 48) hx hb dX4_next_140 bip_48 ?_
                refine lv_icmp_lt (tgt := 166) hx hb dX4_next_142 rfl (fun c_85 => ?_) (fun c_85 => ?_)
                ·
                  have c_85 := (zlt (x := iZ (gz bf en3)) (y := iZ 48) rfl rfl (gz_rg bf en3) wn_48).mp c_85
                  refine lv_aload_n hx hb dX4_next_166 rfl (lv_at hl 0 rfl) ?_
                  refine CWV (As := []) (rest := []) (wc := _) (wr := []) hx hb hml hown hts hKK hP hD hS hA (x_readSign l D k hr1 tx kw tp ln en3 en3 ki (-1) (-1) fk fp (-1) bf kwf ⟨⟨by omega, by omega⟩, ⟨by omega, by omega⟩, by omega, by omega⟩ hbf (by omega)) ci_X4_readSign qm_X4_77 ⟨Nat.le_of_ble_eq_true rfl, Nat.le_of_ble_eq_true rfl⟩ ⟨Nat.le_of_ble_eq_true rfl, Nat.le_of_ble_eq_true rfl⟩ [0, 1, 2] [] rfl rfl rfl rfl rfl (dj rfl) 0 rfl rfl rfl hl.1 rfl (Nat.le_of_ble_eq_true rfl) dX4_next_167 (fun u_86 H locs hφ hP hD hS => ?_)
                  obtain ⟨p_87, p_88, p_89, p_90⟩ : (u_86.1.2.1 = en3 + 1) ∧ (u_86.1.2.2.2 = gz bf en3) ∧ (((u_86.1.2.2.1 : Int) = 3 ∧ (gz bf en3 = 59 ∨ gz bf en3 = 60 ∨ gz bf en3 = 62 ∨ gz bf en3 = 61)) ∨ ((u_86.1.2.2.1 : Int) = 4 ∧ ¬ (gz bf en3 = 59 ∨ gz bf en3 = 60 ∨ gz bf en3 = 62 ∨ gz bf en3 = 61))) ∧ (-128 ≤ u_86.1.2.2.2 ∧ u_86.1.2.2.2 ≤ 127) := hφ
                  refine W.eq (g2 := F0 m 170 ls []) rfl ?_
                  have tk := tk_sign hpl (show ¬ tX bf ln en3 = -1 from (by omega)) (show ¬ (97 ≤ tX bf ln en3 ∧ tX bf ln en3 ≤ 122) from (by omega)) (show ¬ (48 ≤ tX bf ln en3 ∧ tX bf ln en3 ≤ 57) from (by omega))
                  exact EWv hx hb hr hlocks hS ((0, en3, u_86.1.2.1, u_86.1.2.2.1, u_86.1.2.2.2, (-1)), (0, (-1)), (), ()) rfl ⟨(show RDX (tX bf ln) en en3 u_86.1.2.1 u_86.1.2.2.1 u_86.1.2.2.2 (-1) (-1) from ⟨⟨by omega, hpl⟩, p_87.trans tk.1.symm, (by rw [tk.2.1]; split <;> omega), (fun h => by rw [tk.2.2.2]; omega), tk.2.2.1.symm, (fun h => absurd h (by omega)), Or.inr (by omega)⟩), (show (0 ≤ tp ∧ tp ≤ 900) ∧ (0 ≤ ln ∧ ln ≤ 900) ∧ (0 ≤ en3 ∧ en3 ≤ u_86.1.2.1) ∧ (u_86.1.2.1 ≤ ln) ∧ (0 ≤ u_86.1.2.2.1 ∧ u_86.1.2.2.1 ≤ 4) ∧ (-2147483648 ≤ u_86.1.2.2.2 ∧ u_86.1.2.2.2 < 2147483648) ∧ (-1 ≤ (-1) ∧ (-1) ≤ 24) from (by first | with_reducible assumption | exact ⟨⟨by omega, by omega⟩, ⟨by omega, by omega⟩, ⟨by omega, by omega⟩, by omega, ⟨by omega, by omega⟩, ⟨by omega, by omega⟩, by omega, by omega⟩))⟩ (hP.sub [0, 1, 2] rfl) (hD.sub [0, 1, 2] rfl rfl) dX4_next_170
                ·
                  have c_85 := mt (zlt (x := iZ (gz bf en3)) (y := iZ 48) rfl rfl (gz_rg bf en3) wn_48).mpr c_85
                  refine lv_aload_n hx hb dX4_next_145 rfl (lv_at hl 0 rfl) ?_
                  refine va_get (D := D) (ci := 4) (v := .ref tx) (C := RX4) (T := TX4) (N := 12) hx hb hts iX4 hown hK hP 0 rfl rfl 0 (bl rfl) (hts _ qf_X4_9) (fun _ h => h) rfl dX4_next_146 ?_
                  refine lv_aload_n hx hb dX4_next_149 rfl (lv_at hl 0 rfl) ?_
                  refine va_get (D := D) (ci := 4) (v := .int (iZ en3)) (C := RX4) (T := TX4) (N := 12) hx hb hts iX4 hown hK hP 0 rfl rfl 5 (bl rfl) (hts _ qf_X4_47) (fun _ h => h) rfl dX4_next_150 ?_
                  refine va_bald hx hb hK hP 1 0 rfl rfl (zin (e := en3) (n := 900) ⟨by omega, by omega⟩ (bl rfl)) dX4_next_153 ?_
                  refine lv_topi (fun x_91 ex_91 => ?_)
                  obtain rfl : x_91 = iZ (gz bf en3) := ex_91.trans (gz_eq ⟨by omega, by omega⟩)
                  have h_92 := hbf en3 (by omega) (by omega)
                  have ht_93 := tX_c (f := bf) (sz := ln) (x := en3) (by omega) (fun _ => h_92)
                  refine lv_bipush (v := iZ 57) hx hb dX4_next_154 bip_57 ?_
                  refine lv_icmp_gt (tgt := 166) hx hb dX4_next_156 rfl (fun c_94 => ?_) (fun c_94 => ?_)
                  ·
                    have c_94 := (zlt (x := iZ 57) (y := iZ (gz bf en3)) rfl rfl wn_57 (gz_rg bf en3)).mp c_94
                    refine lv_aload_n hx hb dX4_next_166 rfl (lv_at hl 0 rfl) ?_
                    refine CWV (As := []) (rest := []) (wc := _) (wr := []) hx hb hml hown hts hKK hP hD hS hA (x_readSign l D k hr1 tx kw tp ln en3 en3 ki (-1) (-1) fk fp (-1) bf kwf ⟨⟨by omega, by omega⟩, ⟨by omega, by omega⟩, by omega, by omega⟩ hbf (by omega)) ci_X4_readSign qm_X4_77 ⟨Nat.le_of_ble_eq_true rfl, Nat.le_of_ble_eq_true rfl⟩ ⟨Nat.le_of_ble_eq_true rfl, Nat.le_of_ble_eq_true rfl⟩ [0, 1, 2] [] rfl rfl rfl rfl rfl (dj rfl) 0 rfl rfl rfl hl.1 rfl (Nat.le_of_ble_eq_true rfl) dX4_next_167 (fun u_95 H locs hφ hP hD hS => ?_)
                    obtain ⟨p_96, p_97, p_98, p_99⟩ : (u_95.1.2.1 = en3 + 1) ∧ (u_95.1.2.2.2 = gz bf en3) ∧ (((u_95.1.2.2.1 : Int) = 3 ∧ (gz bf en3 = 59 ∨ gz bf en3 = 60 ∨ gz bf en3 = 62 ∨ gz bf en3 = 61)) ∨ ((u_95.1.2.2.1 : Int) = 4 ∧ ¬ (gz bf en3 = 59 ∨ gz bf en3 = 60 ∨ gz bf en3 = 62 ∨ gz bf en3 = 61))) ∧ (-128 ≤ u_95.1.2.2.2 ∧ u_95.1.2.2.2 ≤ 127) := hφ
                    refine W.eq (g2 := F0 m 170 ls []) rfl ?_
                    have tk := tk_sign hpl (show ¬ tX bf ln en3 = -1 from (by omega)) (show ¬ (97 ≤ tX bf ln en3 ∧ tX bf ln en3 ≤ 122) from (by omega)) (show ¬ (48 ≤ tX bf ln en3 ∧ tX bf ln en3 ≤ 57) from (by omega))
                    exact EWv hx hb hr hlocks hS ((0, en3, u_95.1.2.1, u_95.1.2.2.1, u_95.1.2.2.2, (-1)), (0, (-1)), (), ()) rfl ⟨(show RDX (tX bf ln) en en3 u_95.1.2.1 u_95.1.2.2.1 u_95.1.2.2.2 (-1) (-1) from ⟨⟨by omega, hpl⟩, p_96.trans tk.1.symm, (by rw [tk.2.1]; split <;> omega), (fun h => by rw [tk.2.2.2]; omega), tk.2.2.1.symm, (fun h => absurd h (by omega)), Or.inr (by omega)⟩), (show (0 ≤ tp ∧ tp ≤ 900) ∧ (0 ≤ ln ∧ ln ≤ 900) ∧ (0 ≤ en3 ∧ en3 ≤ u_95.1.2.1) ∧ (u_95.1.2.1 ≤ ln) ∧ (0 ≤ u_95.1.2.2.1 ∧ u_95.1.2.2.1 ≤ 4) ∧ (-2147483648 ≤ u_95.1.2.2.2 ∧ u_95.1.2.2.2 < 2147483648) ∧ (-1 ≤ (-1) ∧ (-1) ≤ 24) from (by first | with_reducible assumption | exact ⟨⟨by omega, by omega⟩, ⟨by omega, by omega⟩, ⟨by omega, by omega⟩, by omega, ⟨by omega, by omega⟩, ⟨by omega, by omega⟩, by omega, by omega⟩))⟩ (hP.sub [0, 1, 2] rfl) (hD.sub [0, 1, 2] rfl rfl) dX4_next_170
                  ·
                    have c_94 := mt (zlt (x := iZ 57) (y := iZ (gz bf en3)) rfl rfl wn_57 (gz_rg bf en3)).mpr c_94
                    refine lv_aload_n hx hb dX4_next_159 rfl (lv_at hl 0 rfl) ?_
                    refine CWV (As := []) (rest := []) (wc := _) (wr := []) hx hb hml hown hts hKK hP hD hS hA (x_readNumber l D k hr1 tx kw tp ln en3 en3 ki (-1) (-1) fk fp (-1) bf kwf ⟨⟨by omega, by omega⟩, ⟨by omega, by omega⟩, by omega, by omega⟩ hbf (by omega)) ci_X4_readNumber qm_X4_74 ⟨Nat.le_of_ble_eq_true rfl, Nat.le_of_ble_eq_true rfl⟩ ⟨Nat.le_of_ble_eq_true rfl, Nat.le_of_ble_eq_true rfl⟩ [0, 1, 2] [] rfl rfl rfl rfl rfl (dj rfl) 0 rfl rfl rfl hl.1 rfl (Nat.le_of_ble_eq_true rfl) dX4_next_160 (fun u_100 H locs hφ hP hD hS => ?_)
                    obtain ⟨p_101, p_102, p_103, p_104, p_105⟩ : (isRn dgB (tX bf ln) en3 u_100.1.2.1) ∧ (((u_100.1.2.2.1 : Int) = 4 ∧ 4 < u_100.1.2.1 - en3) ∨ ((u_100.1.2.2.1 : Int) = 2 ∧ u_100.1.2.1 - en3 ≤ 4)) ∧ (u_100.1.2.1 - en3 ≤ 4 → u_100.1.2.2.2 = xDv (tX bf ln) en3 (u_100.1.2.1 - en3).toNat) ∧ (en3 ≤ u_100.1.2.1 ∧ u_100.1.2.1 ≤ ln) ∧ (0 ≤ u_100.1.2.2.2 ∧ u_100.1.2.2.2 ≤ 9999) := hφ
                    refine W.eq (g2 := F0 m 163 ls []) rfl ?_
                    refine lv_goto (tgt := 170) hx hb dX4_next_163 rfl ?_
                    have hdg : dgB (tX bf ln en3) := (show 48 ≤ tX bf ln en3 ∧ tX bf ln en3 ≤ 57 from (by omega))
                    have tk := tk_num hpl hdg p_101
                    exact EWv hx hb hr hlocks hS ((0, en3, u_100.1.2.1, u_100.1.2.2.1, u_100.1.2.2.2, (-1)), (0, (-1)), (), ()) rfl ⟨(show RDX (tX bf ln) en en3 u_100.1.2.1 u_100.1.2.2.1 u_100.1.2.2.2 (-1) (-1) from ⟨⟨by omega, hpl⟩, tk.1.symm, (by rw [tk.2.1]; split <;> omega), (fun h => by rw [tk.2.2.2]; exact p_103 (by omega)), tk.2.2.1.symm, (fun h => absurd h (by omega)), Or.inr (rn_lt p_101 hdg)⟩), (show (0 ≤ tp ∧ tp ≤ 900) ∧ (0 ≤ ln ∧ ln ≤ 900) ∧ (0 ≤ en3 ∧ en3 ≤ u_100.1.2.1) ∧ (u_100.1.2.1 ≤ ln) ∧ (0 ≤ u_100.1.2.2.1 ∧ u_100.1.2.2.1 ≤ 4) ∧ (-2147483648 ≤ u_100.1.2.2.2 ∧ u_100.1.2.2.2 < 2147483648) ∧ (-1 ≤ (-1) ∧ (-1) ≤ 24) from (by first | with_reducible assumption | exact ⟨⟨by omega, by omega⟩, ⟨by omega, by omega⟩, ⟨by omega, by omega⟩, by omega, ⟨by omega, by omega⟩, ⟨by omega, by omega⟩, by omega, by omega⟩))⟩ (hP.sub [0, 1, 2] rfl) (hD.sub [0, 1, 2] rfl rfl) dX4_next_170
              ·
                have c_81 := mt (zlt (x := iZ (gz bf en3)) (y := iZ 97) rfl rfl (gz_rg bf en3) wn_97).mpr c_81
                refine lv_aload_n hx hb dX4_next_110 rfl (lv_at hl 0 rfl) ?_
                refine va_get (D := D) (ci := 4) (v := .ref tx) (C := RX4) (T := TX4) (N := 12) hx hb hts iX4 hown hK hP 0 rfl rfl 0 (bl rfl) (hts _ qf_X4_9) (fun _ h => h) rfl dX4_next_111 ?_
                refine lv_aload_n hx hb dX4_next_114 rfl (lv_at hl 0 rfl) ?_
                refine va_get (D := D) (ci := 4) (v := .int (iZ en3)) (C := RX4) (T := TX4) (N := 12) hx hb hts iX4 hown hK hP 0 rfl rfl 5 (bl rfl) (hts _ qf_X4_47) (fun _ h => h) rfl dX4_next_115 ?_
                refine va_bald hx hb hK hP 1 0 rfl rfl (zin (e := en3) (n := 900) ⟨by omega, by omega⟩ (bl rfl)) dX4_next_118 ?_
                refine lv_topi (fun x_106 ex_106 => ?_)
                obtain rfl : x_106 = iZ (gz bf en3) := ex_106.trans (gz_eq ⟨by omega, by omega⟩)
                have h_107 := hbf en3 (by omega) (by omega)
                have ht_108 := tX_c (f := bf) (sz := ln) (x := en3) (by omega) (fun _ => h_107)
                refine lv_bipush (v := iZ 122) hx hb dX4_next_119 bip_122 ?_
                refine lv_icmp_gt (tgt := 131) hx hb dX4_next_121 rfl (fun c_109 => ?_) (fun c_109 => ?_)
                ·
                  have c_109 := (zlt (x := iZ 122) (y := iZ (gz bf en3)) rfl rfl wn_122 (gz_rg bf en3)).mp c_109
                  refine lv_aload_n hx hb dX4_next_131 rfl (lv_at hl 0 rfl) ?_
                  refine va_get (D := D) (ci := 4) (v := .ref tx) (C := RX4) (T := TX4) (N := 12) hx hb hts iX4 hown hK hP 0 rfl rfl 0 (bl rfl) (hts _ qf_X4_9) (fun _ h => h) rfl dX4_next_132 ?_
                  refine lv_aload_n hx hb dX4_next_135 rfl (lv_at hl 0 rfl) ?_
                  refine va_get (D := D) (ci := 4) (v := .int (iZ en3)) (C := RX4) (T := TX4) (N := 12) hx hb hts iX4 hown hK hP 0 rfl rfl 5 (bl rfl) (hts _ qf_X4_47) (fun _ h => h) rfl dX4_next_136 ?_
                  refine va_bald hx hb hK hP 1 0 rfl rfl (zin (e := en3) (n := 900) ⟨by omega, by omega⟩ (bl rfl)) dX4_next_139 ?_
                  refine lv_topi (fun x_110 ex_110 => ?_)
                  obtain rfl : x_110 = iZ (gz bf en3) := ex_110.trans (gz_eq ⟨by omega, by omega⟩)
                  have h_111 := hbf en3 (by omega) (by omega)
                  have ht_112 := tX_c (f := bf) (sz := ln) (x := en3) (by omega) (fun _ => h_111)
                  refine lv_bipush (v := iZ 48) hx hb dX4_next_140 bip_48 ?_
                  refine lv_icmp_lt (tgt := 166) hx hb dX4_next_142 rfl (fun c_113 => ?_) (fun c_113 => ?_)
                  ·
                    have c_113 := (zlt (x := iZ (gz bf en3)) (y := iZ 48) rfl rfl (gz_rg bf en3) wn_48).mp c_113
                    refine lv_aload_n hx hb dX4_next_166 rfl (lv_at hl 0 rfl) ?_
                    refine CWV (As := []) (rest := []) (wc := _) (wr := []) hx hb hml hown hts hKK hP hD hS hA (x_readSign l D k hr1 tx kw tp ln en3 en3 ki (-1) (-1) fk fp (-1) bf kwf ⟨⟨by omega, by omega⟩, ⟨by omega, by omega⟩, by omega, by omega⟩ hbf (by omega)) ci_X4_readSign qm_X4_77 ⟨Nat.le_of_ble_eq_true rfl, Nat.le_of_ble_eq_true rfl⟩ ⟨Nat.le_of_ble_eq_true rfl, Nat.le_of_ble_eq_true rfl⟩ [0, 1, 2] [] rfl rfl rfl rfl rfl (dj rfl) 0 rfl rfl rfl hl.1 rfl (Nat.le_of_ble_eq_true rfl) dX4_next_167 (fun u_114 H locs hφ hP hD hS => ?_)
                    obtain ⟨p_115, p_116, p_117, p_118⟩ : (u_114.1.2.1 = en3 + 1) ∧ (u_114.1.2.2.2 = gz bf en3) ∧ (((u_114.1.2.2.1 : Int) = 3 ∧ (gz bf en3 = 59 ∨ gz bf en3 = 60 ∨ gz bf en3 = 62 ∨ gz bf en3 = 61)) ∨ ((u_114.1.2.2.1 : Int) = 4 ∧ ¬ (gz bf en3 = 59 ∨ gz bf en3 = 60 ∨ gz bf en3 = 62 ∨ gz bf en3 = 61))) ∧ (-128 ≤ u_114.1.2.2.2 ∧ u_114.1.2.2.2 ≤ 127) := hφ
                    refine W.eq (g2 := F0 m 170 ls []) rfl ?_
                    have tk := tk_sign hpl (show ¬ tX bf ln en3 = -1 from (by omega)) (show ¬ (97 ≤ tX bf ln en3 ∧ tX bf ln en3 ≤ 122) from (by omega)) (show ¬ (48 ≤ tX bf ln en3 ∧ tX bf ln en3 ≤ 57) from (by omega))
                    exact EWv hx hb hr hlocks hS ((0, en3, u_114.1.2.1, u_114.1.2.2.1, u_114.1.2.2.2, (-1)), (0, (-1)), (), ()) rfl ⟨(show RDX (tX bf ln) en en3 u_114.1.2.1 u_114.1.2.2.1 u_114.1.2.2.2 (-1) (-1) from ⟨⟨by omega, hpl⟩, p_115.trans tk.1.symm, (by rw [tk.2.1]; split <;> omega), (fun h => by rw [tk.2.2.2]; omega), tk.2.2.1.symm, (fun h => absurd h (by omega)), Or.inr (by omega)⟩), (show (0 ≤ tp ∧ tp ≤ 900) ∧ (0 ≤ ln ∧ ln ≤ 900) ∧ (0 ≤ en3 ∧ en3 ≤ u_114.1.2.1) ∧ (u_114.1.2.1 ≤ ln) ∧ (0 ≤ u_114.1.2.2.1 ∧ u_114.1.2.2.1 ≤ 4) ∧ (-2147483648 ≤ u_114.1.2.2.2 ∧ u_114.1.2.2.2 < 2147483648) ∧ (-1 ≤ (-1) ∧ (-1) ≤ 24) from (by first | with_reducible assumption | exact ⟨⟨by omega, by omega⟩, ⟨by omega, by omega⟩, ⟨by omega, by omega⟩, by omega, ⟨by omega, by omega⟩, ⟨by omega, by omega⟩, by omega, by omega⟩))⟩ (hP.sub [0, 1, 2] rfl) (hD.sub [0, 1, 2] rfl rfl) dX4_next_170
                  ·
                    have c_113 := mt (zlt (x := iZ (gz bf en3)) (y := iZ 48) rfl rfl (gz_rg bf en3) wn_48).mpr c_113
                    refine lv_aload_n hx hb dX4_next_145 rfl (lv_at hl 0 rfl) ?_
                    refine va_get (D := D) (ci := 4) (v := .ref tx) (C := RX4) (T := TX4) (N := 12) hx hb hts iX4 hown hK hP 0 rfl rfl 0 (bl rfl) (hts _ qf_X4_9) (fun _ h => h) rfl dX4_next_146 ?_
                    refine lv_aload_n hx hb dX4_next_149 rfl (lv_at hl 0 rfl) ?_
                    refine va_get (D := D) (ci := 4) (v := .int (iZ en3)) (C := RX4) (T := TX4) (N := 12) hx hb hts iX4 hown hK hP 0 rfl rfl 5 (bl rfl) (hts _ qf_X4_47) (fun _ h => h) rfl dX4_next_150 ?_
                    refine va_bald hx hb hK hP 1 0 rfl rfl (zin (e := en3) (n := 900) ⟨by omega, by omega⟩ (bl rfl)) dX4_next_153 ?_
                    refine lv_topi (fun x_119 ex_119 => ?_)
                    obtain rfl : x_119 = iZ (gz bf en3) := ex_119.trans (gz_eq ⟨by omega, by omega⟩)
                    have h_120 := hbf en3 (by omega) (by omega)
                    have ht_121 := tX_c (f := bf) (sz := ln) (x := en3) (by omega) (fun _ => h_120)
                    refine lv_bipush (v := iZ 57) hx hb dX4_next_154 bip_57 ?_
                    refine lv_icmp_gt (tgt := 166) hx hb dX4_next_156 rfl (fun c_122 => ?_) (fun c_122 => ?_)
                    ·
                      have c_122 := (zlt (x := iZ 57) (y := iZ (gz bf en3)) rfl rfl wn_57 (gz_rg bf en3)).mp c_122
                      refine lv_aload_n hx hb dX4_next_166 rfl (lv_at hl 0 rfl) ?_
                      refine CWV (As := []) (rest := []) (wc := _) (wr := []) hx hb hml hown hts hKK hP hD hS hA (x_readSign l D k hr1 tx kw tp ln en3 en3 ki (-1) (-1) fk fp (-1) bf kwf ⟨⟨by omega, by omega⟩, ⟨by omega, by omega⟩, by omega, by omega⟩ hbf (by omega)) ci_X4_readSign qm_X4_77 ⟨Nat.le_of_ble_eq_true rfl, Nat.le_of_ble_eq_true rfl⟩ ⟨Nat.le_of_ble_eq_true rfl, Nat.le_of_ble_eq_true rfl⟩ [0, 1, 2] [] rfl rfl rfl rfl rfl (dj rfl) 0 rfl rfl rfl hl.1 rfl (Nat.le_of_ble_eq_true rfl) dX4_next_167 (fun u_123 H locs hφ hP hD hS => ?_)
                      obtain ⟨p_124, p_125, p_126, p_127⟩ : (u_123.1.2.1 = en3 + 1) ∧ (u_123.1.2.2.2 = gz bf en3) ∧ (((u_123.1.2.2.1 : Int) = 3 ∧ (gz bf en3 = 59 ∨ gz bf en3 = 60 ∨ gz bf en3 = 62 ∨ gz bf en3 = 61)) ∨ ((u_123.1.2.2.1 : Int) = 4 ∧ ¬ (gz bf en3 = 59 ∨ gz bf en3 = 60 ∨ gz bf en3 = 62 ∨ gz bf en3 = 61))) ∧ (-128 ≤ u_123.1.2.2.2 ∧ u_123.1.2.2.2 ≤ 127) := hφ
                      refine W.eq (g2 := F0 m 170 ls []) rfl ?_
                      have tk := tk_sign hpl (show ¬ tX bf ln en3 = -1 from (by omega)) (show ¬ (97 ≤ tX bf ln en3 ∧ tX bf ln en3 ≤ 122) from (by omega)) (show ¬ (48 ≤ tX bf ln en3 ∧ tX bf ln en3 ≤ 57) from (by omega))
                      exact EWv hx hb hr hlocks hS ((0, en3, u_123.1.2.1, u_123.1.2.2.1, u_123.1.2.2.2, (-1)), (0, (-1)), (), ()) rfl ⟨(show RDX (tX bf ln) en en3 u_123.1.2.1 u_123.1.2.2.1 u_123.1.2.2.2 (-1) (-1) from ⟨⟨by omega, hpl⟩, p_124.trans tk.1.symm, (by rw [tk.2.1]; split <;> omega), (fun h => by rw [tk.2.2.2]; omega), tk.2.2.1.symm, (fun h => absurd h (by omega)), Or.inr (by omega)⟩), (show (0 ≤ tp ∧ tp ≤ 900) ∧ (0 ≤ ln ∧ ln ≤ 900) ∧ (0 ≤ en3 ∧ en3 ≤ u_123.1.2.1) ∧ (u_123.1.2.1 ≤ ln) ∧ (0 ≤ u_123.1.2.2.1 ∧ u_123.1.2.2.1 ≤ 4) ∧ (-2147483648 ≤ u_123.1.2.2.2 ∧ u_123.1.2.2.2 < 2147483648) ∧ (-1 ≤ (-1) ∧ (-1) ≤ 24) from (by first | with_reducible assumption | exact ⟨⟨by omega, by omega⟩, ⟨by omega, by omega⟩, ⟨by omega, by omega⟩, by omega, ⟨by omega, by omega⟩, ⟨by omega, by omega⟩, by omega, by omega⟩))⟩ (hP.sub [0, 1, 2] rfl) (hD.sub [0, 1, 2] rfl rfl) dX4_next_170
                    ·
                      have c_122 := mt (zlt (x := iZ 57) (y := iZ (gz bf en3)) rfl rfl wn_57 (gz_rg bf en3)).mpr c_122
                      refine lv_aload_n hx hb dX4_next_159 rfl (lv_at hl 0 rfl) ?_
                      refine CWV (As := []) (rest := []) (wc := _) (wr := []) hx hb hml hown hts hKK hP hD hS hA (x_readNumber l D k hr1 tx kw tp ln en3 en3 ki (-1) (-1) fk fp (-1) bf kwf ⟨⟨by omega, by omega⟩, ⟨by omega, by omega⟩, by omega, by omega⟩ hbf (by omega)) ci_X4_readNumber qm_X4_74 ⟨Nat.le_of_ble_eq_true rfl, Nat.le_of_ble_eq_true rfl⟩ ⟨Nat.le_of_ble_eq_true rfl, Nat.le_of_ble_eq_true rfl⟩ [0, 1, 2] [] rfl rfl rfl rfl rfl (dj rfl) 0 rfl rfl rfl hl.1 rfl (Nat.le_of_ble_eq_true rfl) dX4_next_160 (fun u_128 H locs hφ hP hD hS => ?_)
                      obtain ⟨p_129, p_130, p_131, p_132, p_133⟩ : (isRn dgB (tX bf ln) en3 u_128.1.2.1) ∧ (((u_128.1.2.2.1 : Int) = 4 ∧ 4 < u_128.1.2.1 - en3) ∨ ((u_128.1.2.2.1 : Int) = 2 ∧ u_128.1.2.1 - en3 ≤ 4)) ∧ (u_128.1.2.1 - en3 ≤ 4 → u_128.1.2.2.2 = xDv (tX bf ln) en3 (u_128.1.2.1 - en3).toNat) ∧ (en3 ≤ u_128.1.2.1 ∧ u_128.1.2.1 ≤ ln) ∧ (0 ≤ u_128.1.2.2.2 ∧ u_128.1.2.2.2 ≤ 9999) := hφ
                      refine W.eq (g2 := F0 m 163 ls []) rfl ?_
                      refine lv_goto (tgt := 170) hx hb dX4_next_163 rfl ?_
                      have hdg : dgB (tX bf ln en3) := (show 48 ≤ tX bf ln en3 ∧ tX bf ln en3 ≤ 57 from (by omega))
                      have tk := tk_num hpl hdg p_129
                      exact EWv hx hb hr hlocks hS ((0, en3, u_128.1.2.1, u_128.1.2.2.1, u_128.1.2.2.2, (-1)), (0, (-1)), (), ()) rfl ⟨(show RDX (tX bf ln) en en3 u_128.1.2.1 u_128.1.2.2.1 u_128.1.2.2.2 (-1) (-1) from ⟨⟨by omega, hpl⟩, tk.1.symm, (by rw [tk.2.1]; split <;> omega), (fun h => by rw [tk.2.2.2]; exact p_131 (by omega)), tk.2.2.1.symm, (fun h => absurd h (by omega)), Or.inr (rn_lt p_129 hdg)⟩), (show (0 ≤ tp ∧ tp ≤ 900) ∧ (0 ≤ ln ∧ ln ≤ 900) ∧ (0 ≤ en3 ∧ en3 ≤ u_128.1.2.1) ∧ (u_128.1.2.1 ≤ ln) ∧ (0 ≤ u_128.1.2.2.1 ∧ u_128.1.2.2.1 ≤ 4) ∧ (-2147483648 ≤ u_128.1.2.2.2 ∧ u_128.1.2.2.2 < 2147483648) ∧ (-1 ≤ (-1) ∧ (-1) ≤ 24) from (by first | with_reducible assumption | exact ⟨⟨by omega, by omega⟩, ⟨by omega, by omega⟩, ⟨by omega, by omega⟩, by omega, ⟨by omega, by omega⟩, ⟨by omega, by omega⟩, by omega, by omega⟩))⟩ (hP.sub [0, 1, 2] rfl) (hD.sub [0, 1, 2] rfl rfl) dX4_next_170
                ·
                  have c_109 := mt (zlt (x := iZ 122) (y := iZ (gz bf en3)) rfl rfl wn_122 (gz_rg bf en3)).mpr c_109
                  refine lv_aload_n hx hb dX4_next_124 rfl (lv_at hl 0 rfl) ?_
                  refine CWV (As := []) (rest := []) (wc := _) (wr := []) hx hb hml hown hts hKK hP hD hS hA (x_readWord l D k hr1 tx kw tp ln en3 en3 ki (-1) (-1) fk fp (-1) bf kwf ⟨⟨by omega, by omega⟩, ⟨by omega, by omega⟩, by omega, by omega⟩ hbf hkw (by omega) (by omega)) ci_X4_readWord qm_X4_71 ⟨Nat.le_of_ble_eq_true rfl, Nat.le_of_ble_eq_true rfl⟩ ⟨Nat.le_of_ble_eq_true rfl, Nat.le_of_ble_eq_true rfl⟩ [0, 1, 2] [] rfl rfl rfl rfl rfl (dj rfl) 0 rfl rfl rfl hl.1 rfl (Nat.le_of_ble_eq_true rfl) dX4_next_125 (fun u_134 H locs hφ hP hD hS => ?_)
                  obtain ⟨p_135, p_136, p_137, p_138, p_139, p_140⟩ : (isRn smB (tX bf ln) en3 u_134.1.2.1) ∧ (u_134.2.1.2 = lZ (xCw (tX bf ln) en3 u_134.1.2.1)) ∧ (u_134.1.2.2.2 = kwu (xCw (tX bf ln) en3 u_134.1.2.1) 25) ∧ ((u_134.1.2.2.1 : Int) = 1) ∧ (en3 ≤ u_134.1.2.1 ∧ u_134.1.2.1 ≤ ln) ∧ (-1 ≤ u_134.1.2.2.2 ∧ u_134.1.2.2.2 ≤ 24) := hφ
                  refine W.eq (g2 := F0 m 128 ls []) rfl ?_
                  refine lv_goto (tgt := 170) hx hb dX4_next_128 rfl ?_
                  have hsm : smB (tX bf ln en3) := (show 97 ≤ tX bf ln en3 ∧ tX bf ln en3 ≤ 122 from (by omega))
                  have tk := tk_word hpl hsm p_135
                  exact EWv hx hb hr hlocks hS ((0, en3, u_134.1.2.1, u_134.1.2.2.1, (-1), u_134.1.2.2.2), (0, u_134.2.1.2), (), ()) rfl ⟨(show RDX (tX bf ln) en en3 u_134.1.2.1 u_134.1.2.2.1 (-1) u_134.1.2.2.2 u_134.2.1.2 from ⟨⟨by omega, hpl⟩, tk.1.symm, p_138.trans tk.2.1.symm, (fun h => absurd h (by omega)), p_137.trans tk.2.2.2.symm, (fun _ => ⟨p_136.trans (congrArg lZ tk.2.2.1.symm), by unfold xLn; rw [tk.1, ← hpl]; exact xLet_rn p_135⟩), Or.inr (rn_lt p_135 hsm)⟩), (show (0 ≤ tp ∧ tp ≤ 900) ∧ (0 ≤ ln ∧ ln ≤ 900) ∧ (0 ≤ en3 ∧ en3 ≤ u_134.1.2.1) ∧ (u_134.1.2.1 ≤ ln) ∧ (0 ≤ u_134.1.2.2.1 ∧ u_134.1.2.2.1 ≤ 4) ∧ (-2147483648 ≤ (-1) ∧ (-1) < 2147483648) ∧ (-1 ≤ u_134.1.2.2.2 ∧ u_134.1.2.2.2 ≤ 24) from (by first | with_reducible assumption | exact ⟨⟨by omega, by omega⟩, ⟨by omega, by omega⟩, ⟨by omega, by omega⟩, by omega, ⟨by omega, by omega⟩, ⟨by omega, by omega⟩, by omega, by omega⟩))⟩ (hP.sub [0, 1, 2] rfl) (hD.sub [0, 1, 2] rfl rfl) dX4_next_170
            ·
              have c_77 := mt (zlt (x := iZ en3) (y := iZ ln) rfl rfl ⟨by omega, by omega⟩ ⟨by omega, by omega⟩).mpr c_77
              refine lv_aload_n hx hb dX4_next_88 rfl (lv_at hl 0 rfl) ?_
              refine lv_iconst (v := iZ 0) hx hb dX4_next_89 rfl ?_
              refine va_put (D := D) (ci := 4) (v := .int (iZ 0)) (ty := .int) (C := RX4) (T := TX4) (N := 12) hx hb hts iX4 tyX4 tyX4_ok nmX4 hown hK hP hD hS 0 rfl rfl 6 (bl rfl) (hts _ qf_X4_68) (fun _ h => h) rfl (by decide +kernel) rfl rfl (Nat.le_of_ble_eq_true rfl) dX4_next_90 (fun H locs hP hD hS => ?_)
              refine lv_goto (tgt := 170) hx hb dX4_next_93 rfl ?_
              have tk := tk_end hpl (show tX bf ln en3 = -1 from (by omega))
              exact EWv hx hb hr hlocks hS ((0, en3, en3, 0, (-1), (-1)), (0, (-1)), (), ()) rfl ⟨(show RDX (tX bf ln) en en3 en3 0 (-1) (-1) (-1) from ⟨⟨by omega, hpl⟩, tk.1.symm, tk.2.1.symm, (fun h => absurd h (by omega)), tk.2.2.symm, (fun h => absurd h (by omega)), Or.inl rfl⟩), (show (0 ≤ tp ∧ tp ≤ 900) ∧ (0 ≤ ln ∧ ln ≤ 900) ∧ (0 ≤ en3 ∧ en3 ≤ en3) ∧ (en3 ≤ ln) ∧ (0 ≤ 0 ∧ 0 ≤ 4) ∧ (-2147483648 ≤ (-1) ∧ (-1) < 2147483648) ∧ (-1 ≤ (-1) ∧ (-1) ≤ 24) from (by first | with_reducible assumption | exact ⟨⟨by omega, by omega⟩, ⟨by omega, by omega⟩, ⟨by omega, by omega⟩, by omega, ⟨by omega, by omega⟩, ⟨by omega, by omega⟩, by omega, by omega⟩))⟩ (hP.sub [0, 1, 2] rfl) (hD.sub [0, 1, 2] rfl rfl) dX4_next_170
          ·
            have c_75 := (zeq (x := iZ (gz bf en3)) (y := iZ 32) rfl rfl (gz_rg bf en3) wn_32).mp c_75
            refine lv_aload_n hx hb dX4_next_39 rfl (lv_at hl 0 rfl) ?_
            refine lv_dup hx hb dX4_next_40 rfl ?_
            refine va_get (D := D) (ci := 4) (v := .int (iZ en3)) (C := RX4) (T := TX4) (N := 12) hx hb hts iX4 hown hK hP 0 rfl rfl 5 (bl rfl) (hts _ qf_X4_47) (fun _ h => h) rfl dX4_next_41 ?_
            refine lv_iconst (v := iZ 1) hx hb dX4_next_44 rfl ?_
            refine lv_iadd hx hb dX4_next_45 ?_
            refine lv_topi (fun x_141 ex_141 => ?_)
            obtain rfl : x_141 = iZ (en3 + 1) := ex_141.trans (iZ_add en3 1)
            refine va_put (D := D) (ci := 4) (v := .int (iZ (en3 + 1))) (ty := .int) (C := RX4) (T := TX4) (N := 12) hx hb hts iX4 tyX4 tyX4_ok nmX4 hown hK hP hD hS 0 rfl rfl 5 (bl rfl) (hts _ qf_X4_47) (fun _ h => h) rfl (by decide +kernel) rfl rfl (Nat.le_of_ble_eq_true rfl) dX4_next_46 (fun H locs hP hD hS => ?_)
            refine lv_goto (tgt := 0) hx hb dX4_next_49 rfl ?_
            exact ih1  (en3 + 1) _ _ _ (by omega) (show en ≤ (en3 + 1) ∧ (en3 + 1) ≤ ln from ⟨by omega, by omega⟩) (show ∀ j : Int, en ≤ j → j < (en3 + 1) → wsB (tX bf ln j) from (rn_step hrun (show tX bf ln en3 = 32 ∨ tX bf ln en3 = 10 from (by omega)))) (hP.sub [0, 1, 2] rfl) (hD.sub [0, 1, 2] rfl rfl) hS (lv_sub hl [0] rfl)
  exact HL1 902 en _ _ _ (by omega) (show en ≤ en ∧ en ≤ ln from ⟨by omega, by omega⟩) (show ∀ j : Int, en ≤ j → j < en → wsB (tX bf ln j) from rn_none) (hP.sub [0, 1, 2] rfl) (hD.sub [0, 1, 2] rfl rfl) hS (lv_sub hl [0] rfl)
set_option maxHeartbeats 4000000 in
set_option maxRecDepth 100000 in
theorem x_open (l : Launch) (D : va_G) (k : Nat → ClassId) (hr1 : Nat) (tx : Nat) (kw : Nat) (tp : Int) (ln : Int) (pl : Int) (en : Int) (ki : Int) (va : Int) (ke : Int) (fk : Int) (fp : Int) (nm : Int64) (bf : Nat → Int32) (kwf : Nat → Int64) (b : Int) (hb0 : 0 ≤ b ∧ b ≤ 900) (hbf : rgI bf (-128) 127 900) (hkw : ∀ j : Nat, j < 25 → kwf j = lZ (kwC j)) : WD (σ := ((Int × Int × Int × Int × Int × Int × Int × Int × Int × Int) × (Int64 × Int64) × (Unit) × (Unit))) l yX4_open cX4_open 2 none 2 0 0 D k [.ref hr1, .int (iZ b)] [(hr1, .inr (4, [.ref tx, .ref kw, .int (iZ tp), .int (iZ ln), .int (iZ pl), .int (iZ en), .int (iZ ki), .int (iZ va), .int (iZ ke), .long nm, .int (iZ fk), .int (iZ fp)])), (tx, .inl (k 0, 900, .inl bf)), (kw, .inl (k 2, 25, .inr (.inl kwf)))] (fun _ => none) (fun u => (RDX (tX bf u.1.2.2.1) 0 u.1.2.2.2.1 u.1.2.2.2.2.1 u.1.2.2.2.2.2.1 u.1.2.2.2.2.2.2.1 u.1.2.2.2.2.2.2.2.1 u.2.1.2) ∧ ((0 ≤ u.1.2.1 ∧ u.1.2.1 ≤ 900) ∧ (0 ≤ u.1.2.2.1 ∧ u.1.2.2.1 ≤ 900) ∧ (0 ≤ u.1.2.2.2.1 ∧ u.1.2.2.2.1 ≤ u.1.2.2.2.2.1) ∧ (u.1.2.2.2.2.1 ≤ u.1.2.2.1) ∧ (0 ≤ u.1.2.2.2.2.2.1 ∧ u.1.2.2.2.2.2.1 ≤ 4) ∧ (-2147483648 ≤ u.1.2.2.2.2.2.2.1 ∧ u.1.2.2.2.2.2.2.1 < 2147483648) ∧ (-1 ≤ u.1.2.2.2.2.2.2.2.1 ∧ u.1.2.2.2.2.2.2.2.1 ≤ 24)) ∧ ((u.1.2.1 : Int) = 0 ∧ u.1.2.2.1 = b ∧ (u.1.2.2.2.2.2.2.2.2.1 : Int) = 0 ∧ u.1.2.2.2.2.2.2.2.2.2 = -1)) (fun u => [(hr1, .inr (4, [.ref tx, .ref kw, .int (iZ u.1.2.1), .int (iZ u.1.2.2.1), .int (iZ u.1.2.2.2.1), .int (iZ u.1.2.2.2.2.1), .int (iZ u.1.2.2.2.2.2.1), .int (iZ u.1.2.2.2.2.2.2.1), .int (iZ u.1.2.2.2.2.2.2.2.1), .long u.2.1.2, .int (iZ u.1.2.2.2.2.2.2.2.2.1), .int (iZ u.1.2.2.2.2.2.2.2.2.2)])), (tx, .inl (k 0, 900, .inl bf)), (kw, .inl (k 2, 25, .inr (.inl kwf)))]) := by
  refine MW (by decide) (Nat.le_of_ble_eq_true rfl) (fun p e s m below meth c ls A hx hb hml hr hlocks hin hts hown hKK hP hD hS hA hl => ?_)
  have hK := hKK.1
  have hl : lv_has ls 2 [(0, .ref hr1), (1, .int (iZ b))] := hl
  refine lv_aload_n hx hb dX4_open_0 rfl (lv_at hl 0 rfl) ?_
  refine lv_iload_n hx hb dX4_open_1 rfl (lv_at hl 1 rfl) ?_
  refine va_put (D := D) (ci := 4) (v := .int (iZ b)) (ty := .int) (C := RX4) (T := TX4) (N := 12) hx hb hts iX4 tyX4 tyX4_ok nmX4 hown hK hP hD hS 0 rfl rfl 3 (bl rfl) (hts _ qf_X4_45) (fun _ h => h) rfl (by decide +kernel) rfl rfl (Nat.le_of_ble_eq_true rfl) dX4_open_2 (fun H locs hP hD hS => ?_)
  refine lv_aload_n hx hb dX4_open_5 rfl (lv_at hl 0 rfl) ?_
  refine lv_iconst (v := iZ 0) hx hb dX4_open_6 rfl ?_
  refine va_put (D := D) (ci := 4) (v := .int (iZ 0)) (ty := .int) (C := RX4) (T := TX4) (N := 12) hx hb hts iX4 tyX4 tyX4_ok nmX4 hown hK hP hD hS 0 rfl rfl 2 (bl rfl) (hts _ qf_X4_42) (fun _ h => h) rfl (by decide +kernel) rfl rfl (Nat.le_of_ble_eq_true rfl) dX4_open_7 (fun H locs hP hD hS => ?_)
  refine lv_aload_n hx hb dX4_open_10 rfl (lv_at hl 0 rfl) ?_
  refine lv_iconst (v := iZ 0) hx hb dX4_open_11 rfl ?_
  refine va_put (D := D) (ci := 4) (v := .int (iZ 0)) (ty := .int) (C := RX4) (T := TX4) (N := 12) hx hb hts iX4 tyX4 tyX4_ok nmX4 hown hK hP hD hS 0 rfl rfl 5 (bl rfl) (hts _ qf_X4_47) (fun _ h => h) rfl (by decide +kernel) rfl rfl (Nat.le_of_ble_eq_true rfl) dX4_open_12 (fun H locs hP hD hS => ?_)
  refine lv_aload_n hx hb dX4_open_15 rfl (lv_at hl 0 rfl) ?_
  refine lv_iconst (v := iZ 0) hx hb dX4_open_16 rfl ?_
  refine va_put (D := D) (ci := 4) (v := .int (iZ 0)) (ty := .int) (C := RX4) (T := TX4) (N := 12) hx hb hts iX4 tyX4 tyX4_ok nmX4 hown hK hP hD hS 0 rfl rfl 10 (bl rfl) (hts _ qf_X4_19) (fun _ h => h) rfl (by decide +kernel) rfl rfl (Nat.le_of_ble_eq_true rfl) dX4_open_17 (fun H locs hP hD hS => ?_)
  refine lv_aload_n hx hb dX4_open_20 rfl (lv_at hl 0 rfl) ?_
  refine lv_iconst (v := iZ (-1)) hx hb dX4_open_21 rfl ?_
  refine va_put (D := D) (ci := 4) (v := .int (iZ (-1))) (ty := .int) (C := RX4) (T := TX4) (N := 12) hx hb hts iX4 tyX4 tyX4_ok nmX4 hown hK hP hD hS 0 rfl rfl 11 (bl rfl) (hts _ qf_X4_23) (fun _ h => h) rfl (by decide +kernel) rfl rfl (Nat.le_of_ble_eq_true rfl) dX4_open_22 (fun H locs hP hD hS => ?_)
  refine lv_aload_n hx hb dX4_open_25 rfl (lv_at hl 0 rfl) ?_
  refine CWV (As := []) (rest := []) (wc := _) (wr := []) hx hb hml hown hts hKK hP hD hS hA (x_next l D k hr1 tx kw 0 b pl 0 ki va ke 0 (-1) nm bf kwf ⟨⟨by omega, by omega⟩, ⟨by omega, by omega⟩, by omega, by omega⟩ hbf hkw) ci_X4_next qm_X4_50 ⟨Nat.le_of_ble_eq_true rfl, Nat.le_of_ble_eq_true rfl⟩ ⟨Nat.le_of_ble_eq_true rfl, Nat.le_of_ble_eq_true rfl⟩ [0, 1, 2] [] rfl rfl rfl rfl rfl (dj rfl) 0 rfl rfl rfl hl.1 rfl (Nat.le_of_ble_eq_true rfl) dX4_open_26 (fun u_1 H locs hφ hP hD hS => ?_)
  obtain ⟨p_2, p_3⟩ : (RDX (tX bf b) 0 u_1.1.2.1 u_1.1.2.2.1 u_1.1.2.2.2.1 u_1.1.2.2.2.2.1 u_1.1.2.2.2.2.2 u_1.2.1.2) ∧ ((0 ≤ 0 ∧ 0 ≤ 900) ∧ (0 ≤ b ∧ b ≤ 900) ∧ (0 ≤ u_1.1.2.1 ∧ u_1.1.2.1 ≤ u_1.1.2.2.1) ∧ (u_1.1.2.2.1 ≤ b) ∧ (0 ≤ u_1.1.2.2.2.1 ∧ u_1.1.2.2.2.1 ≤ 4) ∧ (-2147483648 ≤ u_1.1.2.2.2.2.1 ∧ u_1.1.2.2.2.2.1 < 2147483648) ∧ (-1 ≤ u_1.1.2.2.2.2.2 ∧ u_1.1.2.2.2.2.2 ≤ 24)) := hφ
  obtain ⟨⟨ar_4, br_4⟩, cr_4, dr_4, er_4, fr_4, gr_4, hr_4⟩ := id p_2
  obtain ⟨t1u_5, t2u_5, t3u_5, t4u_5, t5u_5, t6u_5, t7u_5⟩ := id p_3
  refine W.eq (g2 := F0 m 29 ls []) rfl ?_
  exact EWv hx hb hr hlocks hS ((0, 0, b, u_1.1.2.1, u_1.1.2.2.1, u_1.1.2.2.2.1, u_1.1.2.2.2.2.1, u_1.1.2.2.2.2.2, 0, (-1)), (0, u_1.2.1.2), (), ()) rfl ⟨(show RDX (tX bf b) 0 u_1.1.2.1 u_1.1.2.2.1 u_1.1.2.2.2.1 u_1.1.2.2.2.2.1 u_1.1.2.2.2.2.2 u_1.2.1.2 from p_2), (show (0 ≤ 0 ∧ 0 ≤ 900) ∧ (0 ≤ b ∧ b ≤ 900) ∧ (0 ≤ u_1.1.2.1 ∧ u_1.1.2.1 ≤ u_1.1.2.2.1) ∧ (u_1.1.2.2.1 ≤ b) ∧ (0 ≤ u_1.1.2.2.2.1 ∧ u_1.1.2.2.2.1 ≤ 4) ∧ (-2147483648 ≤ u_1.1.2.2.2.2.1 ∧ u_1.1.2.2.2.2.1 < 2147483648) ∧ (-1 ≤ u_1.1.2.2.2.2.2 ∧ u_1.1.2.2.2.2.2 ≤ 24) from (by first | with_reducible assumption | exact ⟨⟨by omega, by omega⟩, ⟨by omega, by omega⟩, ⟨by omega, by omega⟩, by omega, ⟨by omega, by omega⟩, ⟨by omega, by omega⟩, by omega, by omega⟩)), (show (0 : Int) = 0 ∧ b = b ∧ (0 : Int) = 0 ∧ (-1) = -1 from (by omega))⟩ (hP.sub [0, 1, 2] rfl) (hD.sub [0, 1, 2] rfl rfl) dX4_open_29
set_option maxHeartbeats 4000000 in
set_option maxRecDepth 100000 in
theorem x_fail (l : Launch) (D : va_G) (k : Nat → ClassId) (hr1 : Nat) (tx : Nat) (kw : Nat) (tp : Int) (ln : Int) (pl : Int) (en : Int) (ki : Int) (va : Int) (ke : Int) (fk : Int) (fp : Int) (nm : Int64) (bf : Nat → Int32) (kwf : Nat → Int64) (cu : Int) (w : Int) (hI1 : (0 ≤ tp ∧ tp ≤ 900) ∧ (0 ≤ ln ∧ ln ≤ 900) ∧ (0 ≤ pl ∧ pl ≤ en) ∧ (en ≤ ln) ∧ (0 ≤ ki ∧ ki ≤ 4) ∧ (-2147483648 ≤ va ∧ va < 2147483648) ∧ (-1 ≤ ke ∧ ke ≤ 24)) (hrx : RDX (tX bf ln) cu pl en ki va ke nm) : WD (σ := ((Int × Int × Int) × (Int64) × (Unit) × (Unit))) l yX4_fail cX4_fail 2 (some .boolean) 0 0 0 D k [.ref hr1, .int (iZ w)] [(hr1, .inr (4, [.ref tx, .ref kw, .int (iZ tp), .int (iZ ln), .int (iZ pl), .int (iZ en), .int (iZ ki), .int (iZ va), .int (iZ ke), .long nm, .int (iZ fk), .int (iZ fp)])), (tx, .inl (k 0, 900, .inl bf)), (kw, .inl (k 2, 25, .inr (.inl kwf)))] (fun _ => some (.int (iZ 0))) (fun u => u.1.2.1 = xFl (tX bf ln) cu w ∧ u.1.2.2 = xPl (tX bf ln) cu) (fun u => [(hr1, .inr (4, [.ref tx, .ref kw, .int (iZ tp), .int (iZ ln), .int (iZ pl), .int (iZ en), .int (iZ ki), .int (iZ va), .int (iZ ke), .long nm, .int (iZ u.1.2.1), .int (iZ u.1.2.2)])), (tx, .inl (k 0, 900, .inl bf)), (kw, .inl (k 2, 25, .inr (.inl kwf)))]) := by
  refine MW (by decide) (Nat.le_of_ble_eq_true rfl) (fun p e s m below meth c ls A hx hb hml hr hlocks hin hts hown hKK hP hD hS hA hl => ?_)
  have hK := hKK.1
  have hl : lv_has ls 2 [(0, .ref hr1), (1, .int (iZ w))] := hl
  obtain ⟨⟨ar_1, br_1⟩, cr_1, dr_1, er_1, fr_1, gr_1, hr_1⟩ := id hrx
  refine lv_aload_n hx hb dX4_fail_0 rfl (lv_at hl 0 rfl) ?_
  refine lv_aload_n hx hb dX4_fail_1 rfl (lv_at hl 0 rfl) ?_
  refine va_get (D := D) (ci := 4) (v := .int (iZ ki)) (C := RX4) (T := TX4) (N := 12) hx hb hts iX4 hown hK hP 0 rfl rfl 6 (bl rfl) (hts _ qf_X4_68) (fun _ h => h) rfl dX4_fail_2 ?_
  refine lv_iconst (v := iZ 4) hx hb dX4_fail_5 rfl ?_
  refine lv_icmp_ne (tgt := 13) hx hb dX4_fail_6 rfl (fun c_2 => ?_) (fun c_2 => ?_)
  ·
    have c_2 := mt (zeq (x := iZ ki) (y := iZ 4) rfl rfl ⟨by omega, by omega⟩ wn_4).mpr c_2
    refine lv_iload_n hx hb dX4_fail_13 rfl (lv_at hl 1 rfl) ?_
    refine va_put (D := D) (ci := 4) (v := .int (iZ w)) (ty := .int) (C := RX4) (T := TX4) (N := 12) hx hb hts iX4 tyX4 tyX4_ok nmX4 hown hK hP hD hS 0 rfl rfl 10 (bl rfl) (hts _ qf_X4_19) (fun _ h => h) rfl (by decide +kernel) rfl rfl (Nat.le_of_ble_eq_true rfl) dX4_fail_14 (fun H locs hP hD hS => ?_)
    refine lv_aload_n hx hb dX4_fail_17 rfl (lv_at hl 0 rfl) ?_
    refine lv_aload_n hx hb dX4_fail_18 rfl (lv_at hl 0 rfl) ?_
    refine va_get (D := D) (ci := 4) (v := .int (iZ pl)) (C := RX4) (T := TX4) (N := 12) hx hb hts iX4 hown hK hP 0 rfl rfl 4 (bl rfl) (hts _ qf_X4_53) (fun _ h => h) rfl dX4_fail_19 ?_
    refine va_put (D := D) (ci := 4) (v := .int (iZ pl)) (ty := .int) (C := RX4) (T := TX4) (N := 12) hx hb hts iX4 tyX4 tyX4_ok nmX4 hown hK hP hD hS 0 rfl rfl 11 (bl rfl) (hts _ qf_X4_23) (fun _ h => h) rfl (by decide +kernel) rfl rfl (Nat.le_of_ble_eq_true rfl) dX4_fail_22 (fun H locs hP hD hS => ?_)
    refine lv_iconst (v := iZ 0) hx hb dX4_fail_25 rfl ?_
    exact EWz hx hb hr hlocks hS ((0, w, pl), 0, (), ()) rfl rfl (show w = xFl (tX bf ln) cu w ∧ pl = xPl (tX bf ln) cu from ⟨by unfold xFl; rw [if_neg (by omega)], by omega⟩) (hP.sub [0, 1, 2] rfl) (hD.sub [0, 1, 2] rfl rfl) dX4_fail_26
  ·
    have c_2 := (zeq (x := iZ ki) (y := iZ 4) rfl rfl ⟨by omega, by omega⟩ wn_4).mp c_2
    refine lv_iconst (v := iZ 1) hx hb dX4_fail_9 rfl ?_
    refine lv_goto (tgt := 14) hx hb dX4_fail_10 rfl ?_
    refine va_put (D := D) (ci := 4) (v := .int (iZ 1)) (ty := .int) (C := RX4) (T := TX4) (N := 12) hx hb hts iX4 tyX4 tyX4_ok nmX4 hown hK hP hD hS 0 rfl rfl 10 (bl rfl) (hts _ qf_X4_19) (fun _ h => h) rfl (by decide +kernel) rfl rfl (Nat.le_of_ble_eq_true rfl) dX4_fail_14 (fun H locs hP hD hS => ?_)
    refine lv_aload_n hx hb dX4_fail_17 rfl (lv_at hl 0 rfl) ?_
    refine lv_aload_n hx hb dX4_fail_18 rfl (lv_at hl 0 rfl) ?_
    refine va_get (D := D) (ci := 4) (v := .int (iZ pl)) (C := RX4) (T := TX4) (N := 12) hx hb hts iX4 hown hK hP 0 rfl rfl 4 (bl rfl) (hts _ qf_X4_53) (fun _ h => h) rfl dX4_fail_19 ?_
    refine va_put (D := D) (ci := 4) (v := .int (iZ pl)) (ty := .int) (C := RX4) (T := TX4) (N := 12) hx hb hts iX4 tyX4 tyX4_ok nmX4 hown hK hP hD hS 0 rfl rfl 11 (bl rfl) (hts _ qf_X4_23) (fun _ h => h) rfl (by decide +kernel) rfl rfl (Nat.le_of_ble_eq_true rfl) dX4_fail_22 (fun H locs hP hD hS => ?_)
    refine lv_iconst (v := iZ 0) hx hb dX4_fail_25 rfl ?_
    exact EWz hx hb hr hlocks hS ((0, 1, pl), 0, (), ()) rfl rfl (show 1 = xFl (tX bf ln) cu w ∧ pl = xPl (tX bf ln) cu from ⟨by unfold xFl; rw [if_pos (by omega)], by omega⟩) (hP.sub [0, 1, 2] rfl) (hD.sub [0, 1, 2] rfl rfl) dX4_fail_26
set_option maxHeartbeats 4000000 in
set_option maxRecDepth 100000 in
theorem x_takeWord (l : Launch) (D : va_G) (k : Nat → ClassId) (hr1 : Nat) (tx : Nat) (kw : Nat) (tp : Int) (ln : Int) (pl : Int) (en : Int) (ki : Int) (va : Int) (ke : Int) (fk : Int) (fp : Int) (nm : Int64) (bf : Nat → Int32) (kwf : Nat → Int64) (cu : Int) (w : Int) (hI1 : (0 ≤ tp ∧ tp ≤ 900) ∧ (0 ≤ ln ∧ ln ≤ 900) ∧ (0 ≤ pl ∧ pl ≤ en) ∧ (en ≤ ln) ∧ (0 ≤ ki ∧ ki ≤ 4) ∧ (-2147483648 ≤ va ∧ va < 2147483648) ∧ (-1 ≤ ke ∧ ke ≤ 24)) (hbf : rgI bf (-128) 127 900) (hkw : ∀ j : Nat, j < 25 → kwf j = lZ (kwC j)) (hrx : RDX (tX bf ln) cu pl en ki va ke nm) (hw : 0 ≤ w ∧ w ≤ 100) : WD (σ := ((Int × Int × Int × Int × Int × Int × Int × Int) × (Int64 × Int64) × (Unit) × (Unit))) l yX4_takeWord cX4_takeWord 2 (some .boolean) 2 0 0 D k [.ref hr1, .int (iZ w)] [(hr1, .inr (4, [.ref tx, .ref kw, .int (iZ tp), .int (iZ ln), .int (iZ pl), .int (iZ en), .int (iZ ki), .int (iZ va), .int (iZ ke), .long nm, .int (iZ fk), .int (iZ fp)])), (tx, .inl (k 0, 900, .inl bf)), (kw, .inl (k 2, 25, .inr (.inl kwf)))] (fun u => some (.int (iZ u.1.1))) (fun u => ((0 ≤ tp ∧ tp ≤ 900) ∧ (0 ≤ ln ∧ ln ≤ 900) ∧ (0 ≤ u.1.2.1 ∧ u.1.2.1 ≤ u.1.2.2.1) ∧ (u.1.2.2.1 ≤ ln) ∧ (0 ≤ u.1.2.2.2.1 ∧ u.1.2.2.2.1 ≤ 4) ∧ (-2147483648 ≤ u.1.2.2.2.2.1 ∧ u.1.2.2.2.2.1 < 2147483648) ∧ (-1 ≤ u.1.2.2.2.2.2.1 ∧ u.1.2.2.2.2.2.1 ≤ 24)) ∧ (((u.1.1 : Int) = 1 ∧ ∃ q9 : Int, xTw (tX bf ln) w cu = .inr q9 ∧ cu < q9 ∧ RDX (tX bf ln) q9 u.1.2.1 u.1.2.2.1 u.1.2.2.2.1 u.1.2.2.2.2.1 u.1.2.2.2.2.2.1 u.2.1.2 ∧ u.1.2.2.2.2.2.2.1 = fk ∧ u.1.2.2.2.2.2.2.2 = fp) ∨ ((u.1.1 : Int) = 0 ∧ xTw (tX bf ln) w cu = .inl (u.1.2.2.2.2.2.2.1, u.1.2.2.2.2.2.2.2)))) (fun u => [(hr1, .inr (4, [.ref tx, .ref kw, .int (iZ tp), .int (iZ ln), .int (iZ u.1.2.1), .int (iZ u.1.2.2.1), .int (iZ u.1.2.2.2.1), .int (iZ u.1.2.2.2.2.1), .int (iZ u.1.2.2.2.2.2.1), .long u.2.1.2, .int (iZ u.1.2.2.2.2.2.2.1), .int (iZ u.1.2.2.2.2.2.2.2)])), (tx, .inl (k 0, 900, .inl bf)), (kw, .inl (k 2, 25, .inr (.inl kwf)))]) := by
  refine MW (by decide) (Nat.le_of_ble_eq_true rfl) (fun p e s m below meth c ls A hx hb hml hr hlocks hin hts hown hKK hP hD hS hA hl => ?_)
  have hK := hKK.1
  have hl : lv_has ls 2 [(0, .ref hr1), (1, .int (iZ w))] := hl
  obtain ⟨⟨ar_1, br_1⟩, cr_1, dr_1, er_1, fr_1, gr_1, hr_1⟩ := id hrx
  refine lv_aload_n hx hb dX4_takeWord_0 rfl (lv_at hl 0 rfl) ?_
  refine va_get (D := D) (ci := 4) (v := .int (iZ ke)) (C := RX4) (T := TX4) (N := 12) hx hb hts iX4 hown hK hP 0 rfl rfl 8 (bl rfl) (hts _ qf_X4_56) (fun _ h => h) rfl dX4_takeWord_1 ?_
  refine lv_iload_n hx hb dX4_takeWord_4 rfl (lv_at hl 1 rfl) ?_
  refine lv_icmp_eq (tgt := 14) hx hb dX4_takeWord_5 rfl (fun c_2 => ?_) (fun c_2 => ?_)
  ·
    have c_2 := (zeq (x := iZ ke) (y := iZ w) rfl rfl ⟨by omega, by omega⟩ ⟨by omega, by omega⟩).mp c_2
    refine lv_aload_n hx hb dX4_takeWord_14 rfl (lv_at hl 0 rfl) ?_
    refine CWV (As := []) (rest := []) (wc := _) (wr := []) hx hb hml hown hts hKK hP hD hS hA (x_next l D k hr1 tx kw tp ln pl en ki va ke fk fp nm bf kwf ⟨⟨by omega, by omega⟩, ⟨by omega, by omega⟩, by omega, by omega⟩ hbf hkw) ci_X4_next qm_X4_50 ⟨Nat.le_of_ble_eq_true rfl, Nat.le_of_ble_eq_true rfl⟩ ⟨Nat.le_of_ble_eq_true rfl, Nat.le_of_ble_eq_true rfl⟩ [0, 1, 2] [] rfl rfl rfl rfl rfl (dj rfl) 0 rfl rfl rfl hl.1 rfl (Nat.le_of_ble_eq_true rfl) dX4_takeWord_15 (fun u_3 H locs hφ hP hD hS => ?_)
    obtain ⟨p_4, p_5⟩ : (RDX (tX bf ln) en u_3.1.2.1 u_3.1.2.2.1 u_3.1.2.2.2.1 u_3.1.2.2.2.2.1 u_3.1.2.2.2.2.2 u_3.2.1.2) ∧ ((0 ≤ tp ∧ tp ≤ 900) ∧ (0 ≤ ln ∧ ln ≤ 900) ∧ (0 ≤ u_3.1.2.1 ∧ u_3.1.2.1 ≤ u_3.1.2.2.1) ∧ (u_3.1.2.2.1 ≤ ln) ∧ (0 ≤ u_3.1.2.2.2.1 ∧ u_3.1.2.2.2.1 ≤ 4) ∧ (-2147483648 ≤ u_3.1.2.2.2.2.1 ∧ u_3.1.2.2.2.2.1 < 2147483648) ∧ (-1 ≤ u_3.1.2.2.2.2.2 ∧ u_3.1.2.2.2.2.2 ≤ 24)) := hφ
    have rx_6 := RDX.nx hrx p_4
    obtain ⟨⟨ar_7, br_7⟩, cr_7, dr_7, er_7, fr_7, gr_7, hr_7⟩ := id rx_6
    obtain ⟨t1u_8, t2u_8, t3u_8, t4u_8, t5u_8, t6u_8, t7u_8⟩ := id p_5
    refine W.eq (g2 := F0 m 18 ls []) rfl ?_
    refine lv_iconst (v := iZ 1) hx hb dX4_takeWord_18 rfl ?_
    exact EWz hx hb hr hlocks hS ((1, u_3.1.2.1, u_3.1.2.2.1, u_3.1.2.2.2.1, u_3.1.2.2.2.2.1, u_3.1.2.2.2.2.2, fk, fp), (0, u_3.2.1.2), (), ()) rfl rfl ⟨(show (0 ≤ tp ∧ tp ≤ 900) ∧ (0 ≤ ln ∧ ln ≤ 900) ∧ (0 ≤ u_3.1.2.1 ∧ u_3.1.2.1 ≤ u_3.1.2.2.1) ∧ (u_3.1.2.2.1 ≤ ln) ∧ (0 ≤ u_3.1.2.2.2.1 ∧ u_3.1.2.2.2.1 ≤ 4) ∧ (-2147483648 ≤ u_3.1.2.2.2.2.1 ∧ u_3.1.2.2.2.2.1 < 2147483648) ∧ (-1 ≤ u_3.1.2.2.2.2.2 ∧ u_3.1.2.2.2.2.2 ≤ 24) from (by first | with_reducible assumption | exact ⟨⟨by omega, by omega⟩, ⟨by omega, by omega⟩, ⟨by omega, by omega⟩, by omega, ⟨by omega, by omega⟩, ⟨by omega, by omega⟩, by omega, by omega⟩)), (show ((1 : Int) = 1 ∧ ∃ q9 : Int, xTw (tX bf ln) w cu = .inr q9 ∧ cu < q9 ∧ RDX (tX bf ln) q9 u_3.1.2.1 u_3.1.2.2.1 u_3.1.2.2.2.1 u_3.1.2.2.2.2.1 u_3.1.2.2.2.2.2 u_3.2.1.2 ∧ fk = fk ∧ fp = fp) ∨ ((1 : Int) = 0 ∧ xTw (tX bf ln) w cu = .inl (fk, fp)) from (Or.inl ⟨rfl, xEn (tX bf ln) cu, by unfold xTw; rw [if_pos (by omega)], by have := kw_kd (T := tX bf ln) (p := cu) (by omega); omega, rx_6, rfl, rfl⟩))⟩ (hP.sub [0, 1, 2] rfl) (hD.sub [0, 1, 2] rfl rfl) dX4_takeWord_19
  ·
    have c_2 := mt (zeq (x := iZ ke) (y := iZ w) rfl rfl ⟨by omega, by omega⟩ ⟨by omega, by omega⟩).mpr c_2
    refine lv_aload_n hx hb dX4_takeWord_8 rfl (lv_at hl 0 rfl) ?_
    refine lv_iconst (v := iZ 2) hx hb dX4_takeWord_9 rfl ?_
    refine CWV (As := [.int (iZ 2)]) (rest := []) (wc := _) (wr := []) hx hb hml hown hts hKK hP hD hS hA (x_fail l D k hr1 tx kw tp ln pl en ki va ke fk fp nm bf kwf cu 2 (by first | with_reducible assumption | exact ⟨⟨by omega, by omega⟩, ⟨by omega, by omega⟩, ⟨by omega, by omega⟩, by omega, ⟨by omega, by omega⟩, ⟨by omega, by omega⟩, by omega, by omega⟩) hrx) ci_X4_fail qm_X4_80 ⟨Nat.le_of_ble_eq_true rfl, Nat.le_of_ble_eq_true rfl⟩ ⟨Nat.le_of_ble_eq_true rfl, Nat.le_of_ble_eq_true rfl⟩ [0, 1, 2] [] rfl rfl rfl rfl rfl (dj rfl) 0 rfl rfl rfl hl.1 rfl (Nat.le_of_ble_eq_true rfl) dX4_takeWord_10 (fun u_9 H locs hφ hP hD hS => ?_)
    have p_10 : u_9.1.2.1 = xFl (tX bf ln) cu 2 ∧ u_9.1.2.2 = xPl (tX bf ln) cu := hφ
    refine W.eq (g2 := F0 m 13 ls [.int (iZ 0)]) rfl ?_
    exact EWz hx hb hr hlocks hS ((0, pl, en, ki, va, ke, u_9.1.2.1, u_9.1.2.2), (0, nm), (), ()) rfl rfl ⟨(show (0 ≤ tp ∧ tp ≤ 900) ∧ (0 ≤ ln ∧ ln ≤ 900) ∧ (0 ≤ pl ∧ pl ≤ en) ∧ (en ≤ ln) ∧ (0 ≤ ki ∧ ki ≤ 4) ∧ (-2147483648 ≤ va ∧ va < 2147483648) ∧ (-1 ≤ ke ∧ ke ≤ 24) from (by first | with_reducible assumption | exact ⟨⟨by omega, by omega⟩, ⟨by omega, by omega⟩, ⟨by omega, by omega⟩, by omega, ⟨by omega, by omega⟩, ⟨by omega, by omega⟩, by omega, by omega⟩)), (show ((0 : Int) = 1 ∧ ∃ q9 : Int, xTw (tX bf ln) w cu = .inr q9 ∧ cu < q9 ∧ RDX (tX bf ln) q9 pl en ki va ke nm ∧ u_9.1.2.1 = fk ∧ u_9.1.2.2 = fp) ∨ ((0 : Int) = 0 ∧ xTw (tX bf ln) w cu = .inl (u_9.1.2.1, u_9.1.2.2)) from (Or.inr ⟨rfl, by unfold xTw xEr; rw [if_neg (by omega), p_10.1, p_10.2]⟩))⟩ (hP.sub [0, 1, 2] rfl) (hD.sub [0, 1, 2] rfl rfl) dX4_takeWord_13
set_option maxHeartbeats 4000000 in
set_option maxRecDepth 100000 in
theorem x_takeSign (l : Launch) (D : va_G) (k : Nat → ClassId) (hr1 : Nat) (tx : Nat) (kw : Nat) (tp : Int) (ln : Int) (pl : Int) (en : Int) (ki : Int) (va : Int) (ke : Int) (fk : Int) (fp : Int) (nm : Int64) (bf : Nat → Int32) (kwf : Nat → Int64) (cu : Int) (w : Int) (hI1 : (0 ≤ tp ∧ tp ≤ 900) ∧ (0 ≤ ln ∧ ln ≤ 900) ∧ (0 ≤ pl ∧ pl ≤ en) ∧ (en ≤ ln) ∧ (0 ≤ ki ∧ ki ≤ 4) ∧ (-2147483648 ≤ va ∧ va < 2147483648) ∧ (-1 ≤ ke ∧ ke ≤ 24)) (hbf : rgI bf (-128) 127 900) (hkw : ∀ j : Nat, j < 25 → kwf j = lZ (kwC j)) (hrx : RDX (tX bf ln) cu pl en ki va ke nm) (hw : -2147483648 ≤ w ∧ w < 2147483648) : WD (σ := ((Int × Int × Int × Int × Int × Int × Int × Int) × (Int64 × Int64) × (Unit) × (Unit))) l yX4_takeSign cX4_takeSign 2 (some .boolean) 2 0 0 D k [.ref hr1, .int (iZ w)] [(hr1, .inr (4, [.ref tx, .ref kw, .int (iZ tp), .int (iZ ln), .int (iZ pl), .int (iZ en), .int (iZ ki), .int (iZ va), .int (iZ ke), .long nm, .int (iZ fk), .int (iZ fp)])), (tx, .inl (k 0, 900, .inl bf)), (kw, .inl (k 2, 25, .inr (.inl kwf)))] (fun u => some (.int (iZ u.1.1))) (fun u => ((0 ≤ tp ∧ tp ≤ 900) ∧ (0 ≤ ln ∧ ln ≤ 900) ∧ (0 ≤ u.1.2.1 ∧ u.1.2.1 ≤ u.1.2.2.1) ∧ (u.1.2.2.1 ≤ ln) ∧ (0 ≤ u.1.2.2.2.1 ∧ u.1.2.2.2.1 ≤ 4) ∧ (-2147483648 ≤ u.1.2.2.2.2.1 ∧ u.1.2.2.2.2.1 < 2147483648) ∧ (-1 ≤ u.1.2.2.2.2.2.1 ∧ u.1.2.2.2.2.2.1 ≤ 24)) ∧ (((u.1.1 : Int) = 1 ∧ ∃ q9 : Int, xTs (tX bf ln) w cu = .inr q9 ∧ cu < q9 ∧ RDX (tX bf ln) q9 u.1.2.1 u.1.2.2.1 u.1.2.2.2.1 u.1.2.2.2.2.1 u.1.2.2.2.2.2.1 u.2.1.2 ∧ u.1.2.2.2.2.2.2.1 = fk ∧ u.1.2.2.2.2.2.2.2 = fp) ∨ ((u.1.1 : Int) = 0 ∧ xTs (tX bf ln) w cu = .inl (u.1.2.2.2.2.2.2.1, u.1.2.2.2.2.2.2.2)))) (fun u => [(hr1, .inr (4, [.ref tx, .ref kw, .int (iZ tp), .int (iZ ln), .int (iZ u.1.2.1), .int (iZ u.1.2.2.1), .int (iZ u.1.2.2.2.1), .int (iZ u.1.2.2.2.2.1), .int (iZ u.1.2.2.2.2.2.1), .long u.2.1.2, .int (iZ u.1.2.2.2.2.2.2.1), .int (iZ u.1.2.2.2.2.2.2.2)])), (tx, .inl (k 0, 900, .inl bf)), (kw, .inl (k 2, 25, .inr (.inl kwf)))]) := by
  refine MW (by decide) (Nat.le_of_ble_eq_true rfl) (fun p e s m below meth c ls A hx hb hml hr hlocks hin hts hown hKK hP hD hS hA hl => ?_)
  have hK := hKK.1
  have hl : lv_has ls 2 [(0, .ref hr1), (1, .int (iZ w))] := hl
  obtain ⟨⟨ar_1, br_1⟩, cr_1, dr_1, er_1, fr_1, gr_1, hr_1⟩ := id hrx
  refine lv_aload_n hx hb dX4_takeSign_0 rfl (lv_at hl 0 rfl) ?_
  refine va_get (D := D) (ci := 4) (v := .int (iZ ki)) (C := RX4) (T := TX4) (N := 12) hx hb hts iX4 hown hK hP 0 rfl rfl 6 (bl rfl) (hts _ qf_X4_68) (fun _ h => h) rfl dX4_takeSign_1 ?_
  refine lv_iconst (v := iZ 3) hx hb dX4_takeSign_4 rfl ?_
  refine lv_icmp_ne (tgt := 16) hx hb dX4_takeSign_5 rfl (fun c_2 => ?_) (fun c_2 => ?_)
  ·
    have c_2 := mt (zeq (x := iZ ki) (y := iZ 3) rfl rfl ⟨by omega, by omega⟩ wn_3).mpr c_2
    refine lv_aload_n hx hb dX4_takeSign_16 rfl (lv_at hl 0 rfl) ?_
    refine lv_iconst (v := iZ 2) hx hb dX4_takeSign_17 rfl ?_
    refine CWV (As := [.int (iZ 2)]) (rest := []) (wc := _) (wr := []) hx hb hml hown hts hKK hP hD hS hA (x_fail l D k hr1 tx kw tp ln pl en ki va ke fk fp nm bf kwf cu 2 (by first | with_reducible assumption | exact ⟨⟨by omega, by omega⟩, ⟨by omega, by omega⟩, ⟨by omega, by omega⟩, by omega, ⟨by omega, by omega⟩, ⟨by omega, by omega⟩, by omega, by omega⟩) hrx) ci_X4_fail qm_X4_80 ⟨Nat.le_of_ble_eq_true rfl, Nat.le_of_ble_eq_true rfl⟩ ⟨Nat.le_of_ble_eq_true rfl, Nat.le_of_ble_eq_true rfl⟩ [0, 1, 2] [] rfl rfl rfl rfl rfl (dj rfl) 0 rfl rfl rfl hl.1 rfl (Nat.le_of_ble_eq_true rfl) dX4_takeSign_18 (fun u_3 H locs hφ hP hD hS => ?_)
    have p_4 : u_3.1.2.1 = xFl (tX bf ln) cu 2 ∧ u_3.1.2.2 = xPl (tX bf ln) cu := hφ
    refine W.eq (g2 := F0 m 21 ls [.int (iZ 0)]) rfl ?_
    exact EWz hx hb hr hlocks hS ((0, pl, en, ki, va, ke, u_3.1.2.1, u_3.1.2.2), (0, nm), (), ()) rfl rfl ⟨(show (0 ≤ tp ∧ tp ≤ 900) ∧ (0 ≤ ln ∧ ln ≤ 900) ∧ (0 ≤ pl ∧ pl ≤ en) ∧ (en ≤ ln) ∧ (0 ≤ ki ∧ ki ≤ 4) ∧ (-2147483648 ≤ va ∧ va < 2147483648) ∧ (-1 ≤ ke ∧ ke ≤ 24) from (by first | with_reducible assumption | exact ⟨⟨by omega, by omega⟩, ⟨by omega, by omega⟩, ⟨by omega, by omega⟩, by omega, ⟨by omega, by omega⟩, ⟨by omega, by omega⟩, by omega, by omega⟩)), (show ((0 : Int) = 1 ∧ ∃ q9 : Int, xTs (tX bf ln) w cu = .inr q9 ∧ cu < q9 ∧ RDX (tX bf ln) q9 pl en ki va ke nm ∧ u_3.1.2.1 = fk ∧ u_3.1.2.2 = fp) ∨ ((0 : Int) = 0 ∧ xTs (tX bf ln) w cu = .inl (u_3.1.2.1, u_3.1.2.2)) from (Or.inr ⟨rfl, by unfold xTs xEr; rw [if_neg (by omega), p_4.1, p_4.2]⟩))⟩ (hP.sub [0, 1, 2] rfl) (hD.sub [0, 1, 2] rfl rfl) dX4_takeSign_21
  ·
    have c_2 := (zeq (x := iZ ki) (y := iZ 3) rfl rfl ⟨by omega, by omega⟩ wn_3).mp c_2
    refine lv_aload_n hx hb dX4_takeSign_8 rfl (lv_at hl 0 rfl) ?_
    refine va_get (D := D) (ci := 4) (v := .int (iZ va)) (C := RX4) (T := TX4) (N := 12) hx hb hts iX4 hown hK hP 0 rfl rfl 7 (bl rfl) (hts _ qf_X4_65) (fun _ h => h) rfl dX4_takeSign_9 ?_
    refine lv_iload_n hx hb dX4_takeSign_12 rfl (lv_at hl 1 rfl) ?_
    refine lv_icmp_eq (tgt := 22) hx hb dX4_takeSign_13 rfl (fun c_5 => ?_) (fun c_5 => ?_)
    ·
      have c_5 := (zeq (x := iZ va) (y := iZ w) rfl rfl ⟨by omega, by omega⟩ ⟨by omega, by omega⟩).mp c_5
      refine lv_aload_n hx hb dX4_takeSign_22 rfl (lv_at hl 0 rfl) ?_
      refine CWV (As := []) (rest := []) (wc := _) (wr := []) hx hb hml hown hts hKK hP hD hS hA (x_next l D k hr1 tx kw tp ln pl en ki va ke fk fp nm bf kwf ⟨⟨by omega, by omega⟩, ⟨by omega, by omega⟩, by omega, by omega⟩ hbf hkw) ci_X4_next qm_X4_50 ⟨Nat.le_of_ble_eq_true rfl, Nat.le_of_ble_eq_true rfl⟩ ⟨Nat.le_of_ble_eq_true rfl, Nat.le_of_ble_eq_true rfl⟩ [0, 1, 2] [] rfl rfl rfl rfl rfl (dj rfl) 0 rfl rfl rfl hl.1 rfl (Nat.le_of_ble_eq_true rfl) dX4_takeSign_23 (fun u_6 H locs hφ hP hD hS => ?_)
      obtain ⟨p_7, p_8⟩ : (RDX (tX bf ln) en u_6.1.2.1 u_6.1.2.2.1 u_6.1.2.2.2.1 u_6.1.2.2.2.2.1 u_6.1.2.2.2.2.2 u_6.2.1.2) ∧ ((0 ≤ tp ∧ tp ≤ 900) ∧ (0 ≤ ln ∧ ln ≤ 900) ∧ (0 ≤ u_6.1.2.1 ∧ u_6.1.2.1 ≤ u_6.1.2.2.1) ∧ (u_6.1.2.2.1 ≤ ln) ∧ (0 ≤ u_6.1.2.2.2.1 ∧ u_6.1.2.2.2.1 ≤ 4) ∧ (-2147483648 ≤ u_6.1.2.2.2.2.1 ∧ u_6.1.2.2.2.2.1 < 2147483648) ∧ (-1 ≤ u_6.1.2.2.2.2.2 ∧ u_6.1.2.2.2.2.2 ≤ 24)) := hφ
      have rx_9 := RDX.nx hrx p_7
      obtain ⟨⟨ar_10, br_10⟩, cr_10, dr_10, er_10, fr_10, gr_10, hr_10⟩ := id rx_9
      obtain ⟨t1u_11, t2u_11, t3u_11, t4u_11, t5u_11, t6u_11, t7u_11⟩ := id p_8
      refine W.eq (g2 := F0 m 26 ls []) rfl ?_
      refine lv_iconst (v := iZ 1) hx hb dX4_takeSign_26 rfl ?_
      exact EWz hx hb hr hlocks hS ((1, u_6.1.2.1, u_6.1.2.2.1, u_6.1.2.2.2.1, u_6.1.2.2.2.2.1, u_6.1.2.2.2.2.2, fk, fp), (0, u_6.2.1.2), (), ()) rfl rfl ⟨(show (0 ≤ tp ∧ tp ≤ 900) ∧ (0 ≤ ln ∧ ln ≤ 900) ∧ (0 ≤ u_6.1.2.1 ∧ u_6.1.2.1 ≤ u_6.1.2.2.1) ∧ (u_6.1.2.2.1 ≤ ln) ∧ (0 ≤ u_6.1.2.2.2.1 ∧ u_6.1.2.2.2.1 ≤ 4) ∧ (-2147483648 ≤ u_6.1.2.2.2.2.1 ∧ u_6.1.2.2.2.2.1 < 2147483648) ∧ (-1 ≤ u_6.1.2.2.2.2.2 ∧ u_6.1.2.2.2.2.2 ≤ 24) from (by first | with_reducible assumption | exact ⟨⟨by omega, by omega⟩, ⟨by omega, by omega⟩, ⟨by omega, by omega⟩, by omega, ⟨by omega, by omega⟩, ⟨by omega, by omega⟩, by omega, by omega⟩)), (show ((1 : Int) = 1 ∧ ∃ q9 : Int, xTs (tX bf ln) w cu = .inr q9 ∧ cu < q9 ∧ RDX (tX bf ln) q9 u_6.1.2.1 u_6.1.2.2.1 u_6.1.2.2.2.1 u_6.1.2.2.2.2.1 u_6.1.2.2.2.2.2 u_6.2.1.2 ∧ fk = fk ∧ fp = fp) ∨ ((1 : Int) = 0 ∧ xTs (tX bf ln) w cu = .inl (fk, fp)) from (Or.inl ⟨rfl, xEn (tX bf ln) cu, by unfold xTs; rw [if_pos ⟨by omega, by omega⟩], by omega, rx_9, rfl, rfl⟩))⟩ (hP.sub [0, 1, 2] rfl) (hD.sub [0, 1, 2] rfl rfl) dX4_takeSign_27
    ·
      have c_5 := mt (zeq (x := iZ va) (y := iZ w) rfl rfl ⟨by omega, by omega⟩ ⟨by omega, by omega⟩).mpr c_5
      refine lv_aload_n hx hb dX4_takeSign_16 rfl (lv_at hl 0 rfl) ?_
      refine lv_iconst (v := iZ 2) hx hb dX4_takeSign_17 rfl ?_
      refine CWV (As := [.int (iZ 2)]) (rest := []) (wc := _) (wr := []) hx hb hml hown hts hKK hP hD hS hA (x_fail l D k hr1 tx kw tp ln pl en ki va ke fk fp nm bf kwf cu 2 (by first | with_reducible assumption | exact ⟨⟨by omega, by omega⟩, ⟨by omega, by omega⟩, ⟨by omega, by omega⟩, by omega, ⟨by omega, by omega⟩, ⟨by omega, by omega⟩, by omega, by omega⟩) hrx) ci_X4_fail qm_X4_80 ⟨Nat.le_of_ble_eq_true rfl, Nat.le_of_ble_eq_true rfl⟩ ⟨Nat.le_of_ble_eq_true rfl, Nat.le_of_ble_eq_true rfl⟩ [0, 1, 2] [] rfl rfl rfl rfl rfl (dj rfl) 0 rfl rfl rfl hl.1 rfl (Nat.le_of_ble_eq_true rfl) dX4_takeSign_18 (fun u_12 H locs hφ hP hD hS => ?_)
      have p_13 : u_12.1.2.1 = xFl (tX bf ln) cu 2 ∧ u_12.1.2.2 = xPl (tX bf ln) cu := hφ
      refine W.eq (g2 := F0 m 21 ls [.int (iZ 0)]) rfl ?_
      exact EWz hx hb hr hlocks hS ((0, pl, en, ki, va, ke, u_12.1.2.1, u_12.1.2.2), (0, nm), (), ()) rfl rfl ⟨(show (0 ≤ tp ∧ tp ≤ 900) ∧ (0 ≤ ln ∧ ln ≤ 900) ∧ (0 ≤ pl ∧ pl ≤ en) ∧ (en ≤ ln) ∧ (0 ≤ ki ∧ ki ≤ 4) ∧ (-2147483648 ≤ va ∧ va < 2147483648) ∧ (-1 ≤ ke ∧ ke ≤ 24) from (by first | with_reducible assumption | exact ⟨⟨by omega, by omega⟩, ⟨by omega, by omega⟩, ⟨by omega, by omega⟩, by omega, ⟨by omega, by omega⟩, ⟨by omega, by omega⟩, by omega, by omega⟩)), (show ((0 : Int) = 1 ∧ ∃ q9 : Int, xTs (tX bf ln) w cu = .inr q9 ∧ cu < q9 ∧ RDX (tX bf ln) q9 pl en ki va ke nm ∧ u_12.1.2.1 = fk ∧ u_12.1.2.2 = fp) ∨ ((0 : Int) = 0 ∧ xTs (tX bf ln) w cu = .inl (u_12.1.2.1, u_12.1.2.2)) from (Or.inr ⟨rfl, by unfold xTs xEr; rw [if_neg (by omega), p_13.1, p_13.2]⟩))⟩ (hP.sub [0, 1, 2] rfl) (hD.sub [0, 1, 2] rfl rfl) dX4_takeSign_21
set_option maxHeartbeats 4000000 in
set_option maxRecDepth 100000 in
theorem x_takeNumber (l : Launch) (D : va_G) (k : Nat → ClassId) (hr1 : Nat) (tx : Nat) (kw : Nat) (tp : Int) (ln : Int) (pl : Int) (en : Int) (ki : Int) (va : Int) (ke : Int) (fk : Int) (fp : Int) (nm : Int64) (bf : Nat → Int32) (kwf : Nat → Int64) (cu : Int) (w : Int) (x : Int) (hI1 : (0 ≤ tp ∧ tp ≤ 900) ∧ (0 ≤ ln ∧ ln ≤ 900) ∧ (0 ≤ pl ∧ pl ≤ en) ∧ (en ≤ ln) ∧ (0 ≤ ki ∧ ki ≤ 4) ∧ (-2147483648 ≤ va ∧ va < 2147483648) ∧ (-1 ≤ ke ∧ ke ≤ 24)) (hbf : rgI bf (-128) 127 900) (hkw : ∀ j : Nat, j < 25 → kwf j = lZ (kwC j)) (hrx : RDX (tX bf ln) cu pl en ki va ke nm) (hw : 0 ≤ w ∧ w ≤ 100000) (hx9 : -2147483648 ≤ x ∧ x < 2147483648) : WD (σ := ((Int × Int × Int × Int × Int × Int × Int × Int) × (Int64 × Int64) × (Unit) × (Unit))) l yX4_takeNumber cX4_takeNumber 4 (some .int) 2 0 0 D k [.ref hr1, .int (iZ w), .int (iZ x)] [(hr1, .inr (4, [.ref tx, .ref kw, .int (iZ tp), .int (iZ ln), .int (iZ pl), .int (iZ en), .int (iZ ki), .int (iZ va), .int (iZ ke), .long nm, .int (iZ fk), .int (iZ fp)])), (tx, .inl (k 0, 900, .inl bf)), (kw, .inl (k 2, 25, .inr (.inl kwf)))] (fun u => some (.int (iZ u.1.1))) (fun u => ((0 ≤ tp ∧ tp ≤ 900) ∧ (0 ≤ ln ∧ ln ≤ 900) ∧ (0 ≤ u.1.2.1 ∧ u.1.2.1 ≤ u.1.2.2.1) ∧ (u.1.2.2.1 ≤ ln) ∧ (0 ≤ u.1.2.2.2.1 ∧ u.1.2.2.2.1 ≤ 4) ∧ (-2147483648 ≤ u.1.2.2.2.2.1 ∧ u.1.2.2.2.2.1 < 2147483648) ∧ (-1 ≤ u.1.2.2.2.2.2.1 ∧ u.1.2.2.2.2.2.1 ≤ 24)) ∧ ((¬ (u.1.1 : Int) = -1 ∧ ∃ q9 : Int, xTn (tX bf ln) w x cu = .inr (q9, u.1.1) ∧ cu < q9 ∧ RDX (tX bf ln) q9 u.1.2.1 u.1.2.2.1 u.1.2.2.2.1 u.1.2.2.2.2.1 u.1.2.2.2.2.2.1 u.2.1.2 ∧ (w ≤ u.1.1 ∧ u.1.1 ≤ x) ∧ u.1.2.2.2.2.2.2.1 = fk ∧ u.1.2.2.2.2.2.2.2 = fp) ∨ ((u.1.1 : Int) = -1 ∧ xTn (tX bf ln) w x cu = .inl (u.1.2.2.2.2.2.2.1, u.1.2.2.2.2.2.2.2)))) (fun u => [(hr1, .inr (4, [.ref tx, .ref kw, .int (iZ tp), .int (iZ ln), .int (iZ u.1.2.1), .int (iZ u.1.2.2.1), .int (iZ u.1.2.2.2.1), .int (iZ u.1.2.2.2.2.1), .int (iZ u.1.2.2.2.2.2.1), .long u.2.1.2, .int (iZ u.1.2.2.2.2.2.2.1), .int (iZ u.1.2.2.2.2.2.2.2)])), (tx, .inl (k 0, 900, .inl bf)), (kw, .inl (k 2, 25, .inr (.inl kwf)))]) := by
  refine MW (by decide) (Nat.le_of_ble_eq_true rfl) (fun p e s m below meth c ls A hx hb hml hr hlocks hin hts hown hKK hP hD hS hA hl => ?_)
  have hK := hKK.1
  have hl : lv_has ls 4 [(0, .ref hr1), (1, .int (iZ w)), (2, .int (iZ x))] := hl
  obtain ⟨⟨ar_1, br_1⟩, cr_1, dr_1, er_1, fr_1, gr_1, hr_1⟩ := id hrx
  refine lv_aload_n hx hb dX4_takeNumber_0 rfl (lv_at hl 0 rfl) ?_
  refine va_get (D := D) (ci := 4) (v := .int (iZ va)) (C := RX4) (T := TX4) (N := 12) hx hb hts iX4 hown hK hP 0 rfl rfl 7 (bl rfl) (hts _ qf_X4_65) (fun _ h => h) rfl dX4_takeNumber_1 ?_
  refine lv_istore_n (lv' := [(3, .int (iZ va)), (0, .ref hr1), (1, .int (iZ w)), (2, .int (iZ x))]) hx hb dX4_takeNumber_4 rfl hl (bl rfl) rfl (fun ls hl => ?_)
  refine lv_aload_n hx hb dX4_takeNumber_5 rfl (lv_at hl 1 rfl) ?_
  refine va_get (D := D) (ci := 4) (v := .int (iZ ki)) (C := RX4) (T := TX4) (N := 12) hx hb hts iX4 hown hK hP 0 rfl rfl 6 (bl rfl) (hts _ qf_X4_68) (fun _ h => h) rfl dX4_takeNumber_6 ?_
  refine lv_iconst (v := iZ 2) hx hb dX4_takeNumber_9 rfl ?_
  refine lv_icmp_ne (tgt := 23) hx hb dX4_takeNumber_10 rfl (fun c_2 => ?_) (fun c_2 => ?_)
  ·
    have c_2 := mt (zeq (x := iZ ki) (y := iZ 2) rfl rfl ⟨by omega, by omega⟩ wn_2).mpr c_2
    refine lv_aload_n hx hb dX4_takeNumber_23 rfl (lv_at hl 1 rfl) ?_
    refine lv_aload_n hx hb dX4_takeNumber_24 rfl (lv_at hl 1 rfl) ?_
    refine va_get (D := D) (ci := 4) (v := .int (iZ ki)) (C := RX4) (T := TX4) (N := 12) hx hb hts iX4 hown hK hP 0 rfl rfl 6 (bl rfl) (hts _ qf_X4_68) (fun _ h => h) rfl dX4_takeNumber_25 ?_
    refine lv_iconst (v := iZ 2) hx hb dX4_takeNumber_28 rfl ?_
    refine lv_icmp_ne (tgt := 36) hx hb dX4_takeNumber_29 rfl (fun c_3 => ?_) (fun c_3 => ?_)
    ·
      have c_3 := mt (zeq (x := iZ ki) (y := iZ 2) rfl rfl ⟨by omega, by omega⟩ wn_2).mpr c_3
      refine lv_iconst (v := iZ 2) hx hb dX4_takeNumber_36 rfl ?_
      refine CWV (As := [.int (iZ 2)]) (rest := []) (wc := _) (wr := []) hx hb hml hown hts hKK hP hD hS hA (x_fail l D k hr1 tx kw tp ln pl en ki va ke fk fp nm bf kwf cu 2 (by first | with_reducible assumption | exact ⟨⟨by omega, by omega⟩, ⟨by omega, by omega⟩, ⟨by omega, by omega⟩, by omega, ⟨by omega, by omega⟩, ⟨by omega, by omega⟩, by omega, by omega⟩) hrx) ci_X4_fail qm_X4_80 ⟨Nat.le_of_ble_eq_true rfl, Nat.le_of_ble_eq_true rfl⟩ ⟨Nat.le_of_ble_eq_true rfl, Nat.le_of_ble_eq_true rfl⟩ [0, 1, 2] [] rfl rfl rfl rfl rfl (dj rfl) 0 rfl rfl rfl hl.1 rfl (Nat.le_of_ble_eq_true rfl) dX4_takeNumber_37 (fun u_4 H locs hφ hP hD hS => ?_)
      have p_5 : u_4.1.2.1 = xFl (tX bf ln) cu 2 ∧ u_4.1.2.2 = xPl (tX bf ln) cu := hφ
      refine W.eq (g2 := F0 m 40 ls [.int (iZ 0)]) rfl ?_
      refine lv_pop hx hb dX4_takeNumber_40 rfl ?_
      refine lv_iconst (v := iZ (-1)) hx hb dX4_takeNumber_41 rfl ?_
      exact EWi hx hb hr hlocks hS (((-1), pl, en, ki, va, ke, u_4.1.2.1, u_4.1.2.2), (0, nm), (), ()) rfl ⟨(show (0 ≤ tp ∧ tp ≤ 900) ∧ (0 ≤ ln ∧ ln ≤ 900) ∧ (0 ≤ pl ∧ pl ≤ en) ∧ (en ≤ ln) ∧ (0 ≤ ki ∧ ki ≤ 4) ∧ (-2147483648 ≤ va ∧ va < 2147483648) ∧ (-1 ≤ ke ∧ ke ≤ 24) from (by first | with_reducible assumption | exact ⟨⟨by omega, by omega⟩, ⟨by omega, by omega⟩, ⟨by omega, by omega⟩, by omega, ⟨by omega, by omega⟩, ⟨by omega, by omega⟩, by omega, by omega⟩)), (show (¬ ((-1) : Int) = -1 ∧ ∃ q9 : Int, xTn (tX bf ln) w x cu = .inr (q9, (-1)) ∧ cu < q9 ∧ RDX (tX bf ln) q9 pl en ki va ke nm ∧ (w ≤ (-1) ∧ (-1) ≤ x) ∧ u_4.1.2.1 = fk ∧ u_4.1.2.2 = fp) ∨ (((-1) : Int) = -1 ∧ xTn (tX bf ln) w x cu = .inl (u_4.1.2.1, u_4.1.2.2)) from (Or.inr ⟨rfl, by unfold xTn xEr; rw [if_neg (by omega)]; first | (rw [if_pos (show xKd (tX bf ln) cu = 2 from (by omega)), p_5.1, p_5.2]; done) | (rw [if_neg (show ¬ xKd (tX bf ln) cu = 2 from (by omega)), p_5.1, p_5.2]; done)⟩))⟩ (hP.sub [0, 1, 2] rfl) (hD.sub [0, 1, 2] rfl rfl) dX4_takeNumber_42
    ·
      have c_3 := (zeq (x := iZ ki) (y := iZ 2) rfl rfl ⟨by omega, by omega⟩ wn_2).mp c_3
      exact absurd c_3 (by omega)
  ·
    have c_2 := (zeq (x := iZ ki) (y := iZ 2) rfl rfl ⟨by omega, by omega⟩ wn_2).mp c_2
    refine lv_iload_n hx hb dX4_takeNumber_13 rfl (lv_at hl 0 rfl) ?_
    refine lv_iload_n hx hb dX4_takeNumber_14 rfl (lv_at hl 2 rfl) ?_
    refine lv_icmp_lt (tgt := 23) hx hb dX4_takeNumber_15 rfl (fun c_6 => ?_) (fun c_6 => ?_)
    ·
      have c_6 := (zlt (x := iZ va) (y := iZ w) rfl rfl ⟨by omega, by omega⟩ ⟨by omega, by omega⟩).mp c_6
      refine lv_aload_n hx hb dX4_takeNumber_23 rfl (lv_at hl 1 rfl) ?_
      refine lv_aload_n hx hb dX4_takeNumber_24 rfl (lv_at hl 1 rfl) ?_
      refine va_get (D := D) (ci := 4) (v := .int (iZ ki)) (C := RX4) (T := TX4) (N := 12) hx hb hts iX4 hown hK hP 0 rfl rfl 6 (bl rfl) (hts _ qf_X4_68) (fun _ h => h) rfl dX4_takeNumber_25 ?_
      refine lv_iconst (v := iZ 2) hx hb dX4_takeNumber_28 rfl ?_
      refine lv_icmp_ne (tgt := 36) hx hb dX4_takeNumber_29 rfl (fun c_7 => ?_) (fun c_7 => ?_)
      ·
        have c_7 := mt (zeq (x := iZ ki) (y := iZ 2) rfl rfl ⟨by omega, by omega⟩ wn_2).mpr c_7
        exact absurd c_7 (by omega)
      ·
        have c_7 := (zeq (x := iZ ki) (y := iZ 2) rfl rfl ⟨by omega, by omega⟩ wn_2).mp c_7
        refine lv_iconst (v := iZ 4) hx hb dX4_takeNumber_32 rfl ?_
        refine lv_goto (tgt := 37) hx hb dX4_takeNumber_33 rfl ?_
        refine CWV (As := [.int (iZ 4)]) (rest := []) (wc := _) (wr := []) hx hb hml hown hts hKK hP hD hS hA (x_fail l D k hr1 tx kw tp ln pl en ki va ke fk fp nm bf kwf cu 4 (by first | with_reducible assumption | exact ⟨⟨by omega, by omega⟩, ⟨by omega, by omega⟩, ⟨by omega, by omega⟩, by omega, ⟨by omega, by omega⟩, ⟨by omega, by omega⟩, by omega, by omega⟩) hrx) ci_X4_fail qm_X4_80 ⟨Nat.le_of_ble_eq_true rfl, Nat.le_of_ble_eq_true rfl⟩ ⟨Nat.le_of_ble_eq_true rfl, Nat.le_of_ble_eq_true rfl⟩ [0, 1, 2] [] rfl rfl rfl rfl rfl (dj rfl) 0 rfl rfl rfl hl.1 rfl (Nat.le_of_ble_eq_true rfl) dX4_takeNumber_37 (fun u_8 H locs hφ hP hD hS => ?_)
        have p_9 : u_8.1.2.1 = xFl (tX bf ln) cu 4 ∧ u_8.1.2.2 = xPl (tX bf ln) cu := hφ
        refine W.eq (g2 := F0 m 40 ls [.int (iZ 0)]) rfl ?_
        refine lv_pop hx hb dX4_takeNumber_40 rfl ?_
        refine lv_iconst (v := iZ (-1)) hx hb dX4_takeNumber_41 rfl ?_
        exact EWi hx hb hr hlocks hS (((-1), pl, en, ki, va, ke, u_8.1.2.1, u_8.1.2.2), (0, nm), (), ()) rfl ⟨(show (0 ≤ tp ∧ tp ≤ 900) ∧ (0 ≤ ln ∧ ln ≤ 900) ∧ (0 ≤ pl ∧ pl ≤ en) ∧ (en ≤ ln) ∧ (0 ≤ ki ∧ ki ≤ 4) ∧ (-2147483648 ≤ va ∧ va < 2147483648) ∧ (-1 ≤ ke ∧ ke ≤ 24) from (by first | with_reducible assumption | exact ⟨⟨by omega, by omega⟩, ⟨by omega, by omega⟩, ⟨by omega, by omega⟩, by omega, ⟨by omega, by omega⟩, ⟨by omega, by omega⟩, by omega, by omega⟩)), (show (¬ ((-1) : Int) = -1 ∧ ∃ q9 : Int, xTn (tX bf ln) w x cu = .inr (q9, (-1)) ∧ cu < q9 ∧ RDX (tX bf ln) q9 pl en ki va ke nm ∧ (w ≤ (-1) ∧ (-1) ≤ x) ∧ u_8.1.2.1 = fk ∧ u_8.1.2.2 = fp) ∨ (((-1) : Int) = -1 ∧ xTn (tX bf ln) w x cu = .inl (u_8.1.2.1, u_8.1.2.2)) from (Or.inr ⟨rfl, by unfold xTn xEr; rw [if_neg (by omega)]; first | (rw [if_pos (show xKd (tX bf ln) cu = 2 from (by omega)), p_9.1, p_9.2]; done) | (rw [if_neg (show ¬ xKd (tX bf ln) cu = 2 from (by omega)), p_9.1, p_9.2]; done)⟩))⟩ (hP.sub [0, 1, 2] rfl) (hD.sub [0, 1, 2] rfl rfl) dX4_takeNumber_42
    ·
      have c_6 := mt (zlt (x := iZ va) (y := iZ w) rfl rfl ⟨by omega, by omega⟩ ⟨by omega, by omega⟩).mpr c_6
      refine lv_iload_n hx hb dX4_takeNumber_18 rfl (lv_at hl 0 rfl) ?_
      refine lv_iload_n hx hb dX4_takeNumber_19 rfl (lv_at hl 3 rfl) ?_
      refine lv_icmp_le (tgt := 43) hx hb dX4_takeNumber_20 rfl (fun c_10 => ?_) (fun c_10 => ?_)
      ·
        have c_10 := (zle (x := iZ va) (y := iZ x) rfl rfl ⟨by omega, by omega⟩ ⟨by omega, by omega⟩).mp c_10
        refine lv_aload_n hx hb dX4_takeNumber_43 rfl (lv_at hl 1 rfl) ?_
        refine CWV (As := []) (rest := []) (wc := _) (wr := []) hx hb hml hown hts hKK hP hD hS hA (x_next l D k hr1 tx kw tp ln pl en ki va ke fk fp nm bf kwf ⟨⟨by omega, by omega⟩, ⟨by omega, by omega⟩, by omega, by omega⟩ hbf hkw) ci_X4_next qm_X4_50 ⟨Nat.le_of_ble_eq_true rfl, Nat.le_of_ble_eq_true rfl⟩ ⟨Nat.le_of_ble_eq_true rfl, Nat.le_of_ble_eq_true rfl⟩ [0, 1, 2] [] rfl rfl rfl rfl rfl (dj rfl) 0 rfl rfl rfl hl.1 rfl (Nat.le_of_ble_eq_true rfl) dX4_takeNumber_44 (fun u_11 H locs hφ hP hD hS => ?_)
        obtain ⟨p_12, p_13⟩ : (RDX (tX bf ln) en u_11.1.2.1 u_11.1.2.2.1 u_11.1.2.2.2.1 u_11.1.2.2.2.2.1 u_11.1.2.2.2.2.2 u_11.2.1.2) ∧ ((0 ≤ tp ∧ tp ≤ 900) ∧ (0 ≤ ln ∧ ln ≤ 900) ∧ (0 ≤ u_11.1.2.1 ∧ u_11.1.2.1 ≤ u_11.1.2.2.1) ∧ (u_11.1.2.2.1 ≤ ln) ∧ (0 ≤ u_11.1.2.2.2.1 ∧ u_11.1.2.2.2.1 ≤ 4) ∧ (-2147483648 ≤ u_11.1.2.2.2.2.1 ∧ u_11.1.2.2.2.2.1 < 2147483648) ∧ (-1 ≤ u_11.1.2.2.2.2.2 ∧ u_11.1.2.2.2.2.2 ≤ 24)) := hφ
        have rx_14 := RDX.nx hrx p_12
        obtain ⟨⟨ar_15, br_15⟩, cr_15, dr_15, er_15, fr_15, gr_15, hr_15⟩ := id rx_14
        obtain ⟨t1u_16, t2u_16, t3u_16, t4u_16, t5u_16, t6u_16, t7u_16⟩ := id p_13
        refine W.eq (g2 := F0 m 47 ls []) rfl ?_
        refine lv_iload_n hx hb dX4_takeNumber_47 rfl (lv_at hl 0 rfl) ?_
        exact EWi hx hb hr hlocks hS ((va, u_11.1.2.1, u_11.1.2.2.1, u_11.1.2.2.2.1, u_11.1.2.2.2.2.1, u_11.1.2.2.2.2.2, fk, fp), (0, u_11.2.1.2), (), ()) rfl ⟨(show (0 ≤ tp ∧ tp ≤ 900) ∧ (0 ≤ ln ∧ ln ≤ 900) ∧ (0 ≤ u_11.1.2.1 ∧ u_11.1.2.1 ≤ u_11.1.2.2.1) ∧ (u_11.1.2.2.1 ≤ ln) ∧ (0 ≤ u_11.1.2.2.2.1 ∧ u_11.1.2.2.2.1 ≤ 4) ∧ (-2147483648 ≤ u_11.1.2.2.2.2.1 ∧ u_11.1.2.2.2.2.1 < 2147483648) ∧ (-1 ≤ u_11.1.2.2.2.2.2 ∧ u_11.1.2.2.2.2.2 ≤ 24) from (by first | with_reducible assumption | exact ⟨⟨by omega, by omega⟩, ⟨by omega, by omega⟩, ⟨by omega, by omega⟩, by omega, ⟨by omega, by omega⟩, ⟨by omega, by omega⟩, by omega, by omega⟩)), (show (¬ (va : Int) = -1 ∧ ∃ q9 : Int, xTn (tX bf ln) w x cu = .inr (q9, va) ∧ cu < q9 ∧ RDX (tX bf ln) q9 u_11.1.2.1 u_11.1.2.2.1 u_11.1.2.2.2.1 u_11.1.2.2.2.2.1 u_11.1.2.2.2.2.2 u_11.2.1.2 ∧ (w ≤ va ∧ va ≤ x) ∧ fk = fk ∧ fp = fp) ∨ ((va : Int) = -1 ∧ xTn (tX bf ln) w x cu = .inl (fk, fp)) from (Or.inl ⟨by omega, xEn (tX bf ln) cu, by unfold xTn; rw [if_pos ⟨by omega, by omega, by omega⟩, show xVl (tX bf ln) cu = va from (by omega)], by omega, rx_14, ⟨by omega, by omega⟩, rfl, rfl⟩))⟩ (hP.sub [0, 1, 2] rfl) (hD.sub [0, 1, 2] rfl rfl) dX4_takeNumber_48
      ·
        have c_10 := mt (zle (x := iZ va) (y := iZ x) rfl rfl ⟨by omega, by omega⟩ ⟨by omega, by omega⟩).mpr c_10
        refine lv_aload_n hx hb dX4_takeNumber_23 rfl (lv_at hl 1 rfl) ?_
        refine lv_aload_n hx hb dX4_takeNumber_24 rfl (lv_at hl 1 rfl) ?_
        refine va_get (D := D) (ci := 4) (v := .int (iZ ki)) (C := RX4) (T := TX4) (N := 12) hx hb hts iX4 hown hK hP 0 rfl rfl 6 (bl rfl) (hts _ qf_X4_68) (fun _ h => h) rfl dX4_takeNumber_25 ?_
        refine lv_iconst (v := iZ 2) hx hb dX4_takeNumber_28 rfl ?_
        refine lv_icmp_ne (tgt := 36) hx hb dX4_takeNumber_29 rfl (fun c_17 => ?_) (fun c_17 => ?_)
        ·
          have c_17 := mt (zeq (x := iZ ki) (y := iZ 2) rfl rfl ⟨by omega, by omega⟩ wn_2).mpr c_17
          exact absurd c_17 (by omega)
        ·
          have c_17 := (zeq (x := iZ ki) (y := iZ 2) rfl rfl ⟨by omega, by omega⟩ wn_2).mp c_17
          refine lv_iconst (v := iZ 4) hx hb dX4_takeNumber_32 rfl ?_
          refine lv_goto (tgt := 37) hx hb dX4_takeNumber_33 rfl ?_
          refine CWV (As := [.int (iZ 4)]) (rest := []) (wc := _) (wr := []) hx hb hml hown hts hKK hP hD hS hA (x_fail l D k hr1 tx kw tp ln pl en ki va ke fk fp nm bf kwf cu 4 (by first | with_reducible assumption | exact ⟨⟨by omega, by omega⟩, ⟨by omega, by omega⟩, ⟨by omega, by omega⟩, by omega, ⟨by omega, by omega⟩, ⟨by omega, by omega⟩, by omega, by omega⟩) hrx) ci_X4_fail qm_X4_80 ⟨Nat.le_of_ble_eq_true rfl, Nat.le_of_ble_eq_true rfl⟩ ⟨Nat.le_of_ble_eq_true rfl, Nat.le_of_ble_eq_true rfl⟩ [0, 1, 2] [] rfl rfl rfl rfl rfl (dj rfl) 0 rfl rfl rfl hl.1 rfl (Nat.le_of_ble_eq_true rfl) dX4_takeNumber_37 (fun u_18 H locs hφ hP hD hS => ?_)
          have p_19 : u_18.1.2.1 = xFl (tX bf ln) cu 4 ∧ u_18.1.2.2 = xPl (tX bf ln) cu := hφ
          refine W.eq (g2 := F0 m 40 ls [.int (iZ 0)]) rfl ?_
          refine lv_pop hx hb dX4_takeNumber_40 rfl ?_
          refine lv_iconst (v := iZ (-1)) hx hb dX4_takeNumber_41 rfl ?_
          exact EWi hx hb hr hlocks hS (((-1), pl, en, ki, va, ke, u_18.1.2.1, u_18.1.2.2), (0, nm), (), ()) rfl ⟨(show (0 ≤ tp ∧ tp ≤ 900) ∧ (0 ≤ ln ∧ ln ≤ 900) ∧ (0 ≤ pl ∧ pl ≤ en) ∧ (en ≤ ln) ∧ (0 ≤ ki ∧ ki ≤ 4) ∧ (-2147483648 ≤ va ∧ va < 2147483648) ∧ (-1 ≤ ke ∧ ke ≤ 24) from (by first | with_reducible assumption | exact ⟨⟨by omega, by omega⟩, ⟨by omega, by omega⟩, ⟨by omega, by omega⟩, by omega, ⟨by omega, by omega⟩, ⟨by omega, by omega⟩, by omega, by omega⟩)), (show (¬ ((-1) : Int) = -1 ∧ ∃ q9 : Int, xTn (tX bf ln) w x cu = .inr (q9, (-1)) ∧ cu < q9 ∧ RDX (tX bf ln) q9 pl en ki va ke nm ∧ (w ≤ (-1) ∧ (-1) ≤ x) ∧ u_18.1.2.1 = fk ∧ u_18.1.2.2 = fp) ∨ (((-1) : Int) = -1 ∧ xTn (tX bf ln) w x cu = .inl (u_18.1.2.1, u_18.1.2.2)) from (Or.inr ⟨rfl, by unfold xTn xEr; rw [if_neg (by omega)]; first | (rw [if_pos (show xKd (tX bf ln) cu = 2 from (by omega)), p_19.1, p_19.2]; done) | (rw [if_neg (show ¬ xKd (tX bf ln) cu = 2 from (by omega)), p_19.1, p_19.2]; done)⟩))⟩ (hP.sub [0, 1, 2] rfl) (hD.sub [0, 1, 2] rfl rfl) dX4_takeNumber_42
set_option maxHeartbeats 4000000 in
set_option maxRecDepth 100000 in
theorem x_isName (l : Launch) (D : va_G) (k : Nat → ClassId) (hr1 : Nat) (tx : Nat) (kw : Nat) (tp : Int) (ln : Int) (pl : Int) (en : Int) (ki : Int) (va : Int) (ke : Int) (fk : Int) (fp : Int) (nm : Int64) (bf : Nat → Int32) (cu : Int) (hI1 : (0 ≤ tp ∧ tp ≤ 900) ∧ (0 ≤ ln ∧ ln ≤ 900) ∧ (0 ≤ pl ∧ pl ≤ en) ∧ (en ≤ ln) ∧ (0 ≤ ki ∧ ki ≤ 4) ∧ (-2147483648 ≤ va ∧ va < 2147483648) ∧ (-1 ≤ ke ∧ ke ≤ 24)) (hrx : RDX (tX bf ln) cu pl en ki va ke nm) : RP l yX4_isName cX4_isName 1 (some .boolean) 0 D k [.ref hr1] [(hr1, .inr (4, [.ref tx, .ref kw, .int (iZ tp), .int (iZ ln), .int (iZ pl), .int (iZ en), .int (iZ ki), .int (iZ va), .int (iZ ke), .long nm, .int (iZ fk), .int (iZ fp)])), (tx, .inl (k 0, 900, .inl bf))] (fun z => ((z : Int) = 1 ∧ xIn (tX bf ln) cu) ∨ ((z : Int) = 0 ∧ ¬ xIn (tX bf ln) cu)) := by
  refine MRP (by decide) (Nat.le_of_ble_eq_true rfl) (fun p e s m below meth c ls hx hb hml hr hlocks hts hown hKK hP hl => ?_)
  have hK := hKK.1
  have hl : lv_has ls 1 [(0, .ref hr1)] := hl
  obtain ⟨⟨ar_1, br_1⟩, cr_1, dr_1, er_1, fr_1, gr_1, hr_1⟩ := id hrx
  refine lv_aload_n hx hb dX4_isName_0 rfl (lv_at hl 0 rfl) ?_
  refine va_get (D := D) (ci := 4) (v := .int (iZ ki)) (C := RX4) (T := TX4) (N := 12) hx hb hts iX4 hown hK hP 0 rfl rfl 6 (bl rfl) (hts _ qf_X4_68) (fun _ h => h) rfl dX4_isName_1 ?_
  refine lv_iconst (v := iZ 1) hx hb dX4_isName_4 rfl ?_
  refine lv_icmp_ne (tgt := 31) hx hb dX4_isName_5 rfl (fun c_2 => ?_) (fun c_2 => ?_)
  ·
    have c_2 := mt (zeq (x := iZ ki) (y := iZ 1) rfl rfl ⟨by omega, by omega⟩ wn_1).mpr c_2
    refine lv_iconst (v := iZ 0) hx hb dX4_isName_31 rfl ?_
    exact EPz hx hb hr hlocks (by omega) (Or.inr ⟨rfl, fun h9 => absurd h9.1 (by omega)⟩) dX4_isName_32
  ·
    have c_2 := (zeq (x := iZ ki) (y := iZ 1) rfl rfl ⟨by omega, by omega⟩ wn_1).mp c_2
    refine lv_aload_n hx hb dX4_isName_8 rfl (lv_at hl 0 rfl) ?_
    refine va_get (D := D) (ci := 4) (v := .int (iZ ke)) (C := RX4) (T := TX4) (N := 12) hx hb hts iX4 hown hK hP 0 rfl rfl 8 (bl rfl) (hts _ qf_X4_56) (fun _ h => h) rfl dX4_isName_9 ?_
    refine lv_iconst (v := iZ (-1)) hx hb dX4_isName_12 rfl ?_
    refine lv_icmp_ne (tgt := 31) hx hb dX4_isName_13 rfl (fun c_3 => ?_) (fun c_3 => ?_)
    ·
      have c_3 := mt (zeq (x := iZ ke) (y := iZ (-1)) rfl rfl ⟨by omega, by omega⟩ wn_m1).mpr c_3
      refine lv_iconst (v := iZ 0) hx hb dX4_isName_31 rfl ?_
      exact EPz hx hb hr hlocks (by omega) (Or.inr ⟨rfl, fun h9 => absurd h9.2.1 (by omega)⟩) dX4_isName_32
    ·
      have c_3 := (zeq (x := iZ ke) (y := iZ (-1)) rfl rfl ⟨by omega, by omega⟩ wn_m1).mp c_3
      refine lv_aload_n hx hb dX4_isName_16 rfl (lv_at hl 0 rfl) ?_
      refine va_get (D := D) (ci := 4) (v := .long nm) (C := RX4) (T := TX4) (N := 12) hx hb hts iX4 hown hK hP 0 rfl rfl 9 (bl rfl) (hts _ qf_X4_61) (fun _ h => h) rfl dX4_isName_17 ?_
      refine lv_ldc2 (own := RX4) (v := (-1)) hx hb hown (hts _ qk_X4_59) dX4_isName_20 ?_
      refine W.lcmp hx hb dX4_isName_23 ?_
      refine lv_if_eq (tgt := 31) hx hb dX4_isName_24 rfl (fun c_4 => ?_) (fun c_4 => ?_)
      ·
        have c_4 := Int64.toInt_inj.symm.mp ((lg_cmp_eq nm (-1)).mp c_4)
        refine lv_iconst (v := iZ 0) hx hb dX4_isName_31 rfl ?_
        exact EPz hx hb hr hlocks (by omega) (Or.inr ⟨rfl, fun h9 => h9.2.2 ((nm_m1 (gr_1 (by omega)).1 (xNm_rg (gr_1 (by omega)).2 (by omega))).mp c_4)⟩) dX4_isName_32
      ·
        have c_4 := mt (fun h9 => (lg_cmp_eq nm (-1)).mpr (Int64.toInt_inj.symm.mpr h9)) c_4
        refine lv_iconst (v := iZ 1) hx hb dX4_isName_27 rfl ?_
        refine lv_goto (tgt := 32) hx hb dX4_isName_28 rfl ?_
        exact EPz hx hb hr hlocks (by omega) (Or.inl ⟨rfl, by omega, by omega, mt (nm_m1 (gr_1 (by omega)).1 (xNm_rg (gr_1 (by omega)).2 (by omega))).mpr c_4⟩) dX4_isName_32
end
