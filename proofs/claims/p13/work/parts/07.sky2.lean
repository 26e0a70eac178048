/-- light between two rocks in two weeks -/
def lt (f : Nat → Int32) (a w b t : Int) : Int := ap f a (hd f a w) b (hd f b t)
theorem lt_rg {f : Nat → Int32} {n a w b t : Int} (hx0 : FXI f n) (ha : 0 ≤ a ∧ a < n) (hb : 0 ≤ b ∧ b < n) : 0 ≤ lt f a w b t ∧ lt f a w b t ≤ 20 := ap_rg hx0 ha hb (hd_rg f a w) (hd_rg f b t)
noncomputable def bz (P : Prop) : Int := @ite Int P (Classical.propDecidable P) 1 0
theorem bz_t {P : Prop} (h : P) : bz P = 1 := by unfold bz; exact if_pos h
theorem bz_f {P : Prop} (h : ¬ P) : bz P = 0 := by unfold bz; exact if_neg h
/-- the ICE of a row is between two rocks in a week -/
def icR (g : Nat → Int32) (j a b w : Int) : Prop := ((gz g ((j * 4) + 0) = a ∧ gz g ((j * 4) + 1) = b) ∨ (gz g ((j * 4) + 0) = b ∧ gz g ((j * 4) + 1) = a)) ∧ gz g ((j * 4) + 2) ≤ w ∧ w ≤ gz g ((j * 4) + 3)
def isIc (g : Nat → Int32) (n a b w : Int) : Prop := ∃ j : Int, 0 ≤ j ∧ j < n ∧ icR g j a b w
set_option maxHeartbeats 4000000 in
set_option maxRecDepth 100000 in
theorem k_ice (l : Launch) (D : va_G) (k : Nat → ClassId) (h hg : Nat) (fs : List Value) (f2 : fs[2]? = some (.ref hg)) (g : Nat → Int32) (ni : Int) (f4 : fs[4]? = some (.int (iZ ni))) (hni : 0 ≤ ni ∧ ni ≤ 8) (a b w : Int) (ha : 0 ≤ a ∧ a < 6) (hb0 : 0 ≤ b ∧ b < 6) (hw : 0 ≤ w ∧ w ≤ 1000) : RD l yX5_hasIce cX5_hasIce 9 (some .boolean) 0 D k [.ref h, .int (iZ a), .int (iZ b), .int (iZ w)] [(h, .inr (5, fs)), (hg, .inl (k 1, 32, .inl g))] (iZ (bz (isIc g ni a b w))) := by
  refine MR (by decide) (Nat.le_of_ble_eq_true rfl) (fun p e s m below meth c ls hx hb hml hr hlocks hts hown hKK hP hl => ?_)
  have hK := hKK.1
  have hl : lv_has ls 9 [(0, .ref h), (1, .int (iZ a)), (2, .int (iZ b)), (3, .int (iZ w))] := hl
  refine lv_iconst (v := iZ 0) hx hb dX5_hasIce_0 rfl ?_
  refine lv_istore (lv' := [(4, .int (iZ 0)), (0, .ref h), (1, .int (iZ a)), (2, .int (iZ b)), (3, .int (iZ w))]) hx hb dX5_hasIce_1 hl (bl rfl) rfl (fun ls hl => ?_)
  have HL1 : ∀ (fu : Nat) (i : Int) (ls : Array Slot), (ni + 1 - i) < (fu : Int) → 0 ≤ i → i ≤ ni → (∀ j : Int, 0 ≤ j → j < i → ¬ icR g j a b w) → lv_has ls 9 [(4, .int (iZ i)), (0, .ref h), (1, .int (iZ a)), (2, .int (iZ b)), (3, .int (iZ w))] → W p l e (rj 0 0 0) s m [.ref h, .int (iZ a), .int (iZ b), .int (iZ w)].toArray below meth c s.heap [] 0 0 (MQ below (QcRead (iZ (bz (isIc g ni a b w)))) [.ref h, .int (iZ a), .int (iZ b), .int (iZ w)].toArray s 0 0 (fun _ => False)) (F0 m 3 ls []) := by
    intro fu
    induction fu with
    | zero => intro i ls hμ1 hi1 hi2 hi3 hl; exact absurd hμ1 (by omega)
    | succ fu ih1 =>
      intro i ls hμ1 hi1 hi2 hi3 hl
      refine lv_iload hx hb dX5_hasIce_3 (lv_at hl 0 rfl) ?_
      refine lv_aload_n hx hb dX5_hasIce_5 rfl (lv_at hl 1 rfl) ?_
      refine va_get (D := D) (ci := 5) (v := .int (iZ ni)) (C := RX5) (T := TX5) (N := 7) hx hb hts iX5 hown hK hP 0 rfl rfl 4 (bl rfl) (hts _ qf_X5_26) (fun _ h => h) f4 dX5_hasIce_6 ?_
      refine lv_icmp_ge (tgt := 110) hx hb dX5_hasIce_9 rfl (fun c_1 => ?_) (fun c_1 => ?_)
      ·
        have c_1 := (zle (x := iZ ni) (y := iZ i) rfl rfl ⟨by omega, by omega⟩ ⟨by omega, by omega⟩).mp c_1
        refine lv_iconst (v := iZ 0) hx hb dX5_hasIce_110 rfl ?_
        exact ERz hx hb hr hlocks rfl (by rw [bz_f (fun ⟨j, h1, h2, h3⟩ => hi3 j h1 (by omega) h3)]) dX5_hasIce_111
      ·
        have c_1 := mt (zle (x := iZ ni) (y := iZ i) rfl rfl ⟨by omega, by omega⟩ ⟨by omega, by omega⟩).mpr c_1
        refine lv_iload hx hb dX5_hasIce_12 (lv_at hl 0 rfl) ?_
        refine lv_iconst (v := iZ 4) hx hb dX5_hasIce_14 rfl ?_
        refine lv_imul hx hb dX5_hasIce_15 ?_
        refine lv_topi (fun x_2 ex_2 => ?_)
        obtain rfl : x_2 = iZ (i * 4) := ex_2.trans (iZ_mul i 4)
        refine lv_istore (lv' := [(5, .int (iZ (i * 4))), (4, .int (iZ i)), (0, .ref h), (1, .int (iZ a)), (2, .int (iZ b)), (3, .int (iZ w))]) hx hb dX5_hasIce_16 hl (bl rfl) rfl (fun ls hl => ?_)
        refine lv_aload_n hx hb dX5_hasIce_18 rfl (lv_at hl 2 rfl) ?_
        refine va_get (D := D) (ci := 5) (v := .ref hg) (C := RX5) (T := TX5) (N := 7) hx hb hts iX5 hown hK hP 0 rfl rfl 2 (bl rfl) (hts _ qf_X5_19) (fun _ h => h) f2 dX5_hasIce_19 ?_
        refine lv_iload hx hb dX5_hasIce_22 (lv_at hl 0 rfl) ?_
        refine lv_iconst (v := iZ 0) hx hb dX5_hasIce_24 rfl ?_
        refine lv_iadd hx hb dX5_hasIce_25 ?_
        refine lv_topi (fun x_3 ex_3 => ?_)
        obtain rfl : x_3 = iZ ((i * 4) + 0) := ex_3.trans (iZ_add (i * 4) 0)
        refine va_iald hx hb hK hP 1 1 rfl rfl (zin (e := ((i * 4) + 0)) (n := 32) ⟨by omega, by omega⟩ (bl rfl)) dX5_hasIce_26 ?_
        refine lv_topi (fun x_4 ex_4 => ?_)
        obtain rfl : x_4 = iZ (gz g ((i * 4) + 0)) := ex_4.trans (gz_eq ⟨by omega, by omega⟩)
        have h_5 := gz_rg g ((i * 4) + 0)
        refine lv_istore (lv' := [(6, .int (iZ (gz g ((i * 4) + 0)))), (5, .int (iZ (i * 4))), (4, .int (iZ i)), (0, .ref h), (1, .int (iZ a)), (2, .int (iZ b)), (3, .int (iZ w))]) hx hb dX5_hasIce_27 hl (bl rfl) rfl (fun ls hl => ?_)
        refine lv_aload_n hx hb dX5_hasIce_29 rfl (lv_at hl 3 rfl) ?_
        refine va_get (D := D) (ci := 5) (v := .ref hg) (C := RX5) (T := TX5) (N := 7) hx hb hts iX5 hown hK hP 0 rfl rfl 2 (bl rfl) (hts _ qf_X5_19) (fun _ h => h) f2 dX5_hasIce_30 ?_
        refine lv_iload hx hb dX5_hasIce_33 (lv_at hl 1 rfl) ?_
        refine lv_iconst (v := iZ 1) hx hb dX5_hasIce_35 rfl ?_
        refine lv_iadd hx hb dX5_hasIce_36 ?_
        refine lv_topi (fun x_6 ex_6 => ?_)
        obtain rfl : x_6 = iZ ((i * 4) + 1) := ex_6.trans (iZ_add (i * 4) 1)
        refine va_iald hx hb hK hP 1 1 rfl rfl (zin (e := ((i * 4) + 1)) (n := 32) ⟨by omega, by omega⟩ (bl rfl)) dX5_hasIce_37 ?_
        refine lv_topi (fun x_7 ex_7 => ?_)
        obtain rfl : x_7 = iZ (gz g ((i * 4) + 1)) := ex_7.trans (gz_eq ⟨by omega, by omega⟩)
        have h_8 := gz_rg g ((i * 4) + 1)
        refine lv_istore (lv' := [(7, .int (iZ (gz g ((i * 4) + 1)))), (6, .int (iZ (gz g ((i * 4) + 0)))), (5, .int (iZ (i * 4))), (4, .int (iZ i)), (0, .ref h), (1, .int (iZ a)), (2, .int (iZ b)), (3, .int (iZ w))]) hx hb dX5_hasIce_38 hl (bl rfl) rfl (fun ls hl => ?_)
        refine lv_iload hx hb dX5_hasIce_40 (lv_at hl 1 rfl) ?_
        refine lv_iload_n hx hb dX5_hasIce_42 rfl (lv_at hl 5 rfl) ?_
        refine lv_icmp_ne (tgt := 52) hx hb dX5_hasIce_43 rfl (fun c_9 => ?_) (fun c_9 => ?_)
        ·
          have c_9 := mt (zeq (x := iZ (gz g ((i * 4) + 0))) (y := iZ a) rfl rfl (gz_rg g ((i * 4) + 0)) ⟨by omega, by omega⟩).mpr c_9
          refine lv_iload hx hb dX5_hasIce_52 (lv_at hl 1 rfl) ?_
          refine lv_iload_n hx hb dX5_hasIce_54 rfl (lv_at hl 6 rfl) ?_
          refine lv_icmp_ne (tgt := 68) hx hb dX5_hasIce_55 rfl (fun c_10 => ?_) (fun c_10 => ?_)
          ·
            have c_10 := mt (zeq (x := iZ (gz g ((i * 4) + 0))) (y := iZ b) rfl rfl (gz_rg g ((i * 4) + 0)) ⟨by omega, by omega⟩).mpr c_10
            refine lv_iconst (v := iZ 0) hx hb dX5_hasIce_68 rfl ?_
            refine lv_istore (lv' := [(8, .int (iZ 0)), (7, .int (iZ (gz g ((i * 4) + 1)))), (6, .int (iZ (gz g ((i * 4) + 0)))), (5, .int (iZ (i * 4))), (4, .int (iZ i)), (0, .ref h), (1, .int (iZ a)), (2, .int (iZ b)), (3, .int (iZ w))]) hx hb dX5_hasIce_69 hl (bl rfl) rfl (fun ls hl => ?_)
            refine lv_iload hx hb dX5_hasIce_71 (lv_at hl 0 rfl) ?_
            refine lv_if_eq (tgt := 104) hx hb dX5_hasIce_73 rfl (fun _ => ?_) (fun c => absurd (by decide) c)
            refine lv_iinc (v := iZ (i + 1)) (lv' := [(4, .int (iZ (i + 1))), (8, .int (iZ 0)), (7, .int (iZ (gz g ((i * 4) + 1)))), (6, .int (iZ (gz g ((i * 4) + 0)))), (5, .int (iZ (i * 4))), (0, .ref h), (1, .int (iZ a)), (2, .int (iZ b)), (3, .int (iZ w))]) hx hb dX5_hasIce_104 hl (k := 4) rfl (iZ_add i 1) (by decide) rfl (fun ls hl => ?_)
            refine lv_goto (tgt := 3) hx hb dX5_hasIce_107 rfl ?_
            exact ih1  (i + 1) _ (by omega) (by omega) (by omega) (by intro j h1 h2; rcases Int.lt_or_eq_of_le (show j ≤ i by omega) with h3 | h3; exact hi3 j h1 h3; rw [h3]; unfold icR; omega) (lv_sub hl [0, 5, 6, 7, 8] rfl)
          ·
            have c_10 := (zeq (x := iZ (gz g ((i * 4) + 0))) (y := iZ b) rfl rfl (gz_rg g ((i * 4) + 0)) ⟨by omega, by omega⟩).mp c_10
            refine lv_iload hx hb dX5_hasIce_58 (lv_at hl 0 rfl) ?_
            refine lv_iload_n hx hb dX5_hasIce_60 rfl (lv_at hl 5 rfl) ?_
            refine lv_icmp_ne (tgt := 68) hx hb dX5_hasIce_61 rfl (fun c_12 => ?_) (fun c_12 => ?_)
            ·
              have c_12 := mt (zeq (x := iZ (gz g ((i * 4) + 1))) (y := iZ a) rfl rfl (gz_rg g ((i * 4) + 1)) ⟨by omega, by omega⟩).mpr c_12
              refine lv_iconst (v := iZ 0) hx hb dX5_hasIce_68 rfl ?_
              refine lv_istore (lv' := [(8, .int (iZ 0)), (7, .int (iZ (gz g ((i * 4) + 1)))), (6, .int (iZ (gz g ((i * 4) + 0)))), (5, .int (iZ (i * 4))), (4, .int (iZ i)), (0, .ref h), (1, .int (iZ a)), (2, .int (iZ b)), (3, .int (iZ w))]) hx hb dX5_hasIce_69 hl (bl rfl) rfl (fun ls hl => ?_)
              refine lv_iload hx hb dX5_hasIce_71 (lv_at hl 0 rfl) ?_
              refine lv_if_eq (tgt := 104) hx hb dX5_hasIce_73 rfl (fun _ => ?_) (fun c => absurd (by decide) c)
              refine lv_iinc (v := iZ (i + 1)) (lv' := [(4, .int (iZ (i + 1))), (8, .int (iZ 0)), (7, .int (iZ (gz g ((i * 4) + 1)))), (6, .int (iZ (gz g ((i * 4) + 0)))), (5, .int (iZ (i * 4))), (0, .ref h), (1, .int (iZ a)), (2, .int (iZ b)), (3, .int (iZ w))]) hx hb dX5_hasIce_104 hl (k := 4) rfl (iZ_add i 1) (by decide) rfl (fun ls hl => ?_)
              refine lv_goto (tgt := 3) hx hb dX5_hasIce_107 rfl ?_
              exact ih1  (i + 1) _ (by omega) (by omega) (by omega) (by intro j h1 h2; rcases Int.lt_or_eq_of_le (show j ≤ i by omega) with h3 | h3; exact hi3 j h1 h3; rw [h3]; unfold icR; omega) (lv_sub hl [0, 5, 6, 7, 8] rfl)
            ·
              have c_12 := (zeq (x := iZ (gz g ((i * 4) + 1))) (y := iZ a) rfl rfl (gz_rg g ((i * 4) + 1)) ⟨by omega, by omega⟩).mp c_12
              refine lv_iconst (v := iZ 1) hx hb dX5_hasIce_64 rfl ?_
              refine lv_goto (tgt := 69) hx hb dX5_hasIce_65 rfl ?_
              refine lv_istore (lv' := [(8, .int (iZ 1)), (7, .int (iZ (gz g ((i * 4) + 1)))), (6, .int (iZ (gz g ((i * 4) + 0)))), (5, .int (iZ (i * 4))), (4, .int (iZ i)), (0, .ref h), (1, .int (iZ a)), (2, .int (iZ b)), (3, .int (iZ w))]) hx hb dX5_hasIce_69 hl (bl rfl) rfl (fun ls hl => ?_)
              refine lv_iload hx hb dX5_hasIce_71 (lv_at hl 0 rfl) ?_
              refine lv_if_eq (tgt := 104) hx hb dX5_hasIce_73 rfl (fun c => absurd c (by decide)) (fun _ => ?_)
              refine lv_iload_n hx hb dX5_hasIce_76 rfl (lv_at hl 8 rfl) ?_
              refine lv_aload_n hx hb dX5_hasIce_77 rfl (lv_at hl 5 rfl) ?_
              refine va_get (D := D) (ci := 5) (v := .ref hg) (C := RX5) (T := TX5) (N := 7) hx hb hts iX5 hown hK hP 0 rfl rfl 2 (bl rfl) (hts _ qf_X5_19) (fun _ h => h) f2 dX5_hasIce_78 ?_
              refine lv_iload hx hb dX5_hasIce_81 (lv_at hl 3 rfl) ?_
              refine lv_iconst (v := iZ 2) hx hb dX5_hasIce_83 rfl ?_
              refine lv_iadd hx hb dX5_hasIce_84 ?_
              refine lv_topi (fun x_15 ex_15 => ?_)
              obtain rfl : x_15 = iZ ((i * 4) + 2) := ex_15.trans (iZ_add (i * 4) 2)
              refine va_iald hx hb hK hP 1 1 rfl rfl (zin (e := ((i * 4) + 2)) (n := 32) ⟨by omega, by omega⟩ (bl rfl)) dX5_hasIce_85 ?_
              refine lv_topi (fun x_16 ex_16 => ?_)
              obtain rfl : x_16 = iZ (gz g ((i * 4) + 2)) := ex_16.trans (gz_eq ⟨by omega, by omega⟩)
              have h_17 := gz_rg g ((i * 4) + 2)
              refine lv_icmp_lt (tgt := 104) hx hb dX5_hasIce_86 rfl (fun c_18 => ?_) (fun c_18 => ?_)
              ·
                have c_18 := (zlt (x := iZ w) (y := iZ (gz g ((i * 4) + 2))) rfl rfl ⟨by omega, by omega⟩ (gz_rg g ((i * 4) + 2))).mp c_18
                refine lv_iinc (v := iZ (i + 1)) (lv' := [(4, .int (iZ (i + 1))), (8, .int (iZ 1)), (7, .int (iZ (gz g ((i * 4) + 1)))), (6, .int (iZ (gz g ((i * 4) + 0)))), (5, .int (iZ (i * 4))), (0, .ref h), (1, .int (iZ a)), (2, .int (iZ b)), (3, .int (iZ w))]) hx hb dX5_hasIce_104 hl (k := 4) rfl (iZ_add i 1) (by decide) rfl (fun ls hl => ?_)
                refine lv_goto (tgt := 3) hx hb dX5_hasIce_107 rfl ?_
                exact ih1  (i + 1) _ (by omega) (by omega) (by omega) (by intro j h1 h2; rcases Int.lt_or_eq_of_le (show j ≤ i by omega) with h3 | h3; exact hi3 j h1 h3; rw [h3]; unfold icR; omega) (lv_sub hl [0, 5, 6, 7, 8] rfl)
              ·
                have c_18 := mt (zlt (x := iZ w) (y := iZ (gz g ((i * 4) + 2))) rfl rfl ⟨by omega, by omega⟩ (gz_rg g ((i * 4) + 2))).mpr c_18
                refine lv_iload_n hx hb dX5_hasIce_89 rfl (lv_at hl 8 rfl) ?_
                refine lv_aload_n hx hb dX5_hasIce_90 rfl (lv_at hl 5 rfl) ?_
                refine va_get (D := D) (ci := 5) (v := .ref hg) (C := RX5) (T := TX5) (N := 7) hx hb hts iX5 hown hK hP 0 rfl rfl 2 (bl rfl) (hts _ qf_X5_19) (fun _ h => h) f2 dX5_hasIce_91 ?_
                refine lv_iload hx hb dX5_hasIce_94 (lv_at hl 3 rfl) ?_
                refine lv_iconst (v := iZ 3) hx hb dX5_hasIce_96 rfl ?_
                refine lv_iadd hx hb dX5_hasIce_97 ?_
                refine lv_topi (fun x_19 ex_19 => ?_)
                obtain rfl : x_19 = iZ ((i * 4) + 3) := ex_19.trans (iZ_add (i * 4) 3)
                refine va_iald hx hb hK hP 1 1 rfl rfl (zin (e := ((i * 4) + 3)) (n := 32) ⟨by omega, by omega⟩ (bl rfl)) dX5_hasIce_98 ?_
                refine lv_topi (fun x_20 ex_20 => ?_)
                obtain rfl : x_20 = iZ (gz g ((i * 4) + 3)) := ex_20.trans (gz_eq ⟨by omega, by omega⟩)
                have h_21 := gz_rg g ((i * 4) + 3)
                refine lv_icmp_gt (tgt := 104) hx hb dX5_hasIce_99 rfl (fun c_22 => ?_) (fun c_22 => ?_)
                ·
                  have c_22 := (zlt (x := iZ (gz g ((i * 4) + 3))) (y := iZ w) rfl rfl (gz_rg g ((i * 4) + 3)) ⟨by omega, by omega⟩).mp c_22
                  refine lv_iinc (v := iZ (i + 1)) (lv' := [(4, .int (iZ (i + 1))), (8, .int (iZ 1)), (7, .int (iZ (gz g ((i * 4) + 1)))), (6, .int (iZ (gz g ((i * 4) + 0)))), (5, .int (iZ (i * 4))), (0, .ref h), (1, .int (iZ a)), (2, .int (iZ b)), (3, .int (iZ w))]) hx hb dX5_hasIce_104 hl (k := 4) rfl (iZ_add i 1) (by decide) rfl (fun ls hl => ?_)
                  refine lv_goto (tgt := 3) hx hb dX5_hasIce_107 rfl ?_
                  exact ih1  (i + 1) _ (by omega) (by omega) (by omega) (by intro j h1 h2; rcases Int.lt_or_eq_of_le (show j ≤ i by omega) with h3 | h3; exact hi3 j h1 h3; rw [h3]; unfold icR; omega) (lv_sub hl [0, 5, 6, 7, 8] rfl)
                ·
                  have c_22 := mt (zlt (x := iZ (gz g ((i * 4) + 3))) (y := iZ w) rfl rfl (gz_rg g ((i * 4) + 3)) ⟨by omega, by omega⟩).mpr c_22
                  refine lv_iconst (v := iZ 1) hx hb dX5_hasIce_102 rfl ?_
                  exact ERz hx hb hr hlocks rfl (by rw [bz_t ⟨i, hi1, by omega, by unfold icR; omega⟩]) dX5_hasIce_103
        ·
          have c_9 := (zeq (x := iZ (gz g ((i * 4) + 0))) (y := iZ a) rfl rfl (gz_rg g ((i * 4) + 0)) ⟨by omega, by omega⟩).mp c_9
          refine lv_iload hx hb dX5_hasIce_46 (lv_at hl 0 rfl) ?_
          refine lv_iload_n hx hb dX5_hasIce_48 rfl (lv_at hl 6 rfl) ?_
          refine lv_icmp_eq (tgt := 64) hx hb dX5_hasIce_49 rfl (fun c_23 => ?_) (fun c_23 => ?_)
          ·
            have c_23 := (zeq (x := iZ (gz g ((i * 4) + 1))) (y := iZ b) rfl rfl (gz_rg g ((i * 4) + 1)) ⟨by omega, by omega⟩).mp c_23
            refine lv_iconst (v := iZ 1) hx hb dX5_hasIce_64 rfl ?_
            refine lv_goto (tgt := 69) hx hb dX5_hasIce_65 rfl ?_
            refine lv_istore (lv' := [(8, .int (iZ 1)), (7, .int (iZ (gz g ((i * 4) + 1)))), (6, .int (iZ (gz g ((i * 4) + 0)))), (5, .int (iZ (i * 4))), (4, .int (iZ i)), (0, .ref h), (1, .int (iZ a)), (2, .int (iZ b)), (3, .int (iZ w))]) hx hb dX5_hasIce_69 hl (bl rfl) rfl (fun ls hl => ?_)
            refine lv_iload hx hb dX5_hasIce_71 (lv_at hl 0 rfl) ?_
            refine lv_if_eq (tgt := 104) hx hb dX5_hasIce_73 rfl (fun c => absurd c (by decide)) (fun _ => ?_)
            refine lv_iload_n hx hb dX5_hasIce_76 rfl (lv_at hl 8 rfl) ?_
            refine lv_aload_n hx hb dX5_hasIce_77 rfl (lv_at hl 5 rfl) ?_
            refine va_get (D := D) (ci := 5) (v := .ref hg) (C := RX5) (T := TX5) (N := 7) hx hb hts iX5 hown hK hP 0 rfl rfl 2 (bl rfl) (hts _ qf_X5_19) (fun _ h => h) f2 dX5_hasIce_78 ?_
            refine lv_iload hx hb dX5_hasIce_81 (lv_at hl 3 rfl) ?_
            refine lv_iconst (v := iZ 2) hx hb dX5_hasIce_83 rfl ?_
            refine lv_iadd hx hb dX5_hasIce_84 ?_
            refine lv_topi (fun x_25 ex_25 => ?_)
            obtain rfl : x_25 = iZ ((i * 4) + 2) := ex_25.trans (iZ_add (i * 4) 2)
            refine va_iald hx hb hK hP 1 1 rfl rfl (zin (e := ((i * 4) + 2)) (n := 32) ⟨by omega, by omega⟩ (bl rfl)) dX5_hasIce_85 ?_
            refine lv_topi (fun x_26 ex_26 => ?_)
            obtain rfl : x_26 = iZ (gz g ((i * 4) + 2)) := ex_26.trans (gz_eq ⟨by omega, by omega⟩)
            have h_27 := gz_rg g ((i * 4) + 2)
            refine lv_icmp_lt (tgt := 104) hx hb dX5_hasIce_86 rfl (fun c_28 => ?_) (fun c_28 => ?_)
            ·
              have c_28 := (zlt (x := iZ w) (y := iZ (gz g ((i * 4) + 2))) rfl rfl ⟨by omega, by omega⟩ (gz_rg g ((i * 4) + 2))).mp c_28
              refine lv_iinc (v := iZ (i + 1)) (lv' := [(4, .int (iZ (i + 1))), (8, .int (iZ 1)), (7, .int (iZ (gz g ((i * 4) + 1)))), (6, .int (iZ (gz g ((i * 4) + 0)))), (5, .int (iZ (i * 4))), (0, .ref h), (1, .int (iZ a)), (2, .int (iZ b)), (3, .int (iZ w))]) hx hb dX5_hasIce_104 hl (k := 4) rfl (iZ_add i 1) (by decide) rfl (fun ls hl => ?_)
              refine lv_goto (tgt := 3) hx hb dX5_hasIce_107 rfl ?_
              exact ih1  (i + 1) _ (by omega) (by omega) (by omega) (by intro j h1 h2; rcases Int.lt_or_eq_of_le (show j ≤ i by omega) with h3 | h3; exact hi3 j h1 h3; rw [h3]; unfold icR; omega) (lv_sub hl [0, 5, 6, 7, 8] rfl)
            ·
              have c_28 := mt (zlt (x := iZ w) (y := iZ (gz g ((i * 4) + 2))) rfl rfl ⟨by omega, by omega⟩ (gz_rg g ((i * 4) + 2))).mpr c_28
              refine lv_iload_n hx hb dX5_hasIce_89 rfl (lv_at hl 8 rfl) ?_
              refine lv_aload_n hx hb dX5_hasIce_90 rfl (lv_at hl 5 rfl) ?_
              refine va_get (D := D) (ci := 5) (v := .ref hg) (C := RX5) (T := TX5) (N := 7) hx hb hts iX5 hown hK hP 0 rfl rfl 2 (bl rfl) (hts _ qf_X5_19) (fun _ h => h) f2 dX5_hasIce_91 ?_
              refine lv_iload hx hb dX5_hasIce_94 (lv_at hl 3 rfl) ?_
              refine lv_iconst (v := iZ 3) hx hb dX5_hasIce_96 rfl ?_
              refine lv_iadd hx hb dX5_hasIce_97 ?_
              refine lv_topi (fun x_29 ex_29 => ?_)
              obtain rfl : x_29 = iZ ((i * 4) + 3) := ex_29.trans (iZ_add (i * 4) 3)
              refine va_iald hx hb hK hP 1 1 rfl rfl (zin (e := ((i * 4) + 3)) (n := 32) ⟨by omega, by omega⟩ (bl rfl)) dX5_hasIce_98 ?_
              refine lv_topi (fun x_30 ex_30 => ?_)
              obtain rfl : x_30 = iZ (gz g ((i * 4) + 3)) := ex_30.trans (gz_eq ⟨by omega, by omega⟩)
              have h_31 := gz_rg g ((i * 4) + 3)
              refine lv_icmp_gt (tgt := 104) hx hb dX5_hasIce_99 rfl (fun c_32 => ?_) (fun c_32 => ?_)
              ·
                have c_32 := (zlt (x := iZ (gz g ((i * 4) + 3))) (y := iZ w) rfl rfl (gz_rg g ((i * 4) + 3)) ⟨by omega, by omega⟩).mp c_32
                refine lv_iinc (v := iZ (i + 1)) (lv' := [(4, .int (iZ (i + 1))), (8, .int (iZ 1)), (7, .int (iZ (gz g ((i * 4) + 1)))), (6, .int (iZ (gz g ((i * 4) + 0)))), (5, .int (iZ (i * 4))), (0, .ref h), (1, .int (iZ a)), (2, .int (iZ b)), (3, .int (iZ w))]) hx hb dX5_hasIce_104 hl (k := 4) rfl (iZ_add i 1) (by decide) rfl (fun ls hl => ?_)
                refine lv_goto (tgt := 3) hx hb dX5_hasIce_107 rfl ?_
                exact ih1  (i + 1) _ (by omega) (by omega) (by omega) (by intro j h1 h2; rcases Int.lt_or_eq_of_le (show j ≤ i by omega) with h3 | h3; exact hi3 j h1 h3; rw [h3]; unfold icR; omega) (lv_sub hl [0, 5, 6, 7, 8] rfl)
              ·
                have c_32 := mt (zlt (x := iZ (gz g ((i * 4) + 3))) (y := iZ w) rfl rfl (gz_rg g ((i * 4) + 3)) ⟨by omega, by omega⟩).mpr c_32
                refine lv_iconst (v := iZ 1) hx hb dX5_hasIce_102 rfl ?_
                exact ERz hx hb hr hlocks rfl (by rw [bz_t ⟨i, hi1, by omega, by unfold icR; omega⟩]) dX5_hasIce_103
          ·
            have c_23 := mt (zeq (x := iZ (gz g ((i * 4) + 1))) (y := iZ b) rfl rfl (gz_rg g ((i * 4) + 1)) ⟨by omega, by omega⟩).mpr c_23
            refine lv_iload hx hb dX5_hasIce_52 (lv_at hl 1 rfl) ?_
            refine lv_iload_n hx hb dX5_hasIce_54 rfl (lv_at hl 6 rfl) ?_
            refine lv_icmp_ne (tgt := 68) hx hb dX5_hasIce_55 rfl (fun c_33 => ?_) (fun c_33 => ?_)
            ·
              have c_33 := mt (zeq (x := iZ (gz g ((i * 4) + 0))) (y := iZ b) rfl rfl (gz_rg g ((i * 4) + 0)) ⟨by omega, by omega⟩).mpr c_33
              refine lv_iconst (v := iZ 0) hx hb dX5_hasIce_68 rfl ?_
              refine lv_istore (lv' := [(8, .int (iZ 0)), (7, .int (iZ (gz g ((i * 4) + 1)))), (6, .int (iZ (gz g ((i * 4) + 0)))), (5, .int (iZ (i * 4))), (4, .int (iZ i)), (0, .ref h), (1, .int (iZ a)), (2, .int (iZ b)), (3, .int (iZ w))]) hx hb dX5_hasIce_69 hl (bl rfl) rfl (fun ls hl => ?_)
              refine lv_iload hx hb dX5_hasIce_71 (lv_at hl 0 rfl) ?_
              refine lv_if_eq (tgt := 104) hx hb dX5_hasIce_73 rfl (fun _ => ?_) (fun c => absurd (by decide) c)
              refine lv_iinc (v := iZ (i + 1)) (lv' := [(4, .int (iZ (i + 1))), (8, .int (iZ 0)), (7, .int (iZ (gz g ((i * 4) + 1)))), (6, .int (iZ (gz g ((i * 4) + 0)))), (5, .int (iZ (i * 4))), (0, .ref h), (1, .int (iZ a)), (2, .int (iZ b)), (3, .int (iZ w))]) hx hb dX5_hasIce_104 hl (k := 4) rfl (iZ_add i 1) (by decide) rfl (fun ls hl => ?_)
              refine lv_goto (tgt := 3) hx hb dX5_hasIce_107 rfl ?_
              exact ih1  (i + 1) _ (by omega) (by omega) (by omega) (by intro j h1 h2; rcases Int.lt_or_eq_of_le (show j ≤ i by omega) with h3 | h3; exact hi3 j h1 h3; rw [h3]; unfold icR; omega) (lv_sub hl [0, 5, 6, 7, 8] rfl)
            ·
              have c_33 := (zeq (x := iZ (gz g ((i * 4) + 0))) (y := iZ b) rfl rfl (gz_rg g ((i * 4) + 0)) ⟨by omega, by omega⟩).mp c_33
              refine lv_iload hx hb dX5_hasIce_58 (lv_at hl 0 rfl) ?_
              refine lv_iload_n hx hb dX5_hasIce_60 rfl (lv_at hl 5 rfl) ?_
              refine lv_icmp_ne (tgt := 68) hx hb dX5_hasIce_61 rfl (fun c_35 => ?_) (fun c_35 => ?_)
              ·
                have c_35 := mt (zeq (x := iZ (gz g ((i * 4) + 1))) (y := iZ a) rfl rfl (gz_rg g ((i * 4) + 1)) ⟨by omega, by omega⟩).mpr c_35
                refine lv_iconst (v := iZ 0) hx hb dX5_hasIce_68 rfl ?_
                refine lv_istore (lv' := [(8, .int (iZ 0)), (7, .int (iZ (gz g ((i * 4) + 1)))), (6, .int (iZ (gz g ((i * 4) + 0)))), (5, .int (iZ (i * 4))), (4, .int (iZ i)), (0, .ref h), (1, .int (iZ a)), (2, .int (iZ b)), (3, .int (iZ w))]) hx hb dX5_hasIce_69 hl (bl rfl) rfl (fun ls hl => ?_)
                refine lv_iload hx hb dX5_hasIce_71 (lv_at hl 0 rfl) ?_
                refine lv_if_eq (tgt := 104) hx hb dX5_hasIce_73 rfl (fun _ => ?_) (fun c => absurd (by decide) c)
                refine lv_iinc (v := iZ (i + 1)) (lv' := [(4, .int (iZ (i + 1))), (8, .int (iZ 0)), (7, .int (iZ (gz g ((i * 4) + 1)))), (6, .int (iZ (gz g ((i * 4) + 0)))), (5, .int (iZ (i * 4))), (0, .ref h), (1, .int (iZ a)), (2, .int (iZ b)), (3, .int (iZ w))]) hx hb dX5_hasIce_104 hl (k := 4) rfl (iZ_add i 1) (by decide) rfl (fun ls hl => ?_)
                refine lv_goto (tgt := 3) hx hb dX5_hasIce_107 rfl ?_
                exact ih1  (i + 1) _ (by omega) (by omega) (by omega) (by intro j h1 h2; rcases Int.lt_or_eq_of_le (show j ≤ i by omega) with h3 | h3; exact hi3 j h1 h3; rw [h3]; unfold icR; omega) (lv_sub hl [0, 5, 6, 7, 8] rfl)
              ·
                have c_35 := (zeq (x := iZ (gz g ((i * 4) + 1))) (y := iZ a) rfl rfl (gz_rg g ((i * 4) + 1)) ⟨by omega, by omega⟩).mp c_35
                refine lv_iconst (v := iZ 1) hx hb dX5_hasIce_64 rfl ?_
                refine lv_goto (tgt := 69) hx hb dX5_hasIce_65 rfl ?_
                refine lv_istore (lv' := [(8, .int (iZ 1)), (7, .int (iZ (gz g ((i * 4) + 1)))), (6, .int (iZ (gz g ((i * 4) + 0)))), (5, .int (iZ (i * 4))), (4, .int (iZ i)), (0, .ref h), (1, .int (iZ a)), (2, .int (iZ b)), (3, .int (iZ w))]) hx hb dX5_hasIce_69 hl (bl rfl) rfl (fun ls hl => ?_)
                refine lv_iload hx hb dX5_hasIce_71 (lv_at hl 0 rfl) ?_
                refine lv_if_eq (tgt := 104) hx hb dX5_hasIce_73 rfl (fun c => absurd c (by decide)) (fun _ => ?_)
                refine lv_iload_n hx hb dX5_hasIce_76 rfl (lv_at hl 8 rfl) ?_
                refine lv_aload_n hx hb dX5_hasIce_77 rfl (lv_at hl 5 rfl) ?_
                refine va_get (D := D) (ci := 5) (v := .ref hg) (C := RX5) (T := TX5) (N := 7) hx hb hts iX5 hown hK hP 0 rfl rfl 2 (bl rfl) (hts _ qf_X5_19) (fun _ h => h) f2 dX5_hasIce_78 ?_
                refine lv_iload hx hb dX5_hasIce_81 (lv_at hl 3 rfl) ?_
                refine lv_iconst (v := iZ 2) hx hb dX5_hasIce_83 rfl ?_
                refine lv_iadd hx hb dX5_hasIce_84 ?_
                refine lv_topi (fun x_38 ex_38 => ?_)
                obtain rfl : x_38 = iZ ((i * 4) + 2) := ex_38.trans (iZ_add (i * 4) 2)
                refine va_iald hx hb hK hP 1 1 rfl rfl (zin (e := ((i * 4) + 2)) (n := 32) ⟨by omega, by omega⟩ (bl rfl)) dX5_hasIce_85 ?_
                refine lv_topi (fun x_39 ex_39 => ?_)
                obtain rfl : x_39 = iZ (gz g ((i * 4) + 2)) := ex_39.trans (gz_eq ⟨by omega, by omega⟩)
                have h_40 := gz_rg g ((i * 4) + 2)
                refine lv_icmp_lt (tgt := 104) hx hb dX5_hasIce_86 rfl (fun c_41 => ?_) (fun c_41 => ?_)
                ·
                  have c_41 := (zlt (x := iZ w) (y := iZ (gz g ((i * 4) + 2))) rfl rfl ⟨by omega, by omega⟩ (gz_rg g ((i * 4) + 2))).mp c_41
                  refine lv_iinc (v := iZ (i + 1)) (lv' := [(4, .int (iZ (i + 1))), (8, .int (iZ 1)), (7, .int (iZ (gz g ((i * 4) + 1)))), (6, .int (iZ (gz g ((i * 4) + 0)))), (5, .int (iZ (i * 4))), (0, .ref h), (1, .int (iZ a)), (2, .int (iZ b)), (3, .int (iZ w))]) hx hb dX5_hasIce_104 hl (k := 4) rfl (iZ_add i 1) (by decide) rfl (fun ls hl => ?_)
                  refine lv_goto (tgt := 3) hx hb dX5_hasIce_107 rfl ?_
                  exact ih1  (i + 1) _ (by omega) (by omega) (by omega) (by intro j h1 h2; rcases Int.lt_or_eq_of_le (show j ≤ i by omega) with h3 | h3; exact hi3 j h1 h3; rw [h3]; unfold icR; omega) (lv_sub hl [0, 5, 6, 7, 8] rfl)
                ·
                  have c_41 := mt (zlt (x := iZ w) (y := iZ (gz g ((i * 4) + 2))) rfl rfl ⟨by omega, by omega⟩ (gz_rg g ((i * 4) + 2))).mpr c_41
                  refine lv_iload_n hx hb dX5_hasIce_89 rfl (lv_at hl 8 rfl) ?_
                  refine lv_aload_n hx hb dX5_hasIce_90 rfl (lv_at hl 5 rfl) ?_
                  refine va_get (D := D) (ci := 5) (v := .ref hg) (C := RX5) (T := TX5) (N := 7) hx hb hts iX5 hown hK hP 0 rfl rfl 2 (bl rfl) (hts _ qf_X5_19) (fun _ h => h) f2 dX5_hasIce_91 ?_
                  refine lv_iload hx hb dX5_hasIce_94 (lv_at hl 3 rfl) ?_
                  refine lv_iconst (v := iZ 3) hx hb dX5_hasIce_96 rfl ?_
                  refine lv_iadd hx hb dX5_hasIce_97 ?_
                  refine lv_topi (fun x_42 ex_42 => ?_)
                  obtain rfl : x_42 = iZ ((i * 4) + 3) := ex_42.trans (iZ_add (i * 4) 3)
                  refine va_iald hx hb hK hP 1 1 rfl rfl (zin (e := ((i * 4) + 3)) (n := 32) ⟨by omega, by omega⟩ (bl rfl)) dX5_hasIce_98 ?_
                  refine lv_topi (fun x_43 ex_43 => ?_)
                  obtain rfl : x_43 = iZ (gz g ((i * 4) + 3)) := ex_43.trans (gz_eq ⟨by omega, by omega⟩)
                  have h_44 := gz_rg g ((i * 4) + 3)
                  refine lv_icmp_gt (tgt := 104) hx hb dX5_hasIce_99 rfl (fun c_45 => ?_) (fun c_45 => ?_)
                  ·
                    have c_45 := (zlt (x := iZ (gz g ((i * 4) + 3))) (y := iZ w) rfl rfl (gz_rg g ((i * 4) + 3)) ⟨by omega, by omega⟩).mp c_45
                    refine lv_iinc (v := iZ (i + 1)) (lv' := [(4, .int (iZ (i + 1))), (8, .int (iZ 1)), (7, .int (iZ (gz g ((i * 4) + 1)))), (6, .int (iZ (gz g ((i * 4) + 0)))), (5, .int (iZ (i * 4))), (0, .ref h), (1, .int (iZ a)), (2, .int (iZ b)), (3, .int (iZ w))]) hx hb dX5_hasIce_104 hl (k := 4) rfl (iZ_add i 1) (by decide) rfl (fun ls hl => ?_)
                    refine lv_goto (tgt := 3) hx hb dX5_hasIce_107 rfl ?_
                    exact ih1  (i + 1) _ (by omega) (by omega) (by omega) (by intro j h1 h2; rcases Int.lt_or_eq_of_le (show j ≤ i by omega) with h3 | h3; exact hi3 j h1 h3; rw [h3]; unfold icR; omega) (lv_sub hl [0, 5, 6, 7, 8] rfl)
                  ·
                    have c_45 := mt (zlt (x := iZ (gz g ((i * 4) + 3))) (y := iZ w) rfl rfl (gz_rg g ((i * 4) + 3)) ⟨by omega, by omega⟩).mpr c_45
                    refine lv_iconst (v := iZ 1) hx hb dX5_hasIce_102 rfl ?_
                    exact ERz hx hb hr hlocks rfl (by rw [bz_t ⟨i, hi1, by omega, by unfold icR; omega⟩]) dX5_hasIce_103
  exact HL1 10 0 _ (by omega) (by omega) (by omega) (fun j h1 h2 => absurd h1 (by omega)) (lv_sub hl [0, 1, 2, 3, 4] rfl)
theorem lgc_eq {x y : Int64} : lg_cmp x y = 0 ↔ x = y := lg_cmp_eq x y