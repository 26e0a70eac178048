set_option maxHeartbeats 4000000 in
set_option maxRecDepth 100000 in
theorem k_seen (l : Launch) (D : va_G) (k : Nat → ClassId) (h hs ha hl0 : Nat) (op : Int64) (fa fl : Nat → Int32) (rga : rgI fa (-2) 420 14436) (rgl : rgI fl (-2) 400 14436) (fs : List Value) (hf hg : Nat) (f1 : fs[1]? = some (.ref hf)) (f2 : fs[2]? = some (.ref hg)) (f g : Nat → Int32) (n : Int) (hn : n ≤ 6) (hx0 : FXI f n) (ni : Int) (f4 : fs[4]? = some (.int (iZ ni))) (hni : 0 ≤ ni ∧ ni ≤ 8) (a b w : Int) (ha0 : 0 ≤ a ∧ a < n) (hb0 : 0 ≤ b ∧ b < n) (hw : -2147483648 ≤ w ∧ w < 2147483648) : WD (σ := (Int × Int64 × (Nat → Int32) × (Nat → Int32))) l yX3_seen cX3_seen 10 (some .int) 2 0 0 D k [.ref h, .int (iZ a), .int (iZ b), .int (iZ w)] [(h, .inr (3, [.ref hs, .long op, .ref ha, .ref hl0])), (ha, .inl (k 1, 14436, .inl fa)), (hl0, .inl (k 1, 14436, .inl fl)), (hs, .inr (5, fs)), (hf, .inl (k 1, 36, .inl f)), (hg, .inl (k 1, 32, .inl g))] (fun u => some (.int (iZ u.1))) (fun u => (-1 ≤ u.1 ∧ u.1 ≤ 400) ∧ rgI u.2.2.1 (-2) 420 14436 ∧ rgI u.2.2.2 (-2) 400 14436) (fun u => [(h, .inr (3, [.ref hs, .long u.2.1, .ref ha, .ref hl0])), (ha, .inl (k 1, 14436, .inl u.2.2.1)), (hl0, .inl (k 1, 14436, .inl u.2.2.2)), (hs, .inr (5, fs)), (hf, .inl (k 1, 36, .inl f)), (hg, .inl (k 1, 32, .inl g))]) := by
  refine MW (by decide) (Nat.le_of_ble_eq_true rfl) (fun p e s m below meth c ls A hx hb hml hr hlocks hin hts hown hKK hP hD hS hA hl => ?_)
  have hK := hKK.1
  have hl : lv_has ls 10 [(0, .ref h), (1, .int (iZ a)), (2, .int (iZ b)), (3, .int (iZ w))] := hl
  refine lv_iload_n hx hb dX3_seen_0 rfl (lv_at hl 3 rfl) ?_
  refine lv_if_lt (tgt := 11) hx hb dX3_seen_1 (by decide) (fun c_1 => ?_) (fun c_1 => ?_)
  ·
    have c_1 := (zlt (x := iZ w) (y := iZ 0) rfl rfl ⟨by omega, by omega⟩ ⟨by omega, by omega⟩).mp c_1
    refine lv_iconst (v := iZ (-1)) hx hb dX3_seen_11 (by decide) ?_
    exact EWi hx hb hr hlocks hS ((-1), op, fa, fl) rfl ⟨⟨by omega, by omega⟩, rga, rgl⟩ (hP.sub [0, 1, 2, 3, 4, 5] rfl) (hD.sub [0, 1, 2, 3, 4, 5] rfl rfl) dX3_seen_12
  ·
    have c_1 := mt (zlt (x := iZ w) (y := iZ 0) rfl rfl ⟨by omega, by omega⟩ ⟨by omega, by omega⟩).mpr c_1
    refine lv_iload_n hx hb dX3_seen_4 rfl (lv_at hl 3 rfl) ?_
    refine lv_sipush (v := iZ 400) hx hb dX3_seen_5 (by decide) ?_
    refine lv_icmp_le (tgt := 13) hx hb dX3_seen_8 (by decide) (fun c_2 => ?_) (fun c_2 => ?_)
    ·
      have c_2 := (zle (x := iZ w) (y := iZ 400) rfl rfl ⟨by omega, by omega⟩ ⟨by omega, by omega⟩).mp c_2
      refine lv_iload_n hx hb dX3_seen_13 rfl (lv_at hl 1 rfl) ?_
      refine lv_iload_n hx hb dX3_seen_14 rfl (lv_at hl 2 rfl) ?_
      refine lv_icmp_ne (tgt := 20) hx hb dX3_seen_15 (by decide) (fun c_3 => ?_) (fun c_3 => ?_)
      ·
        have c_3 := mt (zeq (x := iZ a) (y := iZ b) rfl rfl ⟨by omega, by omega⟩ ⟨by omega, by omega⟩).mpr c_3
        refine lv_aload_n hx hb dX3_seen_20 rfl (lv_at hl 0 rfl) ?_
        refine lv_iload_n hx hb dX3_seen_21 rfl (lv_at hl 2 rfl) ?_
        refine lv_iload_n hx hb dX3_seen_22 rfl (lv_at hl 1 rfl) ?_
        refine CWV (As := [.int (iZ b), .int (iZ a)]) (rest := []) (wc := [(h, .inr (3, [.ref hs, .long op, .ref ha, .ref hl0])), (ha, .inl (k 1, 14436, .inl fa)), (hl0, .inl (k 1, 14436, .inl fl))]) (wr := [(hs, .inr (5, fs)), (hf, .inl (k 1, 36, .inl f)), (hg, .inl (k 1, 32, .inl g))]) hx hb hml hown hts hKK hP hD hS hA (k_openedRow l D k h hs ha hl0 op fa fl rga rgl b a ⟨by omega, by omega⟩ ⟨by omega, by omega⟩) ci_X3_openedRow qm_X3_26 ⟨Nat.le_of_ble_eq_true rfl, Nat.le_of_ble_eq_true rfl⟩ ⟨Nat.le_of_ble_eq_true rfl, Nat.le_of_ble_eq_true rfl⟩ [0, 1, 2] [3, 4, 5] rfl rfl rfl rfl rfl (by decide) 0 rfl rfl rfl hl.1 rfl (Nat.le_of_ble_eq_true rfl) dX3_seen_23 (fun u_4 H locs hφ hP hD hS => ?_)
        obtain ⟨z_5, op_6, fa_7, fl_8⟩ := u_4
        obtain ⟨h_9, rah_9, rlh_9⟩ := hφ
        dsimp only at h_9 rah_9 rlh_9
        subst h_9
        have hP : va_P D vwCl [(hs, .inr (5, fs)), (hf, .inl (k 1, 36, .inl f)), (hg, .inl (k 1, 32, .inl g)), (h, .inr (3, [.ref hs, .long op_6, .ref ha, .ref hl0])), (ha, .inl (k 1, 14436, .inl fa_7)), (hl0, .inl (k 1, 14436, .inl fl_8))] H := hP
        have hD : va_D A [(hs, .inr (5, fs)), (hf, .inl (k 1, 36, .inl f)), (hg, .inl (k 1, 32, .inl g)), (h, .inr (3, [.ref hs, .long op_6, .ref ha, .ref hl0])), (ha, .inl (k 1, 14436, .inl fa_7)), (hl0, .inl (k 1, 14436, .inl fl_8))] := hD
        refine W.eq (g2 := F0 m 26 ls [.int (iZ (((b * 6) + a) * 401))]) rfl ?_
        refine lv_istore (lv' := [(4, .int (iZ (((b * 6) + a) * 401))), (0, .ref h), (1, .int (iZ a)), (2, .int (iZ b)), (3, .int (iZ w))]) hx hb dX3_seen_26 hl (by decide) rfl (fun ls hl => ?_)
        refine lv_aload_n hx hb dX3_seen_28 rfl (lv_at hl 1 rfl) ?_
        refine va_get (D := D) (ci := 3) (v := .ref hl0) (C := RX3) (T := TX3) (N := 4) hx hb hts iX3 hown hK hP 3 rfl rfl 3 (by decide) (hts _ qf_X3_23) (fun _ h => h) rfl dX3_seen_29 ?_
        refine lv_iload hx hb dX3_seen_32 (lv_at hl 0 rfl) ?_
        refine lv_iload_n hx hb dX3_seen_34 rfl (lv_at hl 4 rfl) ?_
        refine lv_iadd hx hb dX3_seen_35 ?_
        refine lv_topi (fun x_10 ex_10 => ?_)
        obtain rfl : x_10 = iZ ((((b * 6) + a) * 401) + w) := ex_10.trans (iZ_add (((b * 6) + a) * 401) w)
        refine va_iald hx hb hK hP 5 1 rfl rfl (zin (e := ((((b * 6) + a) * 401) + w)) (n := 14436) ⟨by omega, by omega⟩ (by decide)) dX3_seen_36 ?_
        refine lv_topi (fun x_11 ex_11 => ?_)
        obtain rfl : x_11 = iZ (gz fl_8 ((((b * 6) + a) * 401) + w)) := ex_11.trans (gz_eq ⟨by omega, by omega⟩)
        have h_12 := rlh_9 ((((b * 6) + a) * 401) + w) (by omega) (by omega)
        refine lv_bipush (v := iZ (-2)) hx hb dX3_seen_37 (by decide) ?_
        refine lv_icmp_eq (tgt := 52) hx hb dX3_seen_39 (by decide) (fun c_13 => ?_) (fun c_13 => ?_)
        ·
          have c_13 := (zeq (x := iZ (gz fl_8 ((((b * 6) + a) * 401) + w))) (y := iZ (-2)) rfl rfl ⟨by omega, by omega⟩ ⟨by omega, by omega⟩).mp c_13
          refine lv_iload_n hx hb dX3_seen_52 rfl (lv_at hl 4 rfl) ?_
          refine lv_if_ne (tgt := 60) hx hb dX3_seen_53 (by decide) (fun c_14 => ?_) (fun c_14 => ?_)
          ·
            have c_14 := mt (zeq (x := iZ w) (y := iZ 0) rfl rfl ⟨by omega, by omega⟩ ⟨by omega, by omega⟩).mpr c_14
            refine lv_aload_n hx hb dX3_seen_60 rfl (lv_at hl 1 rfl) ?_
            refine va_get (D := D) (ci := 3) (v := .ref hl0) (C := RX3) (T := TX3) (N := 4) hx hb hts iX3 hown hK hP 3 rfl rfl 3 (by decide) (hts _ qf_X3_23) (fun _ h => h) rfl dX3_seen_61 ?_
            refine lv_iload hx hb dX3_seen_64 (lv_at hl 0 rfl) ?_
            refine lv_iload_n hx hb dX3_seen_66 rfl (lv_at hl 4 rfl) ?_
            refine lv_iadd hx hb dX3_seen_67 ?_
            refine lv_topi (fun x_15 ex_15 => ?_)
            obtain rfl : x_15 = iZ ((((b * 6) + a) * 401) + w) := ex_15.trans (iZ_add (((b * 6) + a) * 401) w)
            refine lv_iconst (v := iZ 1) hx hb dX3_seen_68 (by decide) ?_
            refine lv_isub hx hb dX3_seen_69 ?_
            refine lv_topi (fun x_16 ex_16 => ?_)
            obtain rfl : x_16 = iZ (((((b * 6) + a) * 401) + w) - 1) := ex_16.trans (iZ_sub ((((b * 6) + a) * 401) + w) 1)
            refine va_iald hx hb hK hP 5 1 rfl rfl (zin (e := (((((b * 6) + a) * 401) + w) - 1)) (n := 14436) ⟨by omega, by omega⟩ (by decide)) dX3_seen_70 ?_
            refine lv_topi (fun x_17 ex_17 => ?_)
            obtain rfl : x_17 = iZ (gz fl_8 (((((b * 6) + a) * 401) + w) - 1)) := ex_17.trans (gz_eq ⟨by omega, by omega⟩)
            have h_18 := rlh_9 (((((b * 6) + a) * 401) + w) - 1) (by omega) (by omega)
            refine lv_istore (lv' := [(5, .int (iZ (gz fl_8 (((((b * 6) + a) * 401) + w) - 1)))), (4, .int (iZ (((b * 6) + a) * 401))), (0, .ref h), (1, .int (iZ a)), (2, .int (iZ b)), (3, .int (iZ w))]) hx hb dX3_seen_71 hl (by decide) rfl (fun ls hl => ?_)
            refine lv_iload hx hb dX3_seen_73 (lv_at hl 0 rfl) ?_
            refine lv_bipush (v := iZ (-2)) hx hb dX3_seen_75 (by decide) ?_
            refine lv_icmp_ne (tgt := 84) hx hb dX3_seen_77 (by decide) (fun c_19 => ?_) (fun c_19 => ?_)
            ·
              have c_19 := mt (zeq (x := iZ (gz fl_8 (((((b * 6) + a) * 401) + w) - 1))) (y := iZ (-2)) rfl rfl ⟨by omega, by omega⟩ ⟨by omega, by omega⟩).mpr c_19
              refine lv_iload hx hb dX3_seen_84 (lv_at hl 0 rfl) ?_
              refine lv_istore (lv' := [(6, .int (iZ (gz fl_8 (((((b * 6) + a) * 401) + w) - 1)))), (5, .int (iZ (gz fl_8 (((((b * 6) + a) * 401) + w) - 1)))), (4, .int (iZ (((b * 6) + a) * 401))), (0, .ref h), (1, .int (iZ a)), (2, .int (iZ b)), (3, .int (iZ w))]) hx hb dX3_seen_86 hl (by decide) rfl (fun ls hl => ?_)
              refine lv_iload hx hb dX3_seen_88 (lv_at hl 1 rfl) ?_
              refine lv_bipush (v := iZ (-2)) hx hb dX3_seen_90 (by decide) ?_
              refine lv_icmp_ne (tgt := 99) hx hb dX3_seen_92 (by decide) (fun c_20 => ?_) (fun c_20 => ?_)
              ·
                have c_20 := mt (zeq (x := iZ (gz fl_8 (((((b * 6) + a) * 401) + w) - 1))) (y := iZ (-2)) rfl rfl ⟨by omega, by omega⟩ ⟨by omega, by omega⟩).mpr c_20
                refine lv_iload hx hb dX3_seen_99 (lv_at hl 1 rfl) ?_
                refine lv_iconst (v := iZ 1) hx hb dX3_seen_101 (by decide) ?_
                refine lv_iadd hx hb dX3_seen_102 ?_
                refine lv_topi (fun x_21 ex_21 => ?_)
                obtain rfl : x_21 = iZ ((gz fl_8 (((((b * 6) + a) * 401) + w) - 1)) + 1) := ex_21.trans (iZ_add (gz fl_8 (((((b * 6) + a) * 401) + w) - 1)) 1)
                refine lv_iload_n hx hb dX3_seen_103 rfl (lv_at hl 6 rfl) ?_
                refine lv_bipush (v := iZ 20) hx hb dX3_seen_104 (by decide) ?_
                refine lv_isub hx hb dX3_seen_106 ?_
                refine lv_topi (fun x_22 ex_22 => ?_)
                obtain rfl : x_22 = iZ (w - 20) := ex_22.trans (iZ_sub w 20)
                refine va_mmax (rest := []) hx hb (by rw [hml]; exact hl.1.symm) (own := RX3) hown (hts _ qm_X3_43) (hts _ qt_yJ9_max_7cf53) (hts _ qz_J9) (hts _ qc_J9_max_7cf53) (Nat.le_of_ble_eq_true rfl) (Nat.le_of_ble_eq_true rfl) (Nat.le_of_ble_eq_true rfl) (Nat.le_of_ble_eq_true rfl) dX3_seen_107 ?_
                refine lv_topi (fun x_23 ex_23 => ?_)
                obtain rfl : x_23 = iZ (max ((gz fl_8 (((((b * 6) + a) * 401) + w) - 1)) + 1) (w - 20)) := ex_23.trans (zmax ⟨by omega, by omega⟩ ⟨by omega, by omega⟩)
                refine lv_istore (lv' := [(7, .int (iZ (max ((gz fl_8 (((((b * 6) + a) * 401) + w) - 1)) + 1) (w - 20)))), (6, .int (iZ (gz fl_8 (((((b * 6) + a) * 401) + w) - 1)))), (5, .int (iZ (gz fl_8 (((((b * 6) + a) * 401) + w) - 1)))), (4, .int (iZ (((b * 6) + a) * 401))), (0, .ref h), (1, .int (iZ a)), (2, .int (iZ b)), (3, .int (iZ w))]) hx hb dX3_seen_110 hl (by decide) rfl (fun ls hl => ?_)
                refine lv_iload_n hx hb dX3_seen_112 rfl (lv_at hl 7 rfl) ?_
                refine lv_iconst (v := iZ 1) hx hb dX3_seen_113 (by decide) ?_
                refine lv_isub hx hb dX3_seen_114 ?_
                refine lv_topi (fun x_24 ex_24 => ?_)
                obtain rfl : x_24 = iZ (w - 1) := ex_24.trans (iZ_sub w 1)
                refine lv_istore (lv' := [(8, .int (iZ (w - 1))), (7, .int (iZ (max ((gz fl_8 (((((b * 6) + a) * 401) + w) - 1)) + 1) (w - 20)))), (6, .int (iZ (gz fl_8 (((((b * 6) + a) * 401) + w) - 1)))), (5, .int (iZ (gz fl_8 (((((b * 6) + a) * 401) + w) - 1)))), (4, .int (iZ (((b * 6) + a) * 401))), (0, .ref h), (1, .int (iZ a)), (2, .int (iZ b)), (3, .int (iZ w))]) hx hb dX3_seen_115 hl (by decide) rfl (fun ls hl => ?_)
                have HL1 : ∀ (fu : Nat) (i : Int) (op2 : Int64) (g1 g2 : Nat → Int32) (H : Heap) (locs : List Loc) (ls : Array Slot), (i + 2) < (fu : Int) → -1 ≤ i → i ≤ w - 1 → rgI g1 (-2) 420 14436 → rgI g2 (-2) 400 14436 → va_P D vwCl [(hs, .inr (5, fs)), (hf, .inl (k 1, 36, .inl f)), (hg, .inl (k 1, 32, .inl g)), (h, .inr (3, [.ref hs, .long op2, .ref ha, .ref hl0])), (ha, .inl (k 1, 14436, .inl g1)), (hl0, .inl (k 1, 14436, .inl g2))] H → va_D A [(hs, .inr (5, fs)), (hf, .inl (k 1, 36, .inl f)), (hg, .inl (k 1, 32, .inl g)), (h, .inr (3, [.ref hs, .long op2, .ref ha, .ref hl0])), (ha, .inl (k 1, 14436, .inl g1)), (hl0, .inl (k 1, 14436, .inl g2))] → va_S A s.heap H locs → lv_has ls 10 [(8, .int (iZ i)), (7, .int (iZ (max ((gz fl_8 (((((b * 6) + a) * 401) + w) - 1)) + 1) (w - 20)))), (6, .int (iZ (gz fl_8 (((((b * 6) + a) * 401) + w) - 1)))), (5, .int (iZ (gz fl_8 (((((b * 6) + a) * 401) + w) - 1)))), (4, .int (iZ (((b * 6) + a) * 401))), (0, .ref h), (1, .int (iZ a)), (2, .int (iZ b)), (3, .int (iZ w))] → W p l e (rj 2 0 0) s m [.ref h, .int (iZ a), .int (iZ b), .int (iZ w)].toArray below meth c H locs 0 0 (MQ below (QW (σ := (Int × Int64 × (Nat → Int32) × (Nat → Int32))) (fun u => some (.int (iZ u.1))) (fun u => (-1 ≤ u.1 ∧ u.1 ≤ 400) ∧ rgI u.2.2.1 (-2) 420 14436 ∧ rgI u.2.2.2 (-2) 400 14436) (fun u => [(h, .inr (3, [.ref hs, .long u.2.1, .ref ha, .ref hl0])), (ha, .inl (k 1, 14436, .inl u.2.2.1)), (hl0, .inl (k 1, 14436, .inl u.2.2.2)), (hs, .inr (5, fs)), (hf, .inl (k 1, 36, .inl f)), (hg, .inl (k 1, 32, .inl g))]) D A) [.ref h, .int (iZ a), .int (iZ b), .int (iZ w)].toArray s 0 0 A) (F0 m 117 ls []) := by
                  intro fu
                  induction fu with
                  | zero => intro i op2 g1 g2 H locs ls hμ1 hi1 hi2 rg1 rg2 hP hD hS hl; exact absurd hμ1 (by omega)
                  | succ fu ih1 =>
                    intro i op2 g1 g2 H locs ls hμ1 hi1 hi2 rg1 rg2 hP hD hS hl
                    refine lv_iload hx hb dX3_seen_117 (lv_at hl 0 rfl) ?_
                    refine lv_iload hx hb dX3_seen_119 (lv_at hl 1 rfl) ?_
                    refine lv_icmp_lt (tgt := 159) hx hb dX3_seen_121 (by decide) (fun c_25 => ?_) (fun c_25 => ?_)
                    ·
                      have c_25 := (zlt (x := iZ i) (y := iZ (max ((gz fl_8 (((((b * 6) + a) * 401) + w) - 1)) + 1) (w - 20))) rfl rfl ⟨by omega, by omega⟩ ⟨by omega, by omega⟩).mp c_25
                      refine lv_aload_n hx hb dX3_seen_159 rfl (lv_at hl 5 rfl) ?_
                      refine va_get (D := D) (ci := 3) (v := .ref hl0) (C := RX3) (T := TX3) (N := 4) hx hb hts iX3 hown hK hP 3 rfl rfl 3 (by decide) (hts _ qf_X3_23) (fun _ h => h) rfl dX3_seen_160 ?_
                      refine lv_iload hx hb dX3_seen_163 (lv_at hl 4 rfl) ?_
                      refine lv_iload_n hx hb dX3_seen_165 rfl (lv_at hl 8 rfl) ?_
                      refine lv_iadd hx hb dX3_seen_166 ?_
                      refine lv_topi (fun x_26 ex_26 => ?_)
                      obtain rfl : x_26 = iZ ((((b * 6) + a) * 401) + w) := ex_26.trans (iZ_add (((b * 6) + a) * 401) w)
                      refine lv_iload hx hb dX3_seen_167 (lv_at hl 2 rfl) ?_
                      refine va_iast hx hb hK hP hD hS 5 1 rfl rfl (zin (e := ((((b * 6) + a) * 401) + w)) (n := 14436) ⟨by omega, by omega⟩ (by decide)) dX3_seen_169 (fun H locs hP hD hS => ?_)
                      obtain ⟨f_27, hf_27⟩ : ∃ gg9, gg9 = upd g2 (iZ ((((b * 6) + a) * 401) + w)).toNatClampNeg (iZ (gz fl_8 (((((b * 6) + a) * 401) + w) - 1))) := ⟨_, rfl⟩
                      rw [← hf_27] at hP hD
                      have rgf_27 := rg_upd rg2 hf_27 (by omega) ⟨by omega, by omega⟩ ⟨by omega, by omega⟩
                      have hP : va_P D vwCl [(hs, .inr (5, fs)), (hf, .inl (k 1, 36, .inl f)), (hg, .inl (k 1, 32, .inl g)), (h, .inr (3, [.ref hs, .long op2, .ref ha, .ref hl0])), (ha, .inl (k 1, 14436, .inl g1)), (hl0, .inl (k 1, 14436, .inl f_27))] H := hP
                      have hD : va_D A [(hs, .inr (5, fs)), (hf, .inl (k 1, 36, .inl f)), (hg, .inl (k 1, 32, .inl g)), (h, .inr (3, [.ref hs, .long op2, .ref ha, .ref hl0])), (ha, .inl (k 1, 14436, .inl g1)), (hl0, .inl (k 1, 14436, .inl f_27))] := hD
                      refine lv_iload hx hb dX3_seen_170 (lv_at hl 2 rfl) ?_
                      exact EWi hx hb hr hlocks hS ((gz fl_8 (((((b * 6) + a) * 401) + w) - 1)), op2, g1, f_27) rfl ⟨⟨by omega, by omega⟩, rg1, rgf_27⟩ (hP.sub [3, 4, 5, 0, 1, 2] rfl) (hD.sub [3, 4, 5, 0, 1, 2] rfl rfl) dX3_seen_172
                    ·
                      have c_25 := mt (zlt (x := iZ i) (y := iZ (max ((gz fl_8 (((((b * 6) + a) * 401) + w) - 1)) + 1) (w - 20))) rfl rfl ⟨by omega, by omega⟩ ⟨by omega, by omega⟩).mpr c_25
                      refine lv_aload_n hx hb dX3_seen_124 rfl (lv_at hl 5 rfl) ?_
                      refine lv_iload_n hx hb dX3_seen_125 rfl (lv_at hl 7 rfl) ?_
                      refine lv_iload hx hb dX3_seen_126 (lv_at hl 0 rfl) ?_
                      refine lv_iload_n hx hb dX3_seen_128 rfl (lv_at hl 6 rfl) ?_
                      refine CWV (As := [.int (iZ b), .int (iZ i), .int (iZ a)]) (rest := []) (wc := [(h, .inr (3, [.ref hs, .long op2, .ref ha, .ref hl0])), (ha, .inl (k 1, 14436, .inl g1)), (hl0, .inl (k 1, 14436, .inl g2)), (hs, .inr (5, fs)), (hf, .inl (k 1, 36, .inl f)), (hg, .inl (k 1, 32, .inl g))]) (wr := []) hx hb hml hown hts hKK hP hD hS hA (k_arrival l D k h hs ha hl0 op2 g1 g2 rg1 rg2 fs hf hg f1 f2 f g n hn hx0 ni f4 hni b i a ⟨by omega, by omega⟩ ⟨by omega, by omega⟩ ⟨by omega, by omega⟩) ci_X3_arrival qm_X3_48 ⟨Nat.le_of_ble_eq_true rfl, Nat.le_of_ble_eq_true rfl⟩ ⟨Nat.le_of_ble_eq_true rfl, Nat.le_of_ble_eq_true rfl⟩ [3, 4, 5, 0, 1, 2] [] rfl rfl rfl rfl rfl (by decide) 0 rfl rfl rfl hl.1 rfl (Nat.le_of_ble_eq_true rfl) dX3_seen_129 (fun u_28 H locs hφ hP hD hS => ?_)
                      obtain ⟨z_29, op_30, fa_31, fl_32⟩ := u_28
                      obtain ⟨h_33, rah_33, rlh_33⟩ := hφ
                      dsimp only at h_33 rah_33 rlh_33
                      have hP : va_P D vwCl [(h, .inr (3, [.ref hs, .long op_30, .ref ha, .ref hl0])), (ha, .inl (k 1, 14436, .inl fa_31)), (hl0, .inl (k 1, 14436, .inl fl_32)), (hs, .inr (5, fs)), (hf, .inl (k 1, 36, .inl f)), (hg, .inl (k 1, 32, .inl g))] H := hP
                      have hD : va_D A [(h, .inr (3, [.ref hs, .long op_30, .ref ha, .ref hl0])), (ha, .inl (k 1, 14436, .inl fa_31)), (hl0, .inl (k 1, 14436, .inl fl_32)), (hs, .inr (5, fs)), (hf, .inl (k 1, 36, .inl f)), (hg, .inl (k 1, 32, .inl g))] := hD
                      refine W.eq (g2 := F0 m 132 ls [.int (iZ z_29)]) rfl ?_
                      refine lv_istore (lv' := [(9, .int (iZ z_29)), (8, .int (iZ i)), (7, .int (iZ (max ((gz fl_8 (((((b * 6) + a) * 401) + w) - 1)) + 1) (w - 20)))), (6, .int (iZ (gz fl_8 (((((b * 6) + a) * 401) + w) - 1)))), (5, .int (iZ (gz fl_8 (((((b * 6) + a) * 401) + w) - 1)))), (4, .int (iZ (((b * 6) + a) * 401))), (0, .ref h), (1, .int (iZ a)), (2, .int (iZ b)), (3, .int (iZ w))]) hx hb dX3_seen_132 hl (by decide) rfl (fun ls hl => ?_)
                      refine lv_iload hx hb dX3_seen_134 (lv_at hl 0 rfl) ?_
                      refine lv_iconst (v := iZ (-1)) hx hb dX3_seen_136 (by decide) ?_
                      refine lv_icmp_eq (tgt := 153) hx hb dX3_seen_137 (by decide) (fun c_34 => ?_) (fun c_34 => ?_)
                      ·
                        have c_34 := (zeq (x := iZ z_29) (y := iZ (-1)) rfl rfl ⟨by omega, by omega⟩ ⟨by omega, by omega⟩).mp c_34
                        refine lv_iinc (v := iZ (i + (-1))) (lv' := [(8, .int (iZ (i + (-1)))), (9, .int (iZ z_29)), (7, .int (iZ (max ((gz fl_8 (((((b * 6) + a) * 401) + w) - 1)) + 1) (w - 20)))), (6, .int (iZ (gz fl_8 (((((b * 6) + a) * 401) + w) - 1)))), (5, .int (iZ (gz fl_8 (((((b * 6) + a) * 401) + w) - 1)))), (4, .int (iZ (((b * 6) + a) * 401))), (0, .ref h), (1, .int (iZ a)), (2, .int (iZ b)), (3, .int (iZ w))]) hx hb dX3_seen_153 hl (k := 1) rfl (iZ_add i (-1)) (by decide) rfl (fun ls hl => ?_)
                        refine lv_goto (tgt := 117) hx hb dX3_seen_156 (by decide) ?_
                        exact ih1 _ _ _ _ _ _ _ (by omega) (by omega) (by omega) rah_33 rlh_33 (hP.sub [3, 4, 5, 0, 1, 2] rfl) (hD.sub [3, 4, 5, 0, 1, 2] rfl rfl) hS (lv_sub hl [0, 2, 3, 4, 5, 6, 7, 8, 9] rfl)
                      ·
                        have c_34 := mt (zeq (x := iZ z_29) (y := iZ (-1)) rfl rfl ⟨by omega, by omega⟩ ⟨by omega, by omega⟩).mpr c_34
                        refine lv_iload hx hb dX3_seen_140 (lv_at hl 0 rfl) ?_
                        refine lv_iload_n hx hb dX3_seen_142 rfl (lv_at hl 9 rfl) ?_
                        refine lv_icmp_gt (tgt := 153) hx hb dX3_seen_143 (by decide) (fun c_35 => ?_) (fun c_35 => ?_)
                        ·
                          have c_35 := (zlt (x := iZ w) (y := iZ z_29) rfl rfl ⟨by omega, by omega⟩ ⟨by omega, by omega⟩).mp c_35
                          refine lv_iinc (v := iZ (i + (-1))) (lv' := [(8, .int (iZ (i + (-1)))), (9, .int (iZ z_29)), (7, .int (iZ (max ((gz fl_8 (((((b * 6) + a) * 401) + w) - 1)) + 1) (w - 20)))), (6, .int (iZ (gz fl_8 (((((b * 6) + a) * 401) + w) - 1)))), (5, .int (iZ (gz fl_8 (((((b * 6) + a) * 401) + w) - 1)))), (4, .int (iZ (((b * 6) + a) * 401))), (0, .ref h), (1, .int (iZ a)), (2, .int (iZ b)), (3, .int (iZ w))]) hx hb dX3_seen_153 hl (k := 1) rfl (iZ_add i (-1)) (by decide) rfl (fun ls hl => ?_)
                          refine lv_goto (tgt := 117) hx hb dX3_seen_156 (by decide) ?_
                          exact ih1 _ _ _ _ _ _ _ (by omega) (by omega) (by omega) rah_33 rlh_33 (hP.sub [3, 4, 5, 0, 1, 2] rfl) (hD.sub [3, 4, 5, 0, 1, 2] rfl rfl) hS (lv_sub hl [0, 2, 3, 4, 5, 6, 7, 8, 9] rfl)
                        ·
                          have c_35 := mt (zlt (x := iZ w) (y := iZ z_29) rfl rfl ⟨by omega, by omega⟩ ⟨by omega, by omega⟩).mpr c_35
                          refine lv_iload hx hb dX3_seen_146 (lv_at hl 1 rfl) ?_
                          refine lv_istore (lv' := [(6, .int (iZ i)), (9, .int (iZ z_29)), (8, .int (iZ i)), (7, .int (iZ (max ((gz fl_8 (((((b * 6) + a) * 401) + w) - 1)) + 1) (w - 20)))), (5, .int (iZ (gz fl_8 (((((b * 6) + a) * 401) + w) - 1)))), (4, .int (iZ (((b * 6) + a) * 401))), (0, .ref h), (1, .int (iZ a)), (2, .int (iZ b)), (3, .int (iZ w))]) hx hb dX3_seen_148 hl (by decide) rfl (fun ls hl => ?_)
                          refine lv_goto (tgt := 159) hx hb dX3_seen_150 (by decide) ?_
                          refine lv_aload_n hx hb dX3_seen_159 rfl (lv_at hl 6 rfl) ?_
                          refine va_get (D := D) (ci := 3) (v := .ref hl0) (C := RX3) (T := TX3) (N := 4) hx hb hts iX3 hown hK hP 0 rfl rfl 3 (by decide) (hts _ qf_X3_23) (fun _ h => h) rfl dX3_seen_160 ?_
                          refine lv_iload hx hb dX3_seen_163 (lv_at hl 5 rfl) ?_
                          refine lv_iload_n hx hb dX3_seen_165 rfl (lv_at hl 9 rfl) ?_
                          refine lv_iadd hx hb dX3_seen_166 ?_
                          refine lv_topi (fun x_36 ex_36 => ?_)
                          obtain rfl : x_36 = iZ ((((b * 6) + a) * 401) + w) := ex_36.trans (iZ_add (((b * 6) + a) * 401) w)
                          refine lv_iload hx hb dX3_seen_167 (lv_at hl 0 rfl) ?_
                          refine va_iast hx hb hK hP hD hS 2 1 rfl rfl (zin (e := ((((b * 6) + a) * 401) + w)) (n := 14436) ⟨by omega, by omega⟩ (by decide)) dX3_seen_169 (fun H locs hP hD hS => ?_)
                          obtain ⟨f_37, hf_37⟩ : ∃ gg9, gg9 = upd fl_32 (iZ ((((b * 6) + a) * 401) + w)).toNatClampNeg (iZ i) := ⟨_, rfl⟩
                          rw [← hf_37] at hP hD
                          have rgf_37 := rg_upd rlh_33 hf_37 (by omega) ⟨by omega, by omega⟩ ⟨by omega, by omega⟩
                          have hP : va_P D vwCl [(h, .inr (3, [.ref hs, .long op_30, .ref ha, .ref hl0])), (ha, .inl (k 1, 14436, .inl fa_31)), (hl0, .inl (k 1, 14436, .inl f_37)), (hs, .inr (5, fs)), (hf, .inl (k 1, 36, .inl f)), (hg, .inl (k 1, 32, .inl g))] H := hP
                          have hD : va_D A [(h, .inr (3, [.ref hs, .long op_30, .ref ha, .ref hl0])), (ha, .inl (k 1, 14436, .inl fa_31)), (hl0, .inl (k 1, 14436, .inl f_37)), (hs, .inr (5, fs)), (hf, .inl (k 1, 36, .inl f)), (hg, .inl (k 1, 32, .inl g))] := hD
                          refine lv_iload hx hb dX3_seen_170 (lv_at hl 0 rfl) ?_
                          exact EWi hx hb hr hlocks hS (i, op_30, fa_31, f_37) rfl ⟨⟨by omega, by omega⟩, rah_33, rgf_37⟩ (hP.sub [0, 1, 2, 3, 4, 5] rfl) (hD.sub [0, 1, 2, 3, 4, 5] rfl rfl) dX3_seen_172
                exact HL1 403 _ _ _ _ _ _ _ (by omega) (by omega) (by omega) rah_9 rlh_9 (hP.sub [0, 1, 2, 3, 4, 5] rfl) (hD.sub [0, 1, 2, 3, 4, 5] rfl rfl) hS (lv_sub hl [0, 1, 2, 3, 4, 5, 6, 7, 8] rfl)
              ·
                have c_20 := (zeq (x := iZ (gz fl_8 (((((b * 6) + a) * 401) + w) - 1))) (y := iZ (-2)) rfl rfl ⟨by omega, by omega⟩ ⟨by omega, by omega⟩).mp c_20
                exact absurd c_20 (by omega)
            ·
              have c_19 := (zeq (x := iZ (gz fl_8 (((((b * 6) + a) * 401) + w) - 1))) (y := iZ (-2)) rfl rfl ⟨by omega, by omega⟩ ⟨by omega, by omega⟩).mp c_19
              refine lv_iconst (v := iZ (-1)) hx hb dX3_seen_80 (by decide) ?_
              refine lv_goto (tgt := 86) hx hb dX3_seen_81 (by decide) ?_
              refine lv_istore (lv' := [(6, .int (iZ (-1))), (5, .int (iZ (gz fl_8 (((((b * 6) + a) * 401) + w) - 1)))), (4, .int (iZ (((b * 6) + a) * 401))), (0, .ref h), (1, .int (iZ a)), (2, .int (iZ b)), (3, .int (iZ w))]) hx hb dX3_seen_86 hl (by decide) rfl (fun ls hl => ?_)
              refine lv_iload hx hb dX3_seen_88 (lv_at hl 1 rfl) ?_
              refine lv_bipush (v := iZ (-2)) hx hb dX3_seen_90 (by decide) ?_
              refine lv_icmp_ne (tgt := 99) hx hb dX3_seen_92 (by decide) (fun c_38 => ?_) (fun c_38 => ?_)
              ·
                have c_38 := mt (zeq (x := iZ (gz fl_8 (((((b * 6) + a) * 401) + w) - 1))) (y := iZ (-2)) rfl rfl ⟨by omega, by omega⟩ ⟨by omega, by omega⟩).mpr c_38
                exact absurd c_38 (by omega)
              ·
                have c_38 := (zeq (x := iZ (gz fl_8 (((((b * 6) + a) * 401) + w) - 1))) (y := iZ (-2)) rfl rfl ⟨by omega, by omega⟩ ⟨by omega, by omega⟩).mp c_38
                refine lv_iconst (v := iZ 0) hx hb dX3_seen_95 (by decide) ?_
                refine lv_goto (tgt := 110) hx hb dX3_seen_96 (by decide) ?_
                refine lv_istore (lv' := [(7, .int (iZ 0)), (6, .int (iZ (-1))), (5, .int (iZ (gz fl_8 (((((b * 6) + a) * 401) + w) - 1)))), (4, .int (iZ (((b * 6) + a) * 401))), (0, .ref h), (1, .int (iZ a)), (2, .int (iZ b)), (3, .int (iZ w))]) hx hb dX3_seen_110 hl (by decide) rfl (fun ls hl => ?_)
                refine lv_iload_n hx hb dX3_seen_112 rfl (lv_at hl 7 rfl) ?_
                refine lv_iconst (v := iZ 1) hx hb dX3_seen_113 (by decide) ?_
                refine lv_isub hx hb dX3_seen_114 ?_
                refine lv_topi (fun x_39 ex_39 => ?_)
                obtain rfl : x_39 = iZ (w - 1) := ex_39.trans (iZ_sub w 1)
                refine lv_istore (lv' := [(8, .int (iZ (w - 1))), (7, .int (iZ 0)), (6, .int (iZ (-1))), (5, .int (iZ (gz fl_8 (((((b * 6) + a) * 401) + w) - 1)))), (4, .int (iZ (((b * 6) + a) * 401))), (0, .ref h), (1, .int (iZ a)), (2, .int (iZ b)), (3, .int (iZ w))]) hx hb dX3_seen_115 hl (by decide) rfl (fun ls hl => ?_)
                have HL1 : ∀ (fu : Nat) (i : Int) (op2 : Int64) (g1 g2 : Nat → Int32) (H : Heap) (locs : List Loc) (ls : Array Slot), (i + 2) < (fu : Int) → -1 ≤ i → i ≤ w - 1 → rgI g1 (-2) 420 14436 → rgI g2 (-2) 400 14436 → va_P D vwCl [(hs, .inr (5, fs)), (hf, .inl (k 1, 36, .inl f)), (hg, .inl (k 1, 32, .inl g)), (h, .inr (3, [.ref hs, .long op2, .ref ha, .ref hl0])), (ha, .inl (k 1, 14436, .inl g1)), (hl0, .inl (k 1, 14436, .inl g2))] H → va_D A [(hs, .inr (5, fs)), (hf, .inl (k 1, 36, .inl f)), (hg, .inl (k 1, 32, .inl g)), (h, .inr (3, [.ref hs, .long op2, .ref ha, .ref hl0])), (ha, .inl (k 1, 14436, .inl g1)), (hl0, .inl (k 1, 14436, .inl g2))] → va_S A s.heap H locs → lv_has ls 10 [(8, .int (iZ i)), (7, .int (iZ 0)), (6, .int (iZ (-1))), (5, .int (iZ (gz fl_8 (((((b * 6) + a) * 401) + w) - 1)))), (4, .int (iZ (((b * 6) + a) * 401))), (0, .ref h), (1, .int (iZ a)), (2, .int (iZ b)), (3, .int (iZ w))] → W p l e (rj 2 0 0) s m [.ref h, .int (iZ a), .int (iZ b), .int (iZ w)].toArray below meth c H locs 0 0 (MQ below (QW (σ := (Int × Int64 × (Nat → Int32) × (Nat → Int32))) (fun u => some (.int (iZ u.1))) (fun u => (-1 ≤ u.1 ∧ u.1 ≤ 400) ∧ rgI u.2.2.1 (-2) 420 14436 ∧ rgI u.2.2.2 (-2) 400 14436) (fun u => [(h, .inr (3, [.ref hs, .long u.2.1, .ref ha, .ref hl0])), (ha, .inl (k 1, 14436, .inl u.2.2.1)), (hl0, .inl (k 1, 14436, .inl u.2.2.2)), (hs, .inr (5, fs)), (hf, .inl (k 1, 36, .inl f)), (hg, .inl (k 1, 32, .inl g))]) D A) [.ref h, .int (iZ a), .int (iZ b), .int (iZ w)].toArray s 0 0 A) (F0 m 117 ls []) := by
                  intro fu
                  induction fu with
                  | zero => intro i op2 g1 g2 H locs ls hμ1 hi1 hi2 rg1 rg2 hP hD hS hl; exact absurd hμ1 (by omega)
                  | succ fu ih1 =>
                    intro i op2 g1 g2 H locs ls hμ1 hi1 hi2 rg1 rg2 hP hD hS hl
                    refine lv_iload hx hb dX3_seen_117 (lv_at hl 0 rfl) ?_
                    refine lv_iload hx hb dX3_seen_119 (lv_at hl 1 rfl) ?_
                    refine lv_icmp_lt (tgt := 159) hx hb dX3_seen_121 (by decide) (fun c_40 => ?_) (fun c_40 => ?_)
                    ·
                      have c_40 := (zlt (x := iZ i) (y := iZ 0) rfl rfl ⟨by omega, by omega⟩ ⟨by omega, by omega⟩).mp c_40
                      refine lv_aload_n hx hb dX3_seen_159 rfl (lv_at hl 5 rfl) ?_
                      refine va_get (D := D) (ci := 3) (v := .ref hl0) (C := RX3) (T := TX3) (N := 4) hx hb hts iX3 hown hK hP 3 rfl rfl 3 (by decide) (hts _ qf_X3_23) (fun _ h => h) rfl dX3_seen_160 ?_
                      refine lv_iload hx hb dX3_seen_163 (lv_at hl 4 rfl) ?_
                      refine lv_iload_n hx hb dX3_seen_165 rfl (lv_at hl 8 rfl) ?_
                      refine lv_iadd hx hb dX3_seen_166 ?_
                      refine lv_topi (fun x_41 ex_41 => ?_)
                      obtain rfl : x_41 = iZ ((((b * 6) + a) * 401) + w) := ex_41.trans (iZ_add (((b * 6) + a) * 401) w)
                      refine lv_iload hx hb dX3_seen_167 (lv_at hl 2 rfl) ?_
                      refine va_iast hx hb hK hP hD hS 5 1 rfl rfl (zin (e := ((((b * 6) + a) * 401) + w)) (n := 14436) ⟨by omega, by omega⟩ (by decide)) dX3_seen_169 (fun H locs hP hD hS => ?_)
                      obtain ⟨f_42, hf_42⟩ : ∃ gg9, gg9 = upd g2 (iZ ((((b * 6) + a) * 401) + w)).toNatClampNeg (iZ (-1)) := ⟨_, rfl⟩
                      rw [← hf_42] at hP hD
                      have rgf_42 := rg_upd rg2 hf_42 (by omega) ⟨by omega, by omega⟩ ⟨by omega, by omega⟩
                      have hP : va_P D vwCl [(hs, .inr (5, fs)), (hf, .inl (k 1, 36, .inl f)), (hg, .inl (k 1, 32, .inl g)), (h, .inr (3, [.ref hs, .long op2, .ref ha, .ref hl0])), (ha, .inl (k 1, 14436, .inl g1)), (hl0, .inl (k 1, 14436, .inl f_42))] H := hP
                      have hD : va_D A [(hs, .inr (5, fs)), (hf, .inl (k 1, 36, .inl f)), (hg, .inl (k 1, 32, .inl g)), (h, .inr (3, [.ref hs, .long op2, .ref ha, .ref hl0])), (ha, .inl (k 1, 14436, .inl g1)), (hl0, .inl (k 1, 14436, .inl f_42))] := hD
                      refine lv_iload hx hb dX3_seen_170 (lv_at hl 2 rfl) ?_
                      exact EWi hx hb hr hlocks hS ((-1), op2, g1, f_42) rfl ⟨⟨by omega, by omega⟩, rg1, rgf_42⟩ (hP.sub [3, 4, 5, 0, 1, 2] rfl) (hD.sub [3, 4, 5, 0, 1, 2] rfl rfl) dX3_seen_172
                    ·
                      have c_40 := mt (zlt (x := iZ i) (y := iZ 0) rfl rfl ⟨by omega, by omega⟩ ⟨by omega, by omega⟩).mpr c_40
                      refine lv_aload_n hx hb dX3_seen_124 rfl (lv_at hl 5 rfl) ?_
                      refine lv_iload_n hx hb dX3_seen_125 rfl (lv_at hl 7 rfl) ?_
                      refine lv_iload hx hb dX3_seen_126 (lv_at hl 0 rfl) ?_
                      refine lv_iload_n hx hb dX3_seen_128 rfl (lv_at hl 6 rfl) ?_
                      refine CWV (As := [.int (iZ b), .int (iZ i), .int (iZ a)]) (rest := []) (wc := [(h, .inr (3, [.ref hs, .long op2, .ref ha, .ref hl0])), (ha, .inl (k 1, 14436, .inl g1)), (hl0, .inl (k 1, 14436, .inl g2)), (hs, .inr (5, fs)), (hf, .inl (k 1, 36, .inl f)), (hg, .inl (k 1, 32, .inl g))]) (wr := []) hx hb hml hown hts hKK hP hD hS hA (k_arrival l D k h hs ha hl0 op2 g1 g2 rg1 rg2 fs hf hg f1 f2 f g n hn hx0 ni f4 hni b i a ⟨by omega, by omega⟩ ⟨by omega, by omega⟩ ⟨by omega, by omega⟩) ci_X3_arrival qm_X3_48 ⟨Nat.le_of_ble_eq_true rfl, Nat.le_of_ble_eq_true rfl⟩ ⟨Nat.le_of_ble_eq_true rfl, Nat.le_of_ble_eq_true rfl⟩ [3, 4, 5, 0, 1, 2] [] rfl rfl rfl rfl rfl (by decide) 0 rfl rfl rfl hl.1 rfl (Nat.le_of_ble_eq_true rfl) dX3_seen_129 (fun u_43 H locs hφ hP hD hS => ?_)
                      obtain ⟨z_44, op_45, fa_46, fl_47⟩ := u_43
                      obtain ⟨h_48, rah_48, rlh_48⟩ := hφ
                      dsimp only at h_48 rah_48 rlh_48
                      have hP : va_P D vwCl [(h, .inr (3, [.ref hs, .long op_45, .ref ha, .ref hl0])), (ha, .inl (k 1, 14436, .inl fa_46)), (hl0, .inl (k 1, 14436, .inl fl_47)), (hs, .inr (5, fs)), (hf, .inl (k 1, 36, .inl f)), (hg, .inl (k 1, 32, .inl g))] H := hP
                      have hD : va_D A [(h, .inr (3, [.ref hs, .long op_45, .ref ha, .ref hl0])), (ha, .inl (k 1, 14436, .inl fa_46)), (hl0, .inl (k 1, 14436, .inl fl_47)), (hs, .inr (5, fs)), (hf, .inl (k 1, 36, .inl f)), (hg, .inl (k 1, 32, .inl g))] := hD
                      refine W.eq (g2 := F0 m 132 ls [.int (iZ z_44)]) rfl ?_
                      refine lv_istore (lv' := [(9, .int (iZ z_44)), (8, .int (iZ i)), (7, .int (iZ 0)), (6, .int (iZ (-1))), (5, .int (iZ (gz fl_8 (((((b * 6) + a) * 401) + w) - 1)))), (4, .int (iZ (((b * 6) + a) * 401))), (0, .ref h), (1, .int (iZ a)), (2, .int (iZ b)), (3, .int (iZ w))]) hx hb dX3_seen_132 hl (by decide) rfl (fun ls hl => ?_)
                      refine lv_iload hx hb dX3_seen_134 (lv_at hl 0 rfl) ?_
                      refine lv_iconst (v := iZ (-1)) hx hb dX3_seen_136 (by decide) ?_
                      refine lv_icmp_eq (tgt := 153) hx hb dX3_seen_137 (by decide) (fun c_49 => ?_) (fun c_49 => ?_)
                      ·
                        have c_49 := (zeq (x := iZ z_44) (y := iZ (-1)) rfl rfl ⟨by omega, by omega⟩ ⟨by omega, by omega⟩).mp c_49
                        refine lv_iinc (v := iZ (i + (-1))) (lv' := [(8, .int (iZ (i + (-1)))), (9, .int (iZ z_44)), (7, .int (iZ 0)), (6, .int (iZ (-1))), (5, .int (iZ (gz fl_8 (((((b * 6) + a) * 401) + w) - 1)))), (4, .int (iZ (((b * 6) + a) * 401))), (0, .ref h), (1, .int (iZ a)), (2, .int (iZ b)), (3, .int (iZ w))]) hx hb dX3_seen_153 hl (k := 1) rfl (iZ_add i (-1)) (by decide) rfl (fun ls hl => ?_)
                        refine lv_goto (tgt := 117) hx hb dX3_seen_156 (by decide) ?_
                        exact ih1 _ _ _ _ _ _ _ (by omega) (by omega) (by omega) rah_48 rlh_48 (hP.sub [3, 4, 5, 0, 1, 2] rfl) (hD.sub [3, 4, 5, 0, 1, 2] rfl rfl) hS (lv_sub hl [0, 2, 3, 4, 5, 6, 7, 8, 9] rfl)
                      ·
                        have c_49 := mt (zeq (x := iZ z_44) (y := iZ (-1)) rfl rfl ⟨by omega, by omega⟩ ⟨by omega, by omega⟩).mpr c_49
                        refine lv_iload hx hb dX3_seen_140 (lv_at hl 0 rfl) ?_
                        refine lv_iload_n hx hb dX3_seen_142 rfl (lv_at hl 9 rfl) ?_
                        refine lv_icmp_gt (tgt := 153) hx hb dX3_seen_143 (by decide) (fun c_50 => ?_) (fun c_50 => ?_)
                        ·
                          have c_50 := (zlt (x := iZ w) (y := iZ z_44) rfl rfl ⟨by omega, by omega⟩ ⟨by omega, by omega⟩).mp c_50
                          refine lv_iinc (v := iZ (i + (-1))) (lv' := [(8, .int (iZ (i + (-1)))), (9, .int (iZ z_44)), (7, .int (iZ 0)), (6, .int (iZ (-1))), (5, .int (iZ (gz fl_8 (((((b * 6) + a) * 401) + w) - 1)))), (4, .int (iZ (((b * 6) + a) * 401))), (0, .ref h), (1, .int (iZ a)), (2, .int (iZ b)), (3, .int (iZ w))]) hx hb dX3_seen_153 hl (k := 1) rfl (iZ_add i (-1)) (by decide) rfl (fun ls hl => ?_)
                          refine lv_goto (tgt := 117) hx hb dX3_seen_156 (by decide) ?_
                          exact ih1 _ _ _ _ _ _ _ (by omega) (by omega) (by omega) rah_48 rlh_48 (hP.sub [3, 4, 5, 0, 1, 2] rfl) (hD.sub [3, 4, 5, 0, 1, 2] rfl rfl) hS (lv_sub hl [0, 2, 3, 4, 5, 6, 7, 8, 9] rfl)
                        ·
                          have c_50 := mt (zlt (x := iZ w) (y := iZ z_44) rfl rfl ⟨by omega, by omega⟩ ⟨by omega, by omega⟩).mpr c_50
                          refine lv_iload hx hb dX3_seen_146 (lv_at hl 1 rfl) ?_
                          refine lv_istore (lv' := [(6, .int (iZ i)), (9, .int (iZ z_44)), (8, .int (iZ i)), (7, .int (iZ 0)), (5, .int (iZ (gz fl_8 (((((b * 6) + a) * 401) + w) - 1)))), (4, .int (iZ (((b * 6) + a) * 401))), (0, .ref h), (1, .int (iZ a)), (2, .int (iZ b)), (3, .int (iZ w))]) hx hb dX3_seen_148 hl (by decide) rfl (fun ls hl => ?_)
                          refine lv_goto (tgt := 159) hx hb dX3_seen_150 (by decide) ?_
                          refine lv_aload_n hx hb dX3_seen_159 rfl (lv_at hl 6 rfl) ?_
                          refine va_get (D := D) (ci := 3) (v := .ref hl0) (C := RX3) (T := TX3) (N := 4) hx hb hts iX3 hown hK hP 0 rfl rfl 3 (by decide) (hts _ qf_X3_23) (fun _ h => h) rfl dX3_seen_160 ?_
                          refine lv_iload hx hb dX3_seen_163 (lv_at hl 5 rfl) ?_
                          refine lv_iload_n hx hb dX3_seen_165 rfl (lv_at hl 9 rfl) ?_
                          refine lv_iadd hx hb dX3_seen_166 ?_
                          refine lv_topi (fun x_51 ex_51 => ?_)
                          obtain rfl : x_51 = iZ ((((b * 6) + a) * 401) + w) := ex_51.trans (iZ_add (((b * 6) + a) * 401) w)
                          refine lv_iload hx hb dX3_seen_167 (lv_at hl 0 rfl) ?_
                          refine va_iast hx hb hK hP hD hS 2 1 rfl rfl (zin (e := ((((b * 6) + a) * 401) + w)) (n := 14436) ⟨by omega, by omega⟩ (by decide)) dX3_seen_169 (fun H locs hP hD hS => ?_)
                          obtain ⟨f_52, hf_52⟩ : ∃ gg9, gg9 = upd fl_47 (iZ ((((b * 6) + a) * 401) + w)).toNatClampNeg (iZ i) := ⟨_, rfl⟩
                          rw [← hf_52] at hP hD
                          have rgf_52 := rg_upd rlh_48 hf_52 (by omega) ⟨by omega, by omega⟩ ⟨by omega, by omega⟩
                          have hP : va_P D vwCl [(h, .inr (3, [.ref hs, .long op_45, .ref ha, .ref hl0])), (ha, .inl (k 1, 14436, .inl fa_46)), (hl0, .inl (k 1, 14436, .inl f_52)), (hs, .inr (5, fs)), (hf, .inl (k 1, 36, .inl f)), (hg, .inl (k 1, 32, .inl g))] H := hP
                          have hD : va_D A [(h, .inr (3, [.ref hs, .long op_45, .ref ha, .ref hl0])), (ha, .inl (k 1, 14436, .inl fa_46)), (hl0, .inl (k 1, 14436, .inl f_52)), (hs, .inr (5, fs)), (hf, .inl (k 1, 36, .inl f)), (hg, .inl (k 1, 32, .inl g))] := hD
                          refine lv_iload hx hb dX3_seen_170 (lv_at hl 0 rfl) ?_
                          exact EWi hx hb hr hlocks hS (i, op_45, fa_46, f_52) rfl ⟨⟨by omega, by omega⟩, rah_48, rgf_52⟩ (hP.sub [0, 1, 2, 3, 4, 5] rfl) (hD.sub [0, 1, 2, 3, 4, 5] rfl rfl) dX3_seen_172
                exact HL1 403 _ _ _ _ _ _ _ (by omega) (by omega) (by omega) rah_9 rlh_9 (hP.sub [0, 1, 2, 3, 4, 5] rfl) (hD.sub [0, 1, 2, 3, 4, 5] rfl rfl) hS (lv_sub hl [0, 1, 2, 3, 4, 5, 6, 7, 8] rfl)
          ·
            have c_14 := (zeq (x := iZ w) (y := iZ 0) rfl rfl ⟨by omega, by omega⟩ ⟨by omega, by omega⟩).mp c_14
            refine lv_iconst (v := iZ (-1)) hx hb dX3_seen_56 (by decide) ?_
            refine lv_goto (tgt := 71) hx hb dX3_seen_57 (by decide) ?_
            refine lv_istore (lv' := [(5, .int (iZ (-1))), (4, .int (iZ (((b * 6) + a) * 401))), (0, .ref h), (1, .int (iZ a)), (2, .int (iZ b)), (3, .int (iZ w))]) hx hb dX3_seen_71 hl (by decide) rfl (fun ls hl => ?_)
            refine lv_iload hx hb dX3_seen_73 (lv_at hl 0 rfl) ?_
            refine lv_bipush (v := iZ (-2)) hx hb dX3_seen_75 (by decide) ?_
            refine lv_icmp_ne (tgt := 84) hx hb dX3_seen_77 (by decide) (fun _ => ?_) (fun c => absurd c (by decide))
            refine lv_iload hx hb dX3_seen_84 (lv_at hl 0 rfl) ?_
            refine lv_istore (lv' := [(6, .int (iZ (-1))), (5, .int (iZ (-1))), (4, .int (iZ (((b * 6) + a) * 401))), (0, .ref h), (1, .int (iZ a)), (2, .int (iZ b)), (3, .int (iZ w))]) hx hb dX3_seen_86 hl (by decide) rfl (fun ls hl => ?_)
            refine lv_iload hx hb dX3_seen_88 (lv_at hl 1 rfl) ?_
            refine lv_bipush (v := iZ (-2)) hx hb dX3_seen_90 (by decide) ?_
            refine lv_icmp_ne (tgt := 99) hx hb dX3_seen_92 (by decide) (fun _ => ?_) (fun c => absurd c (by decide))
            refine lv_iload hx hb dX3_seen_99 (lv_at hl 1 rfl) ?_
            refine lv_iconst (v := iZ 1) hx hb dX3_seen_101 (by decide) ?_
            refine lv_iadd hx hb dX3_seen_102 ?_
            refine lv_topi (fun x_55 ex_55 => ?_)
            obtain rfl : x_55 = iZ 0 := ex_55.trans (by decide +kernel)
            refine lv_iload_n hx hb dX3_seen_103 rfl (lv_at hl 6 rfl) ?_
            refine lv_bipush (v := iZ 20) hx hb dX3_seen_104 (by decide) ?_
            refine lv_isub hx hb dX3_seen_106 ?_
            refine lv_topi (fun x_56 ex_56 => ?_)
            obtain rfl : x_56 = iZ (w - 20) := ex_56.trans (iZ_sub w 20)
            refine va_mmax (rest := []) hx hb (by rw [hml]; exact hl.1.symm) (own := RX3) hown (hts _ qm_X3_43) (hts _ qt_yJ9_max_7cf53) (hts _ qz_J9) (hts _ qc_J9_max_7cf53) (Nat.le_of_ble_eq_true rfl) (Nat.le_of_ble_eq_true rfl) (Nat.le_of_ble_eq_true rfl) (Nat.le_of_ble_eq_true rfl) dX3_seen_107 ?_
            refine lv_topi (fun x_57 ex_57 => ?_)
            obtain rfl : x_57 = iZ (max 0 (w - 20)) := ex_57.trans (zmax ⟨by omega, by omega⟩ ⟨by omega, by omega⟩)
            refine lv_istore (lv' := [(7, .int (iZ (max 0 (w - 20)))), (6, .int (iZ (-1))), (5, .int (iZ (-1))), (4, .int (iZ (((b * 6) + a) * 401))), (0, .ref h), (1, .int (iZ a)), (2, .int (iZ b)), (3, .int (iZ w))]) hx hb dX3_seen_110 hl (by decide) rfl (fun ls hl => ?_)
            refine lv_iload_n hx hb dX3_seen_112 rfl (lv_at hl 7 rfl) ?_
            refine lv_iconst (v := iZ 1) hx hb dX3_seen_113 (by decide) ?_
            refine lv_isub hx hb dX3_seen_114 ?_
            refine lv_topi (fun x_58 ex_58 => ?_)
            obtain rfl : x_58 = iZ (w - 1) := ex_58.trans (iZ_sub w 1)
            refine lv_istore (lv' := [(8, .int (iZ (w - 1))), (7, .int (iZ (max 0 (w - 20)))), (6, .int (iZ (-1))), (5, .int (iZ (-1))), (4, .int (iZ (((b * 6) + a) * 401))), (0, .ref h), (1, .int (iZ a)), (2, .int (iZ b)), (3, .int (iZ w))]) hx hb dX3_seen_115 hl (by decide) rfl (fun ls hl => ?_)
            have HL1 : ∀ (fu : Nat) (i : Int) (op2 : Int64) (g1 g2 : Nat → Int32) (H : Heap) (locs : List Loc) (ls : Array Slot), (i + 2) < (fu : Int) → -1 ≤ i → i ≤ w - 1 → rgI g1 (-2) 420 14436 → rgI g2 (-2) 400 14436 → va_P D vwCl [(hs, .inr (5, fs)), (hf, .inl (k 1, 36, .inl f)), (hg, .inl (k 1, 32, .inl g)), (h, .inr (3, [.ref hs, .long op2, .ref ha, .ref hl0])), (ha, .inl (k 1, 14436, .inl g1)), (hl0, .inl (k 1, 14436, .inl g2))] H → va_D A [(hs, .inr (5, fs)), (hf, .inl (k 1, 36, .inl f)), (hg, .inl (k 1, 32, .inl g)), (h, .inr (3, [.ref hs, .long op2, .ref ha, .ref hl0])), (ha, .inl (k 1, 14436, .inl g1)), (hl0, .inl (k 1, 14436, .inl g2))] → va_S A s.heap H locs → lv_has ls 10 [(8, .int (iZ i)), (7, .int (iZ (max 0 (w - 20)))), (6, .int (iZ (-1))), (5, .int (iZ (-1))), (4, .int (iZ (((b * 6) + a) * 401))), (0, .ref h), (1, .int (iZ a)), (2, .int (iZ b)), (3, .int (iZ w))] → W p l e (rj 2 0 0) s m [.ref h, .int (iZ a), .int (iZ b), .int (iZ w)].toArray below meth c H locs 0 0 (MQ below (QW (σ := (Int × Int64 × (Nat → Int32) × (Nat → Int32))) (fun u => some (.int (iZ u.1))) (fun u => (-1 ≤ u.1 ∧ u.1 ≤ 400) ∧ rgI u.2.2.1 (-2) 420 14436 ∧ rgI u.2.2.2 (-2) 400 14436) (fun u => [(h, .inr (3, [.ref hs, .long u.2.1, .ref ha, .ref hl0])), (ha, .inl (k 1, 14436, .inl u.2.2.1)), (hl0, .inl (k 1, 14436, .inl u.2.2.2)), (hs, .inr (5, fs)), (hf, .inl (k 1, 36, .inl f)), (hg, .inl (k 1, 32, .inl g))]) D A) [.ref h, .int (iZ a), .int (iZ b), .int (iZ w)].toArray s 0 0 A) (F0 m 117 ls []) := by
              intro fu
              induction fu with
              | zero => intro i op2 g1 g2 H locs ls hμ1 hi1 hi2 rg1 rg2 hP hD hS hl; exact absurd hμ1 (by omega)
              | succ fu ih1 =>
                intro i op2 g1 g2 H locs ls hμ1 hi1 hi2 rg1 rg2 hP hD hS hl
                refine lv_iload hx hb dX3_seen_117 (lv_at hl 0 rfl) ?_
                refine lv_iload hx hb dX3_seen_119 (lv_at hl 1 rfl) ?_
                refine lv_icmp_lt (tgt := 159) hx hb dX3_seen_121 (by decide) (fun c_59 => ?_) (fun c_59 => ?_)
                ·
                  have c_59 := (zlt (x := iZ i) (y := iZ (max 0 (w - 20))) rfl rfl ⟨by omega, by omega⟩ ⟨by omega, by omega⟩).mp c_59
                  refine lv_aload_n hx hb dX3_seen_159 rfl (lv_at hl 5 rfl) ?_
                  refine va_get (D := D) (ci := 3) (v := .ref hl0) (C := RX3) (T := TX3) (N := 4) hx hb hts iX3 hown hK hP 3 rfl rfl 3 (by decide) (hts _ qf_X3_23) (fun _ h => h) rfl dX3_seen_160 ?_
                  refine lv_iload hx hb dX3_seen_163 (lv_at hl 4 rfl) ?_
                  refine lv_iload_n hx hb dX3_seen_165 rfl (lv_at hl 8 rfl) ?_
                  refine lv_iadd hx hb dX3_seen_166 ?_
                  refine lv_topi (fun x_60 ex_60 => ?_)
                  obtain rfl : x_60 = iZ ((((b * 6) + a) * 401) + w) := ex_60.trans (iZ_add (((b * 6) + a) * 401) w)
                  refine lv_iload hx hb dX3_seen_167 (lv_at hl 2 rfl) ?_
                  refine va_iast hx hb hK hP hD hS 5 1 rfl rfl (zin (e := ((((b * 6) + a) * 401) + w)) (n := 14436) ⟨by omega, by omega⟩ (by decide)) dX3_seen_169 (fun H locs hP hD hS => ?_)
                  obtain ⟨f_61, hf_61⟩ : ∃ gg9, gg9 = upd g2 (iZ ((((b * 6) + a) * 401) + w)).toNatClampNeg (iZ (-1)) := ⟨_, rfl⟩
                  rw [← hf_61] at hP hD
                  have rgf_61 := rg_upd rg2 hf_61 (by omega) ⟨by omega, by omega⟩ ⟨by omega, by omega⟩
                  have hP : va_P D vwCl [(hs, .inr (5, fs)), (hf, .inl (k 1, 36, .inl f)), (hg, .inl (k 1, 32, .inl g)), (h, .inr (3, [.ref hs, .long op2, .ref ha, .ref hl0])), (ha, .inl (k 1, 14436, .inl g1)), (hl0, .inl (k 1, 14436, .inl f_61))] H := hP
                  have hD : va_D A [(hs, .inr (5, fs)), (hf, .inl (k 1, 36, .inl f)), (hg, .inl (k 1, 32, .inl g)), (h, .inr (3, [.ref hs, .long op2, .ref ha, .ref hl0])), (ha, .inl (k 1, 14436, .inl g1)), (hl0, .inl (k 1, 14436, .inl f_61))] := hD
                  refine lv_iload hx hb dX3_seen_170 (lv_at hl 2 rfl) ?_
                  exact EWi hx hb hr hlocks hS ((-1), op2, g1, f_61) rfl ⟨⟨by omega, by omega⟩, rg1, rgf_61⟩ (hP.sub [3, 4, 5, 0, 1, 2] rfl) (hD.sub [3, 4, 5, 0, 1, 2] rfl rfl) dX3_seen_172
                ·
                  have c_59 := mt (zlt (x := iZ i) (y := iZ (max 0 (w - 20))) rfl rfl ⟨by omega, by omega⟩ ⟨by omega, by omega⟩).mpr c_59
                  refine lv_aload_n hx hb dX3_seen_124 rfl (lv_at hl 5 rfl) ?_
                  refine lv_iload_n hx hb dX3_seen_125 rfl (lv_at hl 7 rfl) ?_
                  refine lv_iload hx hb dX3_seen_126 (lv_at hl 0 rfl) ?_
                  refine lv_iload_n hx hb dX3_seen_128 rfl (lv_at hl 6 rfl) ?_
                  refine CWV (As := [.int (iZ b), .int (iZ i), .int (iZ a)]) (rest := []) (wc := [(h, .inr (3, [.ref hs, .long op2, .ref ha, .ref hl0])), (ha, .inl (k 1, 14436, .inl g1)), (hl0, .inl (k 1, 14436, .inl g2)), (hs, .inr (5, fs)), (hf, .inl (k 1, 36, .inl f)), (hg, .inl (k 1, 32, .inl g))]) (wr := []) hx hb hml hown hts hKK hP hD hS hA (k_arrival l D k h hs ha hl0 op2 g1 g2 rg1 rg2 fs hf hg f1 f2 f g n hn hx0 ni f4 hni b i a ⟨by omega, by omega⟩ ⟨by omega, by omega⟩ ⟨by omega, by omega⟩) ci_X3_arrival qm_X3_48 ⟨Nat.le_of_ble_eq_true rfl, Nat.le_of_ble_eq_true rfl⟩ ⟨Nat.le_of_ble_eq_true rfl, Nat.le_of_ble_eq_true rfl⟩ [3, 4, 5, 0, 1, 2] [] rfl rfl rfl rfl rfl (by decide) 0 rfl rfl rfl hl.1 rfl (Nat.le_of_ble_eq_true rfl) dX3_seen_129 (fun u_62 H locs hφ hP hD hS => ?_)
                  obtain ⟨z_63, op_64, fa_65, fl_66⟩ := u_62
                  obtain ⟨h_67, rah_67, rlh_67⟩ := hφ
                  dsimp only at h_67 rah_67 rlh_67
                  have hP : va_P D vwCl [(h, .inr (3, [.ref hs, .long op_64, .ref ha, .ref hl0])), (ha, .inl (k 1, 14436, .inl fa_65)), (hl0, .inl (k 1, 14436, .inl fl_66)), (hs, .inr (5, fs)), (hf, .inl (k 1, 36, .inl f)), (hg, .inl (k 1, 32, .inl g))] H := hP
                  have hD : va_D A [(h, .inr (3, [.ref hs, .long op_64, .ref ha, .ref hl0])), (ha, .inl (k 1, 14436, .inl fa_65)), (hl0, .inl (k 1, 14436, .inl fl_66)), (hs, .inr (5, fs)), (hf, .inl (k 1, 36, .inl f)), (hg, .inl (k 1, 32, .inl g))] := hD
                  refine W.eq (g2 := F0 m 132 ls [.int (iZ z_63)]) rfl ?_
                  refine lv_istore (lv' := [(9, .int (iZ z_63)), (8, .int (iZ i)), (7, .int (iZ (max 0 (w - 20)))), (6, .int (iZ (-1))), (5, .int (iZ (-1))), (4, .int (iZ (((b * 6) + a) * 401))), (0, .ref h), (1, .int (iZ a)), (2, .int (iZ b)), (3, .int (iZ w))]) hx hb dX3_seen_132 hl (by decide) rfl (fun ls hl => ?_)
                  refine lv_iload hx hb dX3_seen_134 (lv_at hl 0 rfl) ?_
                  refine lv_iconst (v := iZ (-1)) hx hb dX3_seen_136 (by decide) ?_
                  refine lv_icmp_eq (tgt := 153) hx hb dX3_seen_137 (by decide) (fun c_68 => ?_) (fun c_68 => ?_)
                  ·
                    have c_68 := (zeq (x := iZ z_63) (y := iZ (-1)) rfl rfl ⟨by omega, by omega⟩ ⟨by omega, by omega⟩).mp c_68
                    refine lv_iinc (v := iZ (i + (-1))) (lv' := [(8, .int (iZ (i + (-1)))), (9, .int (iZ z_63)), (7, .int (iZ (max 0 (w - 20)))), (6, .int (iZ (-1))), (5, .int (iZ (-1))), (4, .int (iZ (((b * 6) + a) * 401))), (0, .ref h), (1, .int (iZ a)), (2, .int (iZ b)), (3, .int (iZ w))]) hx hb dX3_seen_153 hl (k := 1) rfl (iZ_add i (-1)) (by decide) rfl (fun ls hl => ?_)
                    refine lv_goto (tgt := 117) hx hb dX3_seen_156 (by decide) ?_
                    exact ih1 _ _ _ _ _ _ _ (by omega) (by omega) (by omega) rah_67 rlh_67 (hP.sub [3, 4, 5, 0, 1, 2] rfl) (hD.sub [3, 4, 5, 0, 1, 2] rfl rfl) hS (lv_sub hl [0, 2, 3, 4, 5, 6, 7, 8, 9] rfl)
                  ·
                    have c_68 := mt (zeq (x := iZ z_63) (y := iZ (-1)) rfl rfl ⟨by omega, by omega⟩ ⟨by omega, by omega⟩).mpr c_68
                    refine lv_iload hx hb dX3_seen_140 (lv_at hl 0 rfl) ?_
                    refine lv_iload_n hx hb dX3_seen_142 rfl (lv_at hl 9 rfl) ?_
                    refine lv_icmp_gt (tgt := 153) hx hb dX3_seen_143 (by decide) (fun c_69 => ?_) (fun c_69 => ?_)
                    ·
                      have c_69 := (zlt (x := iZ w) (y := iZ z_63) rfl rfl ⟨by omega, by omega⟩ ⟨by omega, by omega⟩).mp c_69
                      refine lv_iinc (v := iZ (i + (-1))) (lv' := [(8, .int (iZ (i + (-1)))), (9, .int (iZ z_63)), (7, .int (iZ (max 0 (w - 20)))), (6, .int (iZ (-1))), (5, .int (iZ (-1))), (4, .int (iZ (((b * 6) + a) * 401))), (0, .ref h), (1, .int (iZ a)), (2, .int (iZ b)), (3, .int (iZ w))]) hx hb dX3_seen_153 hl (k := 1) rfl (iZ_add i (-1)) (by decide) rfl (fun ls hl => ?_)
                      refine lv_goto (tgt := 117) hx hb dX3_seen_156 (by decide) ?_
                      exact ih1 _ _ _ _ _ _ _ (by omega) (by omega) (by omega) rah_67 rlh_67 (hP.sub [3, 4, 5, 0, 1, 2] rfl) (hD.sub [3, 4, 5, 0, 1, 2] rfl rfl) hS (lv_sub hl [0, 2, 3, 4, 5, 6, 7, 8, 9] rfl)
                    ·
                      have c_69 := mt (zlt (x := iZ w) (y := iZ z_63) rfl rfl ⟨by omega, by omega⟩ ⟨by omega, by omega⟩).mpr c_69
                      refine lv_iload hx hb dX3_seen_146 (lv_at hl 1 rfl) ?_
                      refine lv_istore (lv' := [(6, .int (iZ i)), (9, .int (iZ z_63)), (8, .int (iZ i)), (7, .int (iZ (max 0 (w - 20)))), (5, .int (iZ (-1))), (4, .int (iZ (((b * 6) + a) * 401))), (0, .ref h), (1, .int (iZ a)), (2, .int (iZ b)), (3, .int (iZ w))]) hx hb dX3_seen_148 hl (by decide) rfl (fun ls hl => ?_)
                      refine lv_goto (tgt := 159) hx hb dX3_seen_150 (by decide) ?_
                      refine lv_aload_n hx hb dX3_seen_159 rfl (lv_at hl 6 rfl) ?_
                      refine va_get (D := D) (ci := 3) (v := .ref hl0) (C := RX3) (T := TX3) (N := 4) hx hb hts iX3 hown hK hP 0 rfl rfl 3 (by decide) (hts _ qf_X3_23) (fun _ h => h) rfl dX3_seen_160 ?_
                      refine lv_iload hx hb dX3_seen_163 (lv_at hl 5 rfl) ?_
                      refine lv_iload_n hx hb dX3_seen_165 rfl (lv_at hl 9 rfl) ?_
                      refine lv_iadd hx hb dX3_seen_166 ?_
                      refine lv_topi (fun x_70 ex_70 => ?_)
                      obtain rfl : x_70 = iZ ((((b * 6) + a) * 401) + w) := ex_70.trans (iZ_add (((b * 6) + a) * 401) w)
                      refine lv_iload hx hb dX3_seen_167 (lv_at hl 0 rfl) ?_
                      refine va_iast hx hb hK hP hD hS 2 1 rfl rfl (zin (e := ((((b * 6) + a) * 401) + w)) (n := 14436) ⟨by omega, by omega⟩ (by decide)) dX3_seen_169 (fun H locs hP hD hS => ?_)
                      obtain ⟨f_71, hf_71⟩ : ∃ gg9, gg9 = upd fl_66 (iZ ((((b * 6) + a) * 401) + w)).toNatClampNeg (iZ i) := ⟨_, rfl⟩
                      rw [← hf_71] at hP hD
                      have rgf_71 := rg_upd rlh_67 hf_71 (by omega) ⟨by omega, by omega⟩ ⟨by omega, by omega⟩
                      have hP : va_P D vwCl [(h, .inr (3, [.ref hs, .long op_64, .ref ha, .ref hl0])), (ha, .inl (k 1, 14436, .inl fa_65)), (hl0, .inl (k 1, 14436, .inl f_71)), (hs, .inr (5, fs)), (hf, .inl (k 1, 36, .inl f)), (hg, .inl (k 1, 32, .inl g))] H := hP
                      have hD : va_D A [(h, .inr (3, [.ref hs, .long op_64, .ref ha, .ref hl0])), (ha, .inl (k 1, 14436, .inl fa_65)), (hl0, .inl (k 1, 14436, .inl f_71)), (hs, .inr (5, fs)), (hf, .inl (k 1, 36, .inl f)), (hg, .inl (k 1, 32, .inl g))] := hD
                      refine lv_iload hx hb dX3_seen_170 (lv_at hl 0 rfl) ?_
                      exact EWi hx hb hr hlocks hS (i, op_64, fa_65, f_71) rfl ⟨⟨by omega, by omega⟩, rah_67, rgf_71⟩ (hP.sub [0, 1, 2, 3, 4, 5] rfl) (hD.sub [0, 1, 2, 3, 4, 5] rfl rfl) dX3_seen_172
            exact HL1 403 _ _ _ _ _ _ _ (by omega) (by omega) (by omega) rah_9 rlh_9 (hP.sub [0, 1, 2, 3, 4, 5] rfl) (hD.sub [0, 1, 2, 3, 4, 5] rfl rfl) hS (lv_sub hl [0, 1, 2, 3, 4, 5, 6, 7, 8] rfl)
        ·
          have c_13 := mt (zeq (x := iZ (gz fl_8 ((((b * 6) + a) * 401) + w))) (y := iZ (-2)) rfl rfl ⟨by omega, by omega⟩ ⟨by omega, by omega⟩).mpr c_13
          refine lv_aload_n hx hb dX3_seen_42 rfl (lv_at hl 1 rfl) ?_
          refine va_get (D := D) (ci := 3) (v := .ref hl0) (C := RX3) (T := TX3) (N := 4) hx hb hts iX3 hown hK hP 3 rfl rfl 3 (by decide) (hts _ qf_X3_23) (fun _ h => h) rfl dX3_seen_43 ?_
          refine lv_iload hx hb dX3_seen_46 (lv_at hl 0 rfl) ?_
          refine lv_iload_n hx hb dX3_seen_48 rfl (lv_at hl 4 rfl) ?_
          refine lv_iadd hx hb dX3_seen_49 ?_
          refine lv_topi (fun x_72 ex_72 => ?_)
          obtain rfl : x_72 = iZ ((((b * 6) + a) * 401) + w) := ex_72.trans (iZ_add (((b * 6) + a) * 401) w)
          refine va_iald hx hb hK hP 5 1 rfl rfl (zin (e := ((((b * 6) + a) * 401) + w)) (n := 14436) ⟨by omega, by omega⟩ (by decide)) dX3_seen_50 ?_
          refine lv_topi (fun x_73 ex_73 => ?_)
          obtain rfl : x_73 = iZ (gz fl_8 ((((b * 6) + a) * 401) + w)) := ex_73.trans (gz_eq ⟨by omega, by omega⟩)
          have h_74 := rlh_9 ((((b * 6) + a) * 401) + w) (by omega) (by omega)
          exact EWi hx hb hr hlocks hS ((gz fl_8 ((((b * 6) + a) * 401) + w)), op_6, fa_7, fl_8) rfl ⟨⟨by omega, by omega⟩, rah_9, rlh_9⟩ (hP.sub [3, 4, 5, 0, 1, 2] rfl) (hD.sub [3, 4, 5, 0, 1, 2] rfl rfl) dX3_seen_51
      ·
        have c_3 := (zeq (x := iZ a) (y := iZ b) rfl rfl ⟨by omega, by omega⟩ ⟨by omega, by omega⟩).mp c_3
        refine lv_iload_n hx hb dX3_seen_18 rfl (lv_at hl 3 rfl) ?_
        exact EWi hx hb hr hlocks hS (w, op, fa, fl) rfl ⟨⟨by omega, by omega⟩, rga, rgl⟩ (hP.sub [0, 1, 2, 3, 4, 5] rfl) (hD.sub [0, 1, 2, 3, 4, 5] rfl rfl) dX3_seen_19
    ·
      have c_2 := mt (zle (x := iZ w) (y := iZ 400) rfl rfl ⟨by omega, by omega⟩ ⟨by omega, by omega⟩).mpr c_2
      refine lv_iconst (v := iZ (-1)) hx hb dX3_seen_11 (by decide) ?_
      exact EWi hx hb hr hlocks hS ((-1), op, fa, fl) rfl ⟨⟨by omega, by omega⟩, rga, rgl⟩ (hP.sub [0, 1, 2, 3, 4, 5] rfl) (hD.sub [0, 1, 2, 3, 4, 5] rfl rfl) dX3_seen_12
set_option maxHeartbeats 4000000 in
set_option maxRecDepth 100000 in
theorem k_echoOf (l : Launch) (D : va_G) (k : Nat → ClassId) (h hs ha hl0 : Nat) (op : Int64) (fa fl : Nat → Int32) (rga : rgI fa (-2) 420 14436) (rgl : rgI fl (-2) 400 14436) (fs : List Value) (hf hg : Nat) (f1 : fs[1]? = some (.ref hf)) (f2 : fs[2]? = some (.ref hg)) (f g : Nat → Int32) (n : Int) (hn : n ≤ 6) (hx0 : FXI f n) (ni : Int) (f4 : fs[4]? = some (.int (iZ ni))) (hni : 0 ≤ ni ∧ ni ≤ 8) (a w b : Int) (ha0 : 0 ≤ a ∧ a < n) (hb0 : 0 ≤ b ∧ b < n) (hw : -2147483648 ≤ w ∧ w < 2147483648) : WD (σ := (Int × Int64 × (Nat → Int32) × (Nat → Int32))) l yX3_echoOf cX3_echoOf 4 (some .int) 2 0 0 D k [.ref h, .int (iZ a), .int (iZ w), .int (iZ b)] [(h, .inr (3, [.ref hs, .long op, .ref ha, .ref hl0])), (ha, .inl (k 1, 14436, .inl fa)), (hl0, .inl (k 1, 14436, .inl fl)), (hs, .inr (5, fs)), (hf, .inl (k 1, 36, .inl f)), (hg, .inl (k 1, 32, .inl g))] (fun u => some (.int (iZ u.1))) (fun u => (-1 ≤ u.1 ∧ u.1 ≤ 420) ∧ rgI u.2.2.1 (-2) 420 14436 ∧ rgI u.2.2.2 (-2) 400 14436) (fun u => [(h, .inr (3, [.ref hs, .long u.2.1, .ref ha, .ref hl0])), (ha, .inl (k 1, 14436, .inl u.2.2.1)), (hl0, .inl (k 1, 14436, .inl u.2.2.2)), (hs, .inr (5, fs)), (hf, .inl (k 1, 36, .inl f)), (hg, .inl (k 1, 32, .inl g))]) := by
  refine MW (by decide) (Nat.le_of_ble_eq_true rfl) (fun p e s m below meth c ls A hx hb hml hr hlocks hin hts hown hKK hP hD hS hA hl => ?_)
  have hK := hKK.1
  have hl : lv_has ls 4 [(0, .ref h), (1, .int (iZ a)), (2, .int (iZ w)), (3, .int (iZ b))] := hl
  refine lv_aload_n hx hb dX3_echoOf_0 rfl (lv_at hl 0 rfl) ?_
  refine lv_iload_n hx hb dX3_echoOf_1 rfl (lv_at hl 3 rfl) ?_
  refine lv_aload_n hx hb dX3_echoOf_2 rfl (lv_at hl 0 rfl) ?_
  refine lv_iload_n hx hb dX3_echoOf_3 rfl (lv_at hl 1 rfl) ?_
  refine lv_iload_n hx hb dX3_echoOf_4 rfl (lv_at hl 2 rfl) ?_
  refine lv_iload_n hx hb dX3_echoOf_5 rfl (lv_at hl 3 rfl) ?_
  refine CWV (As := [.int (iZ a), .int (iZ w), .int (iZ b)]) (rest := [.int (iZ b), .ref h]) (wc := [(h, .inr (3, [.ref hs, .long op, .ref ha, .ref hl0])), (ha, .inl (k 1, 14436, .inl fa)), (hl0, .inl (k 1, 14436, .inl fl)), (hs, .inr (5, fs)), (hf, .inl (k 1, 36, .inl f)), (hg, .inl (k 1, 32, .inl g))]) (wr := []) hx hb hml hown hts hKK hP hD hS hA (k_arrival l D k h hs ha hl0 op fa fl rga rgl fs hf hg f1 f2 f g n hn hx0 ni f4 hni a w b ⟨by omega, by omega⟩ ⟨by omega, by omega⟩ ⟨by omega, by omega⟩) ci_X3_arrival qm_X3_48 ⟨Nat.le_of_ble_eq_true rfl, Nat.le_of_ble_eq_true rfl⟩ ⟨Nat.le_of_ble_eq_true rfl, Nat.le_of_ble_eq_true rfl⟩ [0, 1, 2, 3, 4, 5] [] rfl rfl rfl rfl rfl (by decide) 0 rfl rfl rfl hl.1 rfl (Nat.le_of_ble_eq_true rfl) dX3_echoOf_6 (fun u_1 H locs hφ hP hD hS => ?_)
  obtain ⟨z_2, op_3, fa_4, fl_5⟩ := u_1
  obtain ⟨h_6, rah_6, rlh_6⟩ := hφ
  dsimp only at h_6 rah_6 rlh_6
  have hP : va_P D vwCl [(h, .inr (3, [.ref hs, .long op_3, .ref ha, .ref hl0])), (ha, .inl (k 1, 14436, .inl fa_4)), (hl0, .inl (k 1, 14436, .inl fl_5)), (hs, .inr (5, fs)), (hf, .inl (k 1, 36, .inl f)), (hg, .inl (k 1, 32, .inl g))] H := hP
  have hD : va_D A [(h, .inr (3, [.ref hs, .long op_3, .ref ha, .ref hl0])), (ha, .inl (k 1, 14436, .inl fa_4)), (hl0, .inl (k 1, 14436, .inl fl_5)), (hs, .inr (5, fs)), (hf, .inl (k 1, 36, .inl f)), (hg, .inl (k 1, 32, .inl g))] := hD
  refine W.eq (g2 := F0 m 9 ls [.int (iZ z_2), .int (iZ b), .ref h]) rfl ?_
  refine lv_iload_n hx hb dX3_echoOf_9 rfl (lv_at hl 1 rfl) ?_
  refine CWV (As := [.int (iZ b), .int (iZ z_2), .int (iZ a)]) (rest := []) (wc := [(h, .inr (3, [.ref hs, .long op_3, .ref ha, .ref hl0])), (ha, .inl (k 1, 14436, .inl fa_4)), (hl0, .inl (k 1, 14436, .inl fl_5)), (hs, .inr (5, fs)), (hf, .inl (k 1, 36, .inl f)), (hg, .inl (k 1, 32, .inl g))]) (wr := []) hx hb hml hown hts hKK hP hD hS hA (k_arrival l D k h hs ha hl0 op_3 fa_4 fl_5 rah_6 rlh_6 fs hf hg f1 f2 f g n hn hx0 ni f4 hni b z_2 a ⟨by omega, by omega⟩ ⟨by omega, by omega⟩ ⟨by omega, by omega⟩) ci_X3_arrival qm_X3_48 ⟨Nat.le_of_ble_eq_true rfl, Nat.le_of_ble_eq_true rfl⟩ ⟨Nat.le_of_ble_eq_true rfl, Nat.le_of_ble_eq_true rfl⟩ [0, 1, 2, 3, 4, 5] [] rfl rfl rfl rfl rfl (by decide) 0 rfl rfl rfl hl.1 rfl (Nat.le_of_ble_eq_true rfl) dX3_echoOf_10 (fun u_7 H locs hφ hP hD hS => ?_)
  obtain ⟨z_8, op_9, fa_10, fl_11⟩ := u_7
  obtain ⟨h_12, rah_12, rlh_12⟩ := hφ
  dsimp only at h_12 rah_12 rlh_12
  have hP : va_P D vwCl [(h, .inr (3, [.ref hs, .long op_9, .ref ha, .ref hl0])), (ha, .inl (k 1, 14436, .inl fa_10)), (hl0, .inl (k 1, 14436, .inl fl_11)), (hs, .inr (5, fs)), (hf, .inl (k 1, 36, .inl f)), (hg, .inl (k 1, 32, .inl g))] H := hP
  have hD : va_D A [(h, .inr (3, [.ref hs, .long op_9, .ref ha, .ref hl0])), (ha, .inl (k 1, 14436, .inl fa_10)), (hl0, .inl (k 1, 14436, .inl fl_11)), (hs, .inr (5, fs)), (hf, .inl (k 1, 36, .inl f)), (hg, .inl (k 1, 32, .inl g))] := hD
  refine W.eq (g2 := F0 m 13 ls [.int (iZ z_8)]) rfl ?_
  exact EWi hx hb hr hlocks hS (z_8, op_9, fa_10, fl_11) rfl ⟨⟨by omega, by omega⟩, rah_12, rlh_12⟩ (hP.sub [0, 1, 2, 3, 4, 5] rfl) (hD.sub [0, 1, 2, 3, 4, 5] rfl rfl) dX3_echoOf_13
