theorem rg_w {f : Nat → Int32} {lo hi h2 n : Int} (h : rgI f lo hi n) (hh : hi ≤ h2) : rgI f lo h2 n := fun e a b => ⟨(h e a b).1, Int.le_trans (h e a b).2 hh⟩
set_option maxHeartbeats 4000000 in
set_option maxRecDepth 100000 in
theorem k_goesAhead (l : Launch) (D : va_G) (k : Nat → ClassId) (hw1 hc hy cw cg cs ck : Nat) (gf sf kf0 : Nat → Int32) (wk od : Int) (hwk : 0 ≤ wk ∧ wk ≤ 400) (hod : 0 ≤ od ∧ od ≤ 20) (rgg0 : rgI gf 0 5 od) (hs hf : Nat) (fs : List Value) (f1 : fs[1]? = some (.ref hf)) (f : Nat → Int32) (n : Int) (hn : n ≤ 6) (hx0 : FXI f n) (f3 : fs[3]? = some (.int (iZ n))) (hn0 : 0 ≤ n) (lw : Int) (f5 : fs[5]? = some (.int (iZ lw))) (hlw : -2147483648 ≤ lw ∧ lw < 2147483648) (a b r : Int) (ha0 : 0 ≤ a ∧ a < od) (hb0 : 0 ≤ b ∧ b < od) (hr0 : 0 ≤ r ∧ r < 6) : RP l yX8_goesAhead cX8_goesAhead 4 (some .boolean) 1 D k [.ref hw1, .int (iZ a), .int (iZ b), .int (iZ r)] [(hw1, .inr (8, [.ref hs, .ref hc, .ref hy])), (hc, .inr (0, [.ref cw, .ref cg, .ref cs, .ref ck, .int (iZ wk), .int (iZ od)])), (cg, .inl (k 1, 20, .inl gf)), (cs, .inl (k 1, 20, .inl sf)), (ck, .inl (k 1, 120, .inl kf0)), (hs, .inr (5, fs)), (hf, .inl (k 1, 36, .inl f))] (fun z => z = 0 ∨ z = 1) := by
  refine MRP (by decide) (Nat.le_of_ble_eq_true rfl) (fun p e s m below meth c ls hx hb hml hr hlocks hts hown hKK hP hl => ?_)
  have hK := hKK.1
  have hl : lv_has ls 4 [(0, .ref hw1), (1, .int (iZ a)), (2, .int (iZ b)), (3, .int (iZ r))] := hl
  refine lv_aload_n hx hb dX8_goesAhead_0 rfl (lv_at hl 0 rfl) ?_
  refine va_get (D := D) (ci := 8) (v := .ref hs) (C := RX8) (T := TX8) (N := 3) hx hb hts iX8 hown hK hP 0 rfl rfl 0 (by decide) (hts _ qf_X8_12) (fun _ h => h) rfl dX8_goesAhead_1 ?_
  refine va_get (D := D) (ci := 5) (v := .int (iZ lw)) (C := RX5) (T := TX5) (N := 7) hx hb hts iX5 hown hK hP 5 rfl rfl 5 (by decide) (hts _ qf_X8_64) (fun _ h => h) f5 dX8_goesAhead_4 ?_
  rcases Classical.em (lw = 0) with c_1 | c_1
  ·
    refine lv_tableIn (tgt := 32) (off := 25) hx hb dX8_goesAhead_7 (by rw [iZ_ti ⟨by omega, by omega⟩]; omega) (by rw [iZ_ti ⟨by omega, by omega⟩]; omega) (by rw [iZ_ti ⟨by omega, by omega⟩, c_1]; rfl) (by decide) ?_
    refine lv_aload_n hx hb dX8_goesAhead_32 rfl (lv_at hl 0 rfl) ?_
    refine va_get (D := D) (ci := 8) (v := .ref hc) (C := RX8) (T := TX8) (N := 3) hx hb hts iX8 hown hK hP 0 rfl rfl 1 (by decide) (hts _ qf_X8_21) (fun _ h => h) rfl dX8_goesAhead_33 ?_
    refine lv_iload_n hx hb dX8_goesAhead_36 rfl (lv_at hl 1 rfl) ?_
    refine lv_iload_n hx hb dX8_goesAhead_37 rfl (lv_at hl 3 rfl) ?_
    refine CRV (As := [.int (iZ a), .int (iZ r)]) (rest := []) hx hb hml hown hts hKK (hP.sub (ws' := [(hc, .inr (0, [.ref cw, .ref cg, .ref cs, .ref ck, .int (iZ wk), .int (iZ od)])), (ck, .inl (k 1, 120, .inl kf0))]) [1, 4] rfl) (k_firstKnown l D k hc ck [.ref cw, .ref cg, .ref cs, .ref ck, .int (iZ wk), .int (iZ od)] rfl kf0 a r ⟨by omega, by omega⟩ ⟨by omega, by omega⟩) ci_X0_firstKnown qm_X8_56 ⟨Nat.le_of_ble_eq_true rfl, Nat.le_of_ble_eq_true rfl⟩ ⟨Nat.le_of_ble_eq_true rfl, Nat.le_of_ble_eq_true rfl⟩ 0 rfl rfl rfl hl.1 rfl (Nat.le_of_ble_eq_true rfl) dX8_goesAhead_38 ?_
    have hg_h_2 := gz_rg kf0 ((a * 6) + r)
    refine lv_aload_n hx hb dX8_goesAhead_41 rfl (lv_at hl 0 rfl) ?_
    refine va_get (D := D) (ci := 8) (v := .ref hc) (C := RX8) (T := TX8) (N := 3) hx hb hts iX8 hown hK hP 0 rfl rfl 1 (by decide) (hts _ qf_X8_21) (fun _ h => h) rfl dX8_goesAhead_42 ?_
    refine lv_iload_n hx hb dX8_goesAhead_45 rfl (lv_at hl 2 rfl) ?_
    refine lv_iload_n hx hb dX8_goesAhead_46 rfl (lv_at hl 3 rfl) ?_
    refine CRV (As := [.int (iZ b), .int (iZ r)]) (rest := [.int (iZ (gz kf0 ((a * 6) + r)))]) hx hb hml hown hts hKK (hP.sub (ws' := [(hc, .inr (0, [.ref cw, .ref cg, .ref cs, .ref ck, .int (iZ wk), .int (iZ od)])), (ck, .inl (k 1, 120, .inl kf0))]) [1, 4] rfl) (k_firstKnown l D k hc ck [.ref cw, .ref cg, .ref cs, .ref ck, .int (iZ wk), .int (iZ od)] rfl kf0 b r ⟨by omega, by omega⟩ ⟨by omega, by omega⟩) ci_X0_firstKnown qm_X8_56 ⟨Nat.le_of_ble_eq_true rfl, Nat.le_of_ble_eq_true rfl⟩ ⟨Nat.le_of_ble_eq_true rfl, Nat.le_of_ble_eq_true rfl⟩ 0 rfl rfl rfl hl.1 rfl (Nat.le_of_ble_eq_true rfl) dX8_goesAhead_47 ?_
    have hg_h_3 := gz_rg kf0 ((b * 6) + r)
    refine lv_icmp_ge (tgt := 57) hx hb dX8_goesAhead_50 (by decide) (fun c_4 => ?_) (fun c_4 => ?_)
    ·
      have c_4 := (zle (x := iZ (gz kf0 ((b * 6) + r))) (y := iZ (gz kf0 ((a * 6) + r))) rfl rfl ⟨by omega, by omega⟩ ⟨by omega, by omega⟩).mp c_4
      refine lv_iconst (v := iZ 0) hx hb dX8_goesAhead_57 (by decide) ?_
      exact EPz hx hb hr hlocks (by omega) (by omega) dX8_goesAhead_58
    ·
      have c_4 := mt (zle (x := iZ (gz kf0 ((b * 6) + r))) (y := iZ (gz kf0 ((a * 6) + r))) rfl rfl ⟨by omega, by omega⟩ ⟨by omega, by omega⟩).mpr c_4
      refine lv_iconst (v := iZ 1) hx hb dX8_goesAhead_53 (by decide) ?_
      refine lv_goto (tgt := 58) hx hb dX8_goesAhead_54 (by decide) ?_
      exact EPz hx hb hr hlocks (by omega) (by omega) dX8_goesAhead_58
  ·
    rcases Classical.em (lw = 1) with c_5 | c_5
    ·
      refine lv_tableIn (tgt := 59) (off := 52) hx hb dX8_goesAhead_7 (by rw [iZ_ti ⟨by omega, by omega⟩]; omega) (by rw [iZ_ti ⟨by omega, by omega⟩]; omega) (by rw [iZ_ti ⟨by omega, by omega⟩, c_5]; rfl) (by decide) ?_
      refine lv_aload_n hx hb dX8_goesAhead_59 rfl (lv_at hl 0 rfl) ?_
      refine va_get (D := D) (ci := 8) (v := .ref hc) (C := RX8) (T := TX8) (N := 3) hx hb hts iX8 hown hK hP 0 rfl rfl 1 (by decide) (hts _ qf_X8_21) (fun _ h => h) rfl dX8_goesAhead_60 ?_
      refine lv_iload_n hx hb dX8_goesAhead_63 rfl (lv_at hl 1 rfl) ?_
      refine lv_iload_n hx hb dX8_goesAhead_64 rfl (lv_at hl 3 rfl) ?_
      refine CRV (As := [.int (iZ a), .int (iZ r)]) (rest := []) hx hb hml hown hts hKK (hP.sub (ws' := [(hc, .inr (0, [.ref cw, .ref cg, .ref cs, .ref ck, .int (iZ wk), .int (iZ od)])), (ck, .inl (k 1, 120, .inl kf0))]) [1, 4] rfl) (k_firstKnown l D k hc ck [.ref cw, .ref cg, .ref cs, .ref ck, .int (iZ wk), .int (iZ od)] rfl kf0 a r ⟨by omega, by omega⟩ ⟨by omega, by omega⟩) ci_X0_firstKnown qm_X8_56 ⟨Nat.le_of_ble_eq_true rfl, Nat.le_of_ble_eq_true rfl⟩ ⟨Nat.le_of_ble_eq_true rfl, Nat.le_of_ble_eq_true rfl⟩ 0 rfl rfl rfl hl.1 rfl (Nat.le_of_ble_eq_true rfl) dX8_goesAhead_65 ?_
      have hg_h_6 := gz_rg kf0 ((a * 6) + r)
      refine lv_aload_n hx hb dX8_goesAhead_68 rfl (lv_at hl 0 rfl) ?_
      refine va_get (D := D) (ci := 8) (v := .ref hc) (C := RX8) (T := TX8) (N := 3) hx hb hts iX8 hown hK hP 0 rfl rfl 1 (by decide) (hts _ qf_X8_21) (fun _ h => h) rfl dX8_goesAhead_69 ?_
      refine lv_iload_n hx hb dX8_goesAhead_72 rfl (lv_at hl 2 rfl) ?_
      refine lv_iload_n hx hb dX8_goesAhead_73 rfl (lv_at hl 3 rfl) ?_
      refine CRV (As := [.int (iZ b), .int (iZ r)]) (rest := [.int (iZ (gz kf0 ((a * 6) + r)))]) hx hb hml hown hts hKK (hP.sub (ws' := [(hc, .inr (0, [.ref cw, .ref cg, .ref cs, .ref ck, .int (iZ wk), .int (iZ od)])), (ck, .inl (k 1, 120, .inl kf0))]) [1, 4] rfl) (k_firstKnown l D k hc ck [.ref cw, .ref cg, .ref cs, .ref ck, .int (iZ wk), .int (iZ od)] rfl kf0 b r ⟨by omega, by omega⟩ ⟨by omega, by omega⟩) ci_X0_firstKnown qm_X8_56 ⟨Nat.le_of_ble_eq_true rfl, Nat.le_of_ble_eq_true rfl⟩ ⟨Nat.le_of_ble_eq_true rfl, Nat.le_of_ble_eq_true rfl⟩ 0 rfl rfl rfl hl.1 rfl (Nat.le_of_ble_eq_true rfl) dX8_goesAhead_74 ?_
      have hg_h_7 := gz_rg kf0 ((b * 6) + r)
      refine lv_icmp_le (tgt := 84) hx hb dX8_goesAhead_77 (by decide) (fun c_8 => ?_) (fun c_8 => ?_)
      ·
        have c_8 := (zle (x := iZ (gz kf0 ((a * 6) + r))) (y := iZ (gz kf0 ((b * 6) + r))) rfl rfl ⟨by omega, by omega⟩ ⟨by omega, by omega⟩).mp c_8
        refine lv_iconst (v := iZ 0) hx hb dX8_goesAhead_84 (by decide) ?_
        exact EPz hx hb hr hlocks (by omega) (by omega) dX8_goesAhead_85
      ·
        have c_8 := mt (zle (x := iZ (gz kf0 ((a * 6) + r))) (y := iZ (gz kf0 ((b * 6) + r))) rfl rfl ⟨by omega, by omega⟩ ⟨by omega, by omega⟩).mpr c_8
        refine lv_iconst (v := iZ 1) hx hb dX8_goesAhead_80 (by decide) ?_
        refine lv_goto (tgt := 85) hx hb dX8_goesAhead_81 (by decide) ?_
        exact EPz hx hb hr hlocks (by omega) (by omega) dX8_goesAhead_85
    ·
      rcases Classical.em (lw = 2) with c_9 | c_9
      ·
        refine lv_tableIn (tgt := 86) (off := 79) hx hb dX8_goesAhead_7 (by rw [iZ_ti ⟨by omega, by omega⟩]; omega) (by rw [iZ_ti ⟨by omega, by omega⟩]; omega) (by rw [iZ_ti ⟨by omega, by omega⟩, c_9]; rfl) (by decide) ?_
        refine lv_aload_n hx hb dX8_goesAhead_86 rfl (lv_at hl 0 rfl) ?_
        refine va_get (D := D) (ci := 8) (v := .ref hs) (C := RX8) (T := TX8) (N := 3) hx hb hts iX8 hown hK hP 0 rfl rfl 0 (by decide) (hts _ qf_X8_12) (fun _ h => h) rfl dX8_goesAhead_87 ?_
        refine lv_aload_n hx hb dX8_goesAhead_90 rfl (lv_at hl 0 rfl) ?_
        refine va_get (D := D) (ci := 8) (v := .ref hc) (C := RX8) (T := TX8) (N := 3) hx hb hts iX8 hown hK hP 0 rfl rfl 1 (by decide) (hts _ qf_X8_21) (fun _ h => h) rfl dX8_goesAhead_91 ?_
        refine va_get (D := D) (ci := 0) (v := .ref cg) (C := RX0) (T := TX0) (N := 6) hx hb hts iX0 hown hK hP 1 rfl rfl 1 (by decide) (hts _ qf_X8_67) (fun _ h => h) rfl dX8_goesAhead_94 ?_
        refine lv_iload_n hx hb dX8_goesAhead_97 rfl (lv_at hl 1 rfl) ?_
        refine va_iald hx hb hK hP 2 1 rfl rfl (zin (e := a) (n := 20) ⟨by omega, by omega⟩ (by decide)) dX8_goesAhead_98 ?_
        refine lv_topi (fun x_10 ex_10 => ?_)
        obtain rfl : x_10 = iZ (gz gf a) := ex_10.trans (gz_eq ⟨by omega, by omega⟩)
        have h_11 := rgg0 a (by omega) (by omega)
        refine lv_iconst (v := iZ 3) hx hb dX8_goesAhead_99 (by decide) ?_
        refine CRV (As := [.int (iZ (gz gf a)), .int (iZ 3)]) (rest := []) hx hb hml hown hts hKK (hP.sub (ws' := [(hs, .inr (5, fs)), (hf, .inl (k 1, 36, .inl f))]) [5, 6] rfl) (k_fact l D k hs hf fs f1 f (gz gf a) 3 ⟨by omega, by omega⟩ ⟨by omega, by omega⟩) ci_X5_fact qm_X8_71 ⟨Nat.le_of_ble_eq_true rfl, Nat.le_of_ble_eq_true rfl⟩ ⟨Nat.le_of_ble_eq_true rfl, Nat.le_of_ble_eq_true rfl⟩ 0 rfl rfl rfl hl.1 rfl (Nat.le_of_ble_eq_true rfl) dX8_goesAhead_100 ?_
        have hg_h_12 := gz_rg f (((gz gf a) * 6) + 3)
        refine lv_aload_n hx hb dX8_goesAhead_103 rfl (lv_at hl 0 rfl) ?_
        refine va_get (D := D) (ci := 8) (v := .ref hs) (C := RX8) (T := TX8) (N := 3) hx hb hts iX8 hown hK hP 0 rfl rfl 0 (by decide) (hts _ qf_X8_12) (fun _ h => h) rfl dX8_goesAhead_104 ?_
        refine lv_aload_n hx hb dX8_goesAhead_107 rfl (lv_at hl 0 rfl) ?_
        refine va_get (D := D) (ci := 8) (v := .ref hc) (C := RX8) (T := TX8) (N := 3) hx hb hts iX8 hown hK hP 0 rfl rfl 1 (by decide) (hts _ qf_X8_21) (fun _ h => h) rfl dX8_goesAhead_108 ?_
        refine va_get (D := D) (ci := 0) (v := .ref cg) (C := RX0) (T := TX0) (N := 6) hx hb hts iX0 hown hK hP 1 rfl rfl 1 (by decide) (hts _ qf_X8_67) (fun _ h => h) rfl dX8_goesAhead_111 ?_
        refine lv_iload_n hx hb dX8_goesAhead_114 rfl (lv_at hl 2 rfl) ?_
        refine va_iald hx hb hK hP 2 1 rfl rfl (zin (e := b) (n := 20) ⟨by omega, by omega⟩ (by decide)) dX8_goesAhead_115 ?_
        refine lv_topi (fun x_13 ex_13 => ?_)
        obtain rfl : x_13 = iZ (gz gf b) := ex_13.trans (gz_eq ⟨by omega, by omega⟩)
        have h_14 := rgg0 b (by omega) (by omega)
        refine lv_iconst (v := iZ 3) hx hb dX8_goesAhead_116 (by decide) ?_
        refine CRV (As := [.int (iZ (gz gf b)), .int (iZ 3)]) (rest := [.int (iZ (gz f (((gz gf a) * 6) + 3)))]) hx hb hml hown hts hKK (hP.sub (ws' := [(hs, .inr (5, fs)), (hf, .inl (k 1, 36, .inl f))]) [5, 6] rfl) (k_fact l D k hs hf fs f1 f (gz gf b) 3 ⟨by omega, by omega⟩ ⟨by omega, by omega⟩) ci_X5_fact qm_X8_71 ⟨Nat.le_of_ble_eq_true rfl, Nat.le_of_ble_eq_true rfl⟩ ⟨Nat.le_of_ble_eq_true rfl, Nat.le_of_ble_eq_true rfl⟩ 0 rfl rfl rfl hl.1 rfl (Nat.le_of_ble_eq_true rfl) dX8_goesAhead_117 ?_
        have hg_h_15 := gz_rg f (((gz gf b) * 6) + 3)
        refine lv_icmp_le (tgt := 127) hx hb dX8_goesAhead_120 (by decide) (fun c_16 => ?_) (fun c_16 => ?_)
        ·
          have c_16 := (zle (x := iZ (gz f (((gz gf a) * 6) + 3))) (y := iZ (gz f (((gz gf b) * 6) + 3))) rfl rfl ⟨by omega, by omega⟩ ⟨by omega, by omega⟩).mp c_16
          refine lv_iconst (v := iZ 0) hx hb dX8_goesAhead_127 (by decide) ?_
          exact EPz hx hb hr hlocks (by omega) (by omega) dX8_goesAhead_128
        ·
          have c_16 := mt (zle (x := iZ (gz f (((gz gf a) * 6) + 3))) (y := iZ (gz f (((gz gf b) * 6) + 3))) rfl rfl ⟨by omega, by omega⟩ ⟨by omega, by omega⟩).mpr c_16
          refine lv_iconst (v := iZ 1) hx hb dX8_goesAhead_123 (by decide) ?_
          refine lv_goto (tgt := 128) hx hb dX8_goesAhead_124 (by decide) ?_
          exact EPz hx hb hr hlocks (by omega) (by omega) dX8_goesAhead_128
      ·
        refine lv_tableOut (tgt := 129) hx hb dX8_goesAhead_7 (by rw [iZ_ti ⟨by omega, by omega⟩]; omega) (by decide) ?_
        refine lv_aload_n hx hb dX8_goesAhead_129 rfl (lv_at hl 0 rfl) ?_
        refine va_get (D := D) (ci := 8) (v := .ref hc) (C := RX8) (T := TX8) (N := 3) hx hb hts iX8 hown hK hP 0 rfl rfl 1 (by decide) (hts _ qf_X8_21) (fun _ h => h) rfl dX8_goesAhead_130 ?_
        refine va_get (D := D) (ci := 0) (v := .ref cs) (C := RX0) (T := TX0) (N := 6) hx hb hts iX0 hown hK hP 1 rfl rfl 2 (by decide) (hts _ qf_X8_74) (fun _ h => h) rfl dX8_goesAhead_133 ?_
        refine lv_iload_n hx hb dX8_goesAhead_136 rfl (lv_at hl 1 rfl) ?_
        refine va_iald hx hb hK hP 3 1 rfl rfl (zin (e := a) (n := 20) ⟨by omega, by omega⟩ (by decide)) dX8_goesAhead_137 ?_
        refine lv_topi (fun x_17 ex_17 => ?_)
        obtain rfl : x_17 = iZ (gz sf a) := ex_17.trans (gz_eq ⟨by omega, by omega⟩)
        have h_18 := gz_rg sf a
        refine lv_aload_n hx hb dX8_goesAhead_138 rfl (lv_at hl 0 rfl) ?_
        refine va_get (D := D) (ci := 8) (v := .ref hc) (C := RX8) (T := TX8) (N := 3) hx hb hts iX8 hown hK hP 0 rfl rfl 1 (by decide) (hts _ qf_X8_21) (fun _ h => h) rfl dX8_goesAhead_139 ?_
        refine va_get (D := D) (ci := 0) (v := .ref cs) (C := RX0) (T := TX0) (N := 6) hx hb hts iX0 hown hK hP 1 rfl rfl 2 (by decide) (hts _ qf_X8_74) (fun _ h => h) rfl dX8_goesAhead_142 ?_
        refine lv_iload_n hx hb dX8_goesAhead_145 rfl (lv_at hl 2 rfl) ?_
        refine va_iald hx hb hK hP 3 1 rfl rfl (zin (e := b) (n := 20) ⟨by omega, by omega⟩ (by decide)) dX8_goesAhead_146 ?_
        refine lv_topi (fun x_19 ex_19 => ?_)
        obtain rfl : x_19 = iZ (gz sf b) := ex_19.trans (gz_eq ⟨by omega, by omega⟩)
        have h_20 := gz_rg sf b
        refine lv_icmp_ge (tgt := 154) hx hb dX8_goesAhead_147 (by decide) (fun c_21 => ?_) (fun c_21 => ?_)
        ·
          have c_21 := (zle (x := iZ (gz sf b)) (y := iZ (gz sf a)) rfl rfl ⟨by omega, by omega⟩ ⟨by omega, by omega⟩).mp c_21
          refine lv_iconst (v := iZ 0) hx hb dX8_goesAhead_154 (by decide) ?_
          exact EPz hx hb hr hlocks (by omega) (by omega) dX8_goesAhead_155
        ·
          have c_21 := mt (zle (x := iZ (gz sf b)) (y := iZ (gz sf a)) rfl rfl ⟨by omega, by omega⟩ ⟨by omega, by omega⟩).mpr c_21
          refine lv_iconst (v := iZ 1) hx hb dX8_goesAhead_150 (by decide) ?_
          refine lv_goto (tgt := 155) hx hb dX8_goesAhead_151 (by decide) ?_
          exact EPz hx hb hr hlocks (by omega) (by omega) dX8_goesAhead_155
set_option maxHeartbeats 4000000 in
set_option maxRecDepth 100000 in
theorem k_ruler (l : Launch) (D : va_G) (k : Nat → ClassId) (hw1 hc hy cw cg cs ck : Nat) (gf sf kf0 : Nat → Int32) (wk od : Int) (hwk : 0 ≤ wk ∧ wk ≤ 400) (hod : 0 ≤ od ∧ od ≤ 20) (rgg0 : rgI gf 0 5 od) (hs hf : Nat) (fs : List Value) (f1 : fs[1]? = some (.ref hf)) (f : Nat → Int32) (n : Int) (hn : n ≤ 6) (hx0 : FXI f n) (f3 : fs[3]? = some (.int (iZ n))) (hn0 : 0 ≤ n) (lw : Int) (f5 : fs[5]? = some (.int (iZ lw))) (hlw : -2147483648 ≤ lw ∧ lw < 2147483648) (r w : Int) (hr0 : 0 ≤ r ∧ r < 6) (hw : -2147483648 ≤ w ∧ w < 2147483648) : RP l yX8_ruler cX8_ruler 7 (some .int) 2 D k [.ref hw1, .int (iZ r), .int (iZ w)] [(hw1, .inr (8, [.ref hs, .ref hc, .ref hy])), (hc, .inr (0, [.ref cw, .ref cg, .ref cs, .ref ck, .int (iZ wk), .int (iZ od)])), (cg, .inl (k 1, 20, .inl gf)), (cs, .inl (k 1, 20, .inl sf)), (ck, .inl (k 1, 120, .inl kf0)), (hs, .inr (5, fs)), (hf, .inl (k 1, 36, .inl f))] (fun z => -1 ≤ z ∧ z < od ∨ z = -1) := by
  refine MRP (by decide) (Nat.le_of_ble_eq_true rfl) (fun p e s m below meth c ls hx hb hml hr hlocks hts hown hKK hP hl => ?_)
  have hK := hKK.1
  have hl : lv_has ls 7 [(0, .ref hw1), (1, .int (iZ r)), (2, .int (iZ w))] := hl
  refine lv_iconst (v := iZ (-1)) hx hb dX8_ruler_0 (by decide) ?_
  refine lv_istore_n (lv' := [(3, .int (iZ (-1))), (0, .ref hw1), (1, .int (iZ r)), (2, .int (iZ w))]) hx hb dX8_ruler_1 rfl hl (by decide) rfl (fun ls hl => ?_)
  refine lv_iconst (v := iZ 0) hx hb dX8_ruler_2 (by decide) ?_
  refine lv_istore (lv' := [(4, .int (iZ 0)), (3, .int (iZ (-1))), (0, .ref hw1), (1, .int (iZ r)), (2, .int (iZ w))]) hx hb dX8_ruler_3 hl (by decide) rfl (fun ls hl => ?_)
  have HL1 : ∀ (fu : Nat) (i m1 : Int) (ls : Array Slot), (od + 1 - i) < (fu : Int) → 0 ≤ i → i ≤ od → -1 ≤ m1 → m1 < i → lv_has ls 7 [(4, .int (iZ i)), (3, .int (iZ m1)), (0, .ref hw1), (1, .int (iZ r)), (2, .int (iZ w))] → W p l e (rj 2 0 0) s m [.ref hw1, .int (iZ r), .int (iZ w)].toArray below meth c s.heap [] 0 0 (MQ below (QcP (fun z => -1 ≤ z ∧ z < od ∨ z = -1)) [.ref hw1, .int (iZ r), .int (iZ w)].toArray s 0 0 (fun _ => False)) (F0 m 5 ls []) := by
    intro fu
    induction fu with
    | zero => intro i m1 ls hμ1 hi1 hi2 hm1 hm2 hl; exact absurd hμ1 (by omega)
    | succ fu ih1 =>
      intro i m1 ls hμ1 hi1 hi2 hm1 hm2 hl
      refine lv_iload hx hb dX8_ruler_5 (lv_at hl 0 rfl) ?_
      refine lv_aload_n hx hb dX8_ruler_7 rfl (lv_at hl 2 rfl) ?_
      refine va_get (D := D) (ci := 8) (v := .ref hc) (C := RX8) (T := TX8) (N := 3) hx hb hts iX8 hown hK hP 0 rfl rfl 1 (by decide) (hts _ qf_X8_21) (fun _ h => h) rfl dX8_ruler_8 ?_
      refine va_get (D := D) (ci := 0) (v := .int (iZ od)) (C := RX0) (T := TX0) (N := 6) hx hb hts iX0 hown hK hP 1 rfl rfl 5 (by decide) (hts _ qf_X8_53) (fun _ h => h) rfl dX8_ruler_11 ?_
      refine lv_icmp_ge (tgt := 78) hx hb dX8_ruler_14 (by decide) (fun c_1 => ?_) (fun c_1 => ?_)
      ·
        have c_1 := (zle (x := iZ od) (y := iZ i) rfl rfl ⟨by omega, by omega⟩ ⟨by omega, by omega⟩).mp c_1
        refine lv_iload_n hx hb dX8_ruler_78 rfl (lv_at hl 1 rfl) ?_
        exact EPi hx hb hr hlocks (by omega) dX8_ruler_79
      ·
        have c_1 := mt (zle (x := iZ od) (y := iZ i) rfl rfl ⟨by omega, by omega⟩ ⟨by omega, by omega⟩).mpr c_1
        refine lv_aload_n hx hb dX8_ruler_17 rfl (lv_at hl 2 rfl) ?_
        refine va_get (D := D) (ci := 8) (v := .ref hc) (C := RX8) (T := TX8) (N := 3) hx hb hts iX8 hown hK hP 0 rfl rfl 1 (by decide) (hts _ qf_X8_21) (fun _ h => h) rfl dX8_ruler_18 ?_
        refine lv_iload hx hb dX8_ruler_21 (lv_at hl 0 rfl) ?_
        refine lv_iload_n hx hb dX8_ruler_23 rfl (lv_at hl 3 rfl) ?_
        refine CRV (As := [.int (iZ i), .int (iZ r)]) (rest := []) hx hb hml hown hts hKK (hP.sub (ws' := [(hc, .inr (0, [.ref cw, .ref cg, .ref cs, .ref ck, .int (iZ wk), .int (iZ od)])), (ck, .inl (k 1, 120, .inl kf0))]) [1, 4] rfl) (k_firstKnown l D k hc ck [.ref cw, .ref cg, .ref cs, .ref ck, .int (iZ wk), .int (iZ od)] rfl kf0 i r ⟨by omega, by omega⟩ ⟨by omega, by omega⟩) ci_X0_firstKnown qm_X8_56 ⟨Nat.le_of_ble_eq_true rfl, Nat.le_of_ble_eq_true rfl⟩ ⟨Nat.le_of_ble_eq_true rfl, Nat.le_of_ble_eq_true rfl⟩ 0 rfl rfl rfl hl.1 rfl (Nat.le_of_ble_eq_true rfl) dX8_ruler_24 ?_
        have hg_h_2 := gz_rg kf0 ((i * 6) + r)
        refine lv_istore (lv' := [(5, .int (iZ (gz kf0 ((i * 6) + r)))), (4, .int (iZ i)), (3, .int (iZ m1)), (0, .ref hw1), (1, .int (iZ r)), (2, .int (iZ w))]) hx hb dX8_ruler_27 hl (by decide) rfl (fun ls hl => ?_)
        refine lv_iload hx hb dX8_ruler_29 (lv_at hl 0 rfl) ?_
        refine lv_iconst (v := iZ (-1)) hx hb dX8_ruler_31 (by decide) ?_
        refine lv_icmp_eq (tgt := 45) hx hb dX8_ruler_32 (by decide) (fun c_3 => ?_) (fun c_3 => ?_)
        ·
          have c_3 := (zeq (x := iZ (gz kf0 ((i * 6) + r))) (y := iZ (-1)) rfl rfl ⟨by omega, by omega⟩ ⟨by omega, by omega⟩).mp c_3
          refine lv_iconst (v := iZ 0) hx hb dX8_ruler_45 (by decide) ?_
          refine lv_istore (lv' := [(6, .int (iZ 0)), (5, .int (iZ (gz kf0 ((i * 6) + r)))), (4, .int (iZ i)), (3, .int (iZ m1)), (0, .ref hw1), (1, .int (iZ r)), (2, .int (iZ w))]) hx hb dX8_ruler_46 hl (by decide) rfl (fun ls hl => ?_)
          refine lv_iload hx hb dX8_ruler_48 (lv_at hl 0 rfl) ?_
          refine lv_if_eq (tgt := 72) hx hb dX8_ruler_50 (by decide) (fun _ => ?_) (fun c => absurd (by decide) c)
          refine lv_iinc (v := iZ (i + 1)) (lv' := [(4, .int (iZ (i + 1))), (6, .int (iZ 0)), (5, .int (iZ (gz kf0 ((i * 6) + r)))), (3, .int (iZ m1)), (0, .ref hw1), (1, .int (iZ r)), (2, .int (iZ w))]) hx hb dX8_ruler_72 hl (k := 2) rfl (iZ_add i 1) (by decide) rfl (fun ls hl => ?_)
          refine lv_goto (tgt := 5) hx hb dX8_ruler_75 (by decide) ?_
          exact ih1  _ _ _ (by omega) (by omega) (by omega) (by omega) (by omega) (lv_sub hl [0, 3, 4, 5, 6] rfl)
        ·
          have c_3 := mt (zeq (x := iZ (gz kf0 ((i * 6) + r))) (y := iZ (-1)) rfl rfl ⟨by omega, by omega⟩ ⟨by omega, by omega⟩).mpr c_3
          refine lv_iload hx hb dX8_ruler_35 (lv_at hl 0 rfl) ?_
          refine lv_iload_n hx hb dX8_ruler_37 rfl (lv_at hl 5 rfl) ?_
          refine lv_icmp_gt (tgt := 45) hx hb dX8_ruler_38 (by decide) (fun c_5 => ?_) (fun c_5 => ?_)
          ·
            have c_5 := (zlt (x := iZ w) (y := iZ (gz kf0 ((i * 6) + r))) rfl rfl ⟨by omega, by omega⟩ ⟨by omega, by omega⟩).mp c_5
            refine lv_iconst (v := iZ 0) hx hb dX8_ruler_45 (by decide) ?_
            refine lv_istore (lv' := [(6, .int (iZ 0)), (5, .int (iZ (gz kf0 ((i * 6) + r)))), (4, .int (iZ i)), (3, .int (iZ m1)), (0, .ref hw1), (1, .int (iZ r)), (2, .int (iZ w))]) hx hb dX8_ruler_46 hl (by decide) rfl (fun ls hl => ?_)
            refine lv_iload hx hb dX8_ruler_48 (lv_at hl 0 rfl) ?_
            refine lv_if_eq (tgt := 72) hx hb dX8_ruler_50 (by decide) (fun _ => ?_) (fun c => absurd (by decide) c)
            refine lv_iinc (v := iZ (i + 1)) (lv' := [(4, .int (iZ (i + 1))), (6, .int (iZ 0)), (5, .int (iZ (gz kf0 ((i * 6) + r)))), (3, .int (iZ m1)), (0, .ref hw1), (1, .int (iZ r)), (2, .int (iZ w))]) hx hb dX8_ruler_72 hl (k := 2) rfl (iZ_add i 1) (by decide) rfl (fun ls hl => ?_)
            refine lv_goto (tgt := 5) hx hb dX8_ruler_75 (by decide) ?_
            exact ih1  _ _ _ (by omega) (by omega) (by omega) (by omega) (by omega) (lv_sub hl [0, 3, 4, 5, 6] rfl)
          ·
            have c_5 := mt (zlt (x := iZ w) (y := iZ (gz kf0 ((i * 6) + r))) rfl rfl ⟨by omega, by omega⟩ ⟨by omega, by omega⟩).mpr c_5
            refine lv_iconst (v := iZ 1) hx hb dX8_ruler_41 (by decide) ?_
            refine lv_goto (tgt := 46) hx hb dX8_ruler_42 (by decide) ?_
            refine lv_istore (lv' := [(6, .int (iZ 1)), (5, .int (iZ (gz kf0 ((i * 6) + r)))), (4, .int (iZ i)), (3, .int (iZ m1)), (0, .ref hw1), (1, .int (iZ r)), (2, .int (iZ w))]) hx hb dX8_ruler_46 hl (by decide) rfl (fun ls hl => ?_)
            refine lv_iload hx hb dX8_ruler_48 (lv_at hl 0 rfl) ?_
            refine lv_if_eq (tgt := 72) hx hb dX8_ruler_50 (by decide) (fun c => absurd c (by decide)) (fun _ => ?_)
            refine lv_iload_n hx hb dX8_ruler_53 rfl (lv_at hl 3 rfl) ?_
            refine lv_iconst (v := iZ (-1)) hx hb dX8_ruler_54 (by decide) ?_
            refine lv_icmp_eq (tgt := 69) hx hb dX8_ruler_55 (by decide) (fun c_8 => ?_) (fun c_8 => ?_)
            ·
              have c_8 := (zeq (x := iZ m1) (y := iZ (-1)) rfl rfl ⟨by omega, by omega⟩ ⟨by omega, by omega⟩).mp c_8
              refine lv_iload hx hb dX8_ruler_69 (lv_at hl 2 rfl) ?_
              refine lv_istore_n (lv' := [(3, .int (iZ i)), (6, .int (iZ 1)), (5, .int (iZ (gz kf0 ((i * 6) + r)))), (4, .int (iZ i)), (0, .ref hw1), (1, .int (iZ r)), (2, .int (iZ w))]) hx hb dX8_ruler_71 rfl hl (by decide) rfl (fun ls hl => ?_)
              refine lv_iinc (v := iZ (i + 1)) (lv' := [(4, .int (iZ (i + 1))), (3, .int (iZ i)), (6, .int (iZ 1)), (5, .int (iZ (gz kf0 ((i * 6) + r)))), (0, .ref hw1), (1, .int (iZ r)), (2, .int (iZ w))]) hx hb dX8_ruler_72 hl (k := 3) rfl (iZ_add i 1) (by decide) rfl (fun ls hl => ?_)
              refine lv_goto (tgt := 5) hx hb dX8_ruler_75 (by decide) ?_
              exact ih1  _ _ _ (by omega) (by omega) (by omega) (by omega) (by omega) (lv_sub hl [0, 1, 4, 5, 6] rfl)
            ·
              have c_8 := mt (zeq (x := iZ m1) (y := iZ (-1)) rfl rfl ⟨by omega, by omega⟩ ⟨by omega, by omega⟩).mpr c_8
              refine lv_aload_n hx hb dX8_ruler_58 rfl (lv_at hl 4 rfl) ?_
              refine lv_iload hx hb dX8_ruler_59 (lv_at hl 2 rfl) ?_
              refine lv_iload_n hx hb dX8_ruler_61 rfl (lv_at hl 3 rfl) ?_
              refine lv_iload_n hx hb dX8_ruler_62 rfl (lv_at hl 5 rfl) ?_
              refine CPV (As := [.int (iZ i), .int (iZ m1), .int (iZ r)]) (rest := []) hx hb hml hown hts hKK hP (k_goesAhead l D k hw1 hc hy cw cg cs ck gf sf kf0 wk od ⟨by omega, by omega⟩ ⟨by omega, by omega⟩ rgg0 hs hf fs f1 f n hn hx0 f3 hn0 lw f5 hlw i m1 r ⟨by omega, by omega⟩ ⟨by omega, by omega⟩ ⟨by omega, by omega⟩) ci_X8_goesAhead qm_X8_60 ⟨Nat.le_of_ble_eq_true rfl, Nat.le_of_ble_eq_true rfl⟩ ⟨Nat.le_of_ble_eq_true rfl, Nat.le_of_ble_eq_true rfl⟩ 0 rfl rfl rfl hl.1 rfl (Nat.le_of_ble_eq_true rfl) dX8_ruler_63 (fun z_9 hz_9 => ?_)
              refine lv_if_eq (tgt := 72) hx hb dX8_ruler_66 (by decide) (fun c_10 => ?_) (fun c_10 => ?_)
              ·
                have c_10 := (zeq (x := iZ z_9) (y := iZ 0) rfl rfl ⟨by omega, by omega⟩ ⟨by omega, by omega⟩).mp c_10
                refine lv_iinc (v := iZ (i + 1)) (lv' := [(4, .int (iZ (i + 1))), (6, .int (iZ 1)), (5, .int (iZ (gz kf0 ((i * 6) + r)))), (3, .int (iZ m1)), (0, .ref hw1), (1, .int (iZ r)), (2, .int (iZ w))]) hx hb dX8_ruler_72 hl (k := 2) rfl (iZ_add i 1) (by decide) rfl (fun ls hl => ?_)
                refine lv_goto (tgt := 5) hx hb dX8_ruler_75 (by decide) ?_
                exact ih1  _ _ _ (by omega) (by omega) (by omega) (by omega) (by omega) (lv_sub hl [0, 3, 4, 5, 6] rfl)
              ·
                have c_10 := mt (zeq (x := iZ z_9) (y := iZ 0) rfl rfl ⟨by omega, by omega⟩ ⟨by omega, by omega⟩).mpr c_10
                refine lv_iload hx hb dX8_ruler_69 (lv_at hl 2 rfl) ?_
                refine lv_istore_n (lv' := [(3, .int (iZ i)), (6, .int (iZ 1)), (5, .int (iZ (gz kf0 ((i * 6) + r)))), (4, .int (iZ i)), (0, .ref hw1), (1, .int (iZ r)), (2, .int (iZ w))]) hx hb dX8_ruler_71 rfl hl (by decide) rfl (fun ls hl => ?_)
                refine lv_iinc (v := iZ (i + 1)) (lv' := [(4, .int (iZ (i + 1))), (3, .int (iZ i)), (6, .int (iZ 1)), (5, .int (iZ (gz kf0 ((i * 6) + r)))), (0, .ref hw1), (1, .int (iZ r)), (2, .int (iZ w))]) hx hb dX8_ruler_72 hl (k := 3) rfl (iZ_add i 1) (by decide) rfl (fun ls hl => ?_)
                refine lv_goto (tgt := 5) hx hb dX8_ruler_75 (by decide) ?_
                exact ih1  _ _ _ (by omega) (by omega) (by omega) (by omega) (by omega) (lv_sub hl [0, 1, 4, 5, 6] rfl)
  exact HL1 22 _ _ _ (by omega) (by omega) (by omega) (by omega) (by omega) (lv_sub hl [0, 1, 2, 3, 4] rfl)
set_option maxHeartbeats 4000000 in
set_option maxRecDepth 100000 in
theorem k_rulerOfAll (l : Launch) (D : va_G) (k : Nat → ClassId) (hw1 hc hy cw cg cs ck : Nat) (gf sf kf0 : Nat → Int32) (wk od : Int) (hwk : 0 ≤ wk ∧ wk ≤ 400) (hod : 0 ≤ od ∧ od ≤ 20) (rgg0 : rgI gf 0 5 od) (hs hf : Nat) (fs : List Value) (f1 : fs[1]? = some (.ref hf)) (f : Nat → Int32) (n : Int) (hn : n ≤ 6) (hx0 : FXI f n) (f3 : fs[3]? = some (.int (iZ n))) (hn0 : 0 ≤ n) (lw : Int) (f5 : fs[5]? = some (.int (iZ lw))) (hlw : -2147483648 ≤ lw ∧ lw < 2147483648) (w : Int) (hw : -2147483648 ≤ w ∧ w < 2147483648) : RP l yX8_rulerOfAll cX8_rulerOfAll 4 (some .int) 3 D k [.ref hw1, .int (iZ w)] [(hw1, .inr (8, [.ref hs, .ref hc, .ref hy])), (hc, .inr (0, [.ref cw, .ref cg, .ref cs, .ref ck, .int (iZ wk), .int (iZ od)])), (cg, .inl (k 1, 20, .inl gf)), (cs, .inl (k 1, 20, .inl sf)), (ck, .inl (k 1, 120, .inl kf0)), (hs, .inr (5, fs)), (hf, .inl (k 1, 36, .inl f))] (fun z => -1 ≤ z ∧ z ≤ 20) := by
  refine MRP (by decide) (Nat.le_of_ble_eq_true rfl) (fun p e s m below meth c ls hx hb hml hr hlocks hts hown hKK hP hl => ?_)
  have hK := hKK.1
  have hl : lv_has ls 4 [(0, .ref hw1), (1, .int (iZ w))] := hl
  refine lv_aload_n hx hb dX8_rulerOfAll_0 rfl (lv_at hl 0 rfl) ?_
  refine va_get (D := D) (ci := 8) (v := .ref hs) (C := RX8) (T := TX8) (N := 3) hx hb hts iX8 hown hK hP 0 rfl rfl 0 (by decide) (hts _ qf_X8_12) (fun _ h => h) rfl dX8_rulerOfAll_1 ?_
  refine va_get (D := D) (ci := 5) (v := .int (iZ n)) (C := RX5) (T := TX5) (N := 7) hx hb hts iX5 hown hK hP 5 rfl rfl 3 (by decide) (hts _ qf_X8_77) (fun _ h => h) f3 dX8_rulerOfAll_4 ?_
  refine lv_if_ne (tgt := 14) hx hb dX8_rulerOfAll_7 (by decide) (fun c_1 => ?_) (fun c_1 => ?_)
  ·
    have c_1 := mt (zeq (x := iZ n) (y := iZ 0) rfl rfl ⟨by omega, by omega⟩ ⟨by omega, by omega⟩).mpr c_1
    refine lv_aload_n hx hb dX8_rulerOfAll_14 rfl (lv_at hl 0 rfl) ?_
    refine lv_iconst (v := iZ 0) hx hb dX8_rulerOfAll_15 (by decide) ?_
    refine lv_iload_n hx hb dX8_rulerOfAll_16 rfl (lv_at hl 1 rfl) ?_
    refine CPV (As := [.int (iZ 0), .int (iZ w)]) (rest := []) hx hb hml hown hts hKK hP (k_ruler l D k hw1 hc hy cw cg cs ck gf sf kf0 wk od ⟨by omega, by omega⟩ ⟨by omega, by omega⟩ rgg0 hs hf fs f1 f n hn hx0 f3 hn0 lw f5 hlw 0 w ⟨by omega, by omega⟩ ⟨by omega, by omega⟩) ci_X8_ruler qm_X8_80 ⟨Nat.le_of_ble_eq_true rfl, Nat.le_of_ble_eq_true rfl⟩ ⟨Nat.le_of_ble_eq_true rfl, Nat.le_of_ble_eq_true rfl⟩ 0 rfl rfl rfl hl.1 rfl (Nat.le_of_ble_eq_true rfl) dX8_rulerOfAll_17 (fun z_2 hz_2 => ?_)
    refine lv_istore_n (lv' := [(2, .int (iZ z_2)), (0, .ref hw1), (1, .int (iZ w))]) hx hb dX8_rulerOfAll_20 rfl hl (by decide) rfl (fun ls hl => ?_)
    refine lv_iconst (v := iZ 1) hx hb dX8_rulerOfAll_21 (by decide) ?_
    refine lv_istore_n (lv' := [(3, .int (iZ 1)), (2, .int (iZ z_2)), (0, .ref hw1), (1, .int (iZ w))]) hx hb dX8_rulerOfAll_22 rfl hl (by decide) rfl (fun ls hl => ?_)
    have HL1 : ∀ (fu : Nat) (i m1 : Int) (ls : Array Slot), (8 - i) < (fu : Int) → 1 ≤ i → i ≤ 7 → -1 ≤ m1 → m1 ≤ 20 → lv_has ls 4 [(3, .int (iZ i)), (2, .int (iZ m1)), (0, .ref hw1), (1, .int (iZ w))] → W p l e (rj 3 0 0) s m [.ref hw1, .int (iZ w)].toArray below meth c s.heap [] 0 0 (MQ below (QcP (fun z => -1 ≤ z ∧ z ≤ 20)) [.ref hw1, .int (iZ w)].toArray s 0 0 (fun _ => False)) (F0 m 23 ls []) := by
      intro fu
      induction fu with
      | zero => intro i m1 ls hμ1 hi1 hi2 hm1 hm2 hl; exact absurd hμ1 (by omega)
      | succ fu ih1 =>
        intro i m1 ls hμ1 hi1 hi2 hm1 hm2 hl
        refine lv_iload_n hx hb dX8_rulerOfAll_23 rfl (lv_at hl 0 rfl) ?_
        refine lv_aload_n hx hb dX8_rulerOfAll_24 rfl (lv_at hl 2 rfl) ?_
        refine va_get (D := D) (ci := 8) (v := .ref hs) (C := RX8) (T := TX8) (N := 3) hx hb hts iX8 hown hK hP 0 rfl rfl 0 (by decide) (hts _ qf_X8_12) (fun _ h => h) rfl dX8_rulerOfAll_25 ?_
        refine va_get (D := D) (ci := 5) (v := .int (iZ n)) (C := RX5) (T := TX5) (N := 7) hx hb hts iX5 hown hK hP 5 rfl rfl 3 (by decide) (hts _ qf_X8_77) (fun _ h => h) f3 dX8_rulerOfAll_28 ?_
        refine lv_icmp_ge (tgt := 57) hx hb dX8_rulerOfAll_31 (by decide) (fun c_3 => ?_) (fun c_3 => ?_)
        ·
          have c_3 := (zle (x := iZ n) (y := iZ i) rfl rfl ⟨by omega, by omega⟩ ⟨by omega, by omega⟩).mp c_3
          refine lv_iload_n hx hb dX8_rulerOfAll_57 rfl (lv_at hl 1 rfl) ?_
          exact EPi hx hb hr hlocks (by omega) dX8_rulerOfAll_58
        ·
          have c_3 := mt (zle (x := iZ n) (y := iZ i) rfl rfl ⟨by omega, by omega⟩ ⟨by omega, by omega⟩).mpr c_3
          refine lv_iload_n hx hb dX8_rulerOfAll_34 rfl (lv_at hl 1 rfl) ?_
          refine lv_iconst (v := iZ (-1)) hx hb dX8_rulerOfAll_35 (by decide) ?_
          refine lv_icmp_eq (tgt := 57) hx hb dX8_rulerOfAll_36 (by decide) (fun c_4 => ?_) (fun c_4 => ?_)
          ·
            have c_4 := (zeq (x := iZ m1) (y := iZ (-1)) rfl rfl ⟨by omega, by omega⟩ ⟨by omega, by omega⟩).mp c_4
            refine lv_iload_n hx hb dX8_rulerOfAll_57 rfl (lv_at hl 1 rfl) ?_
            exact EPi hx hb hr hlocks (by omega) dX8_rulerOfAll_58
          ·
            have c_4 := mt (zeq (x := iZ m1) (y := iZ (-1)) rfl rfl ⟨by omega, by omega⟩ ⟨by omega, by omega⟩).mpr c_4
            refine lv_aload_n hx hb dX8_rulerOfAll_39 rfl (lv_at hl 2 rfl) ?_
            refine lv_iload_n hx hb dX8_rulerOfAll_40 rfl (lv_at hl 0 rfl) ?_
            refine lv_iload_n hx hb dX8_rulerOfAll_41 rfl (lv_at hl 3 rfl) ?_
            refine CPV (As := [.int (iZ i), .int (iZ w)]) (rest := []) hx hb hml hown hts hKK hP (k_ruler l D k hw1 hc hy cw cg cs ck gf sf kf0 wk od ⟨by omega, by omega⟩ ⟨by omega, by omega⟩ rgg0 hs hf fs f1 f n hn hx0 f3 hn0 lw f5 hlw i w ⟨by omega, by omega⟩ ⟨by omega, by omega⟩) ci_X8_ruler qm_X8_80 ⟨Nat.le_of_ble_eq_true rfl, Nat.le_of_ble_eq_true rfl⟩ ⟨Nat.le_of_ble_eq_true rfl, Nat.le_of_ble_eq_true rfl⟩ 0 rfl rfl rfl hl.1 rfl (Nat.le_of_ble_eq_true rfl) dX8_rulerOfAll_42 (fun z_5 hz_5 => ?_)
            refine lv_iload_n hx hb dX8_rulerOfAll_45 rfl (lv_at hl 1 rfl) ?_
            refine lv_icmp_eq (tgt := 51) hx hb dX8_rulerOfAll_46 (by decide) (fun c_6 => ?_) (fun c_6 => ?_)
            ·
              have c_6 := (zeq (x := iZ z_5) (y := iZ m1) rfl rfl ⟨by omega, by omega⟩ ⟨by omega, by omega⟩).mp c_6
              refine lv_iinc (v := iZ (i + 1)) (lv' := [(3, .int (iZ (i + 1))), (2, .int (iZ m1)), (0, .ref hw1), (1, .int (iZ w))]) hx hb dX8_rulerOfAll_51 hl (k := 0) rfl (iZ_add i 1) (by decide) rfl (fun ls hl => ?_)
              refine lv_goto (tgt := 23) hx hb dX8_rulerOfAll_54 (by decide) ?_
              exact ih1  _ _ _ (by omega) (by omega) (by omega) (by omega) (by omega) (lv_sub hl [0, 1, 2, 3] rfl)
            ·
              have c_6 := mt (zeq (x := iZ z_5) (y := iZ m1) rfl rfl ⟨by omega, by omega⟩ ⟨by omega, by omega⟩).mpr c_6
              refine lv_iconst (v := iZ (-1)) hx hb dX8_rulerOfAll_49 (by decide) ?_
              refine lv_istore_n (lv' := [(2, .int (iZ (-1))), (3, .int (iZ i)), (0, .ref hw1), (1, .int (iZ w))]) hx hb dX8_rulerOfAll_50 rfl hl (by decide) rfl (fun ls hl => ?_)
              refine lv_iinc (v := iZ (i + 1)) (lv' := [(3, .int (iZ (i + 1))), (2, .int (iZ (-1))), (0, .ref hw1), (1, .int (iZ w))]) hx hb dX8_rulerOfAll_51 hl (k := 1) rfl (iZ_add i 1) (by decide) rfl (fun ls hl => ?_)
              refine lv_goto (tgt := 23) hx hb dX8_rulerOfAll_54 (by decide) ?_
              exact ih1  _ _ _ (by omega) (by omega) (by omega) (by omega) (by omega) (lv_sub hl [0, 1, 2, 3] rfl)
    exact HL1 9 _ _ _ (by omega) (by omega) (by omega) (by omega) (by omega) (lv_sub hl [0, 1, 2, 3] rfl)
  ·
    have c_1 := (zeq (x := iZ n) (y := iZ 0) rfl rfl ⟨by omega, by omega⟩ ⟨by omega, by omega⟩).mp c_1
    refine lv_iconst (v := iZ (-1)) hx hb dX8_rulerOfAll_10 (by decide) ?_
    refine lv_goto (tgt := 20) hx hb dX8_rulerOfAll_11 (by decide) ?_
    refine lv_istore_n (lv' := [(2, .int (iZ (-1))), (0, .ref hw1), (1, .int (iZ w))]) hx hb dX8_rulerOfAll_20 rfl hl (by decide) rfl (fun ls hl => ?_)
    refine lv_iconst (v := iZ 1) hx hb dX8_rulerOfAll_21 (by decide) ?_
    refine lv_istore_n (lv' := [(3, .int (iZ 1)), (2, .int (iZ (-1))), (0, .ref hw1), (1, .int (iZ w))]) hx hb dX8_rulerOfAll_22 rfl hl (by decide) rfl (fun ls hl => ?_)
    have HL1 : ∀ (fu : Nat) (i m1 : Int) (ls : Array Slot), (8 - i) < (fu : Int) → 1 ≤ i → i ≤ 7 → -1 ≤ m1 → m1 ≤ 20 → lv_has ls 4 [(3, .int (iZ i)), (2, .int (iZ m1)), (0, .ref hw1), (1, .int (iZ w))] → W p l e (rj 3 0 0) s m [.ref hw1, .int (iZ w)].toArray below meth c s.heap [] 0 0 (MQ below (QcP (fun z => -1 ≤ z ∧ z ≤ 20)) [.ref hw1, .int (iZ w)].toArray s 0 0 (fun _ => False)) (F0 m 23 ls []) := by
      intro fu
      induction fu with
      | zero => intro i m1 ls hμ1 hi1 hi2 hm1 hm2 hl; exact absurd hμ1 (by omega)
      | succ fu ih1 =>
        intro i m1 ls hμ1 hi1 hi2 hm1 hm2 hl
        refine lv_iload_n hx hb dX8_rulerOfAll_23 rfl (lv_at hl 0 rfl) ?_
        refine lv_aload_n hx hb dX8_rulerOfAll_24 rfl (lv_at hl 2 rfl) ?_
        refine va_get (D := D) (ci := 8) (v := .ref hs) (C := RX8) (T := TX8) (N := 3) hx hb hts iX8 hown hK hP 0 rfl rfl 0 (by decide) (hts _ qf_X8_12) (fun _ h => h) rfl dX8_rulerOfAll_25 ?_
        refine va_get (D := D) (ci := 5) (v := .int (iZ n)) (C := RX5) (T := TX5) (N := 7) hx hb hts iX5 hown hK hP 5 rfl rfl 3 (by decide) (hts _ qf_X8_77) (fun _ h => h) f3 dX8_rulerOfAll_28 ?_
        refine lv_icmp_ge (tgt := 57) hx hb dX8_rulerOfAll_31 (by decide) (fun c_7 => ?_) (fun c_7 => ?_)
        ·
          have c_7 := (zle (x := iZ n) (y := iZ i) rfl rfl ⟨by omega, by omega⟩ ⟨by omega, by omega⟩).mp c_7
          refine lv_iload_n hx hb dX8_rulerOfAll_57 rfl (lv_at hl 1 rfl) ?_
          exact EPi hx hb hr hlocks (by omega) dX8_rulerOfAll_58
        ·
          have c_7 := mt (zle (x := iZ n) (y := iZ i) rfl rfl ⟨by omega, by omega⟩ ⟨by omega, by omega⟩).mpr c_7
          refine lv_iload_n hx hb dX8_rulerOfAll_34 rfl (lv_at hl 1 rfl) ?_
          refine lv_iconst (v := iZ (-1)) hx hb dX8_rulerOfAll_35 (by decide) ?_
          refine lv_icmp_eq (tgt := 57) hx hb dX8_rulerOfAll_36 (by decide) (fun c_8 => ?_) (fun c_8 => ?_)
          ·
            have c_8 := (zeq (x := iZ m1) (y := iZ (-1)) rfl rfl ⟨by omega, by omega⟩ ⟨by omega, by omega⟩).mp c_8
            refine lv_iload_n hx hb dX8_rulerOfAll_57 rfl (lv_at hl 1 rfl) ?_
            exact EPi hx hb hr hlocks (by omega) dX8_rulerOfAll_58
          ·
            have c_8 := mt (zeq (x := iZ m1) (y := iZ (-1)) rfl rfl ⟨by omega, by omega⟩ ⟨by omega, by omega⟩).mpr c_8
            refine lv_aload_n hx hb dX8_rulerOfAll_39 rfl (lv_at hl 2 rfl) ?_
            refine lv_iload_n hx hb dX8_rulerOfAll_40 rfl (lv_at hl 0 rfl) ?_
            refine lv_iload_n hx hb dX8_rulerOfAll_41 rfl (lv_at hl 3 rfl) ?_
            refine CPV (As := [.int (iZ i), .int (iZ w)]) (rest := []) hx hb hml hown hts hKK hP (k_ruler l D k hw1 hc hy cw cg cs ck gf sf kf0 wk od ⟨by omega, by omega⟩ ⟨by omega, by omega⟩ rgg0 hs hf fs f1 f n hn hx0 f3 hn0 lw f5 hlw i w ⟨by omega, by omega⟩ ⟨by omega, by omega⟩) ci_X8_ruler qm_X8_80 ⟨Nat.le_of_ble_eq_true rfl, Nat.le_of_ble_eq_true rfl⟩ ⟨Nat.le_of_ble_eq_true rfl, Nat.le_of_ble_eq_true rfl⟩ 0 rfl rfl rfl hl.1 rfl (Nat.le_of_ble_eq_true rfl) dX8_rulerOfAll_42 (fun z_9 hz_9 => ?_)
            refine lv_iload_n hx hb dX8_rulerOfAll_45 rfl (lv_at hl 1 rfl) ?_
            refine lv_icmp_eq (tgt := 51) hx hb dX8_rulerOfAll_46 (by decide) (fun c_10 => ?_) (fun c_10 => ?_)
            ·
              have c_10 := (zeq (x := iZ z_9) (y := iZ m1) rfl rfl ⟨by omega, by omega⟩ ⟨by omega, by omega⟩).mp c_10
              refine lv_iinc (v := iZ (i + 1)) (lv' := [(3, .int (iZ (i + 1))), (2, .int (iZ m1)), (0, .ref hw1), (1, .int (iZ w))]) hx hb dX8_rulerOfAll_51 hl (k := 0) rfl (iZ_add i 1) (by decide) rfl (fun ls hl => ?_)
              refine lv_goto (tgt := 23) hx hb dX8_rulerOfAll_54 (by decide) ?_
              exact ih1  _ _ _ (by omega) (by omega) (by omega) (by omega) (by omega) (lv_sub hl [0, 1, 2, 3] rfl)
            ·
              have c_10 := mt (zeq (x := iZ z_9) (y := iZ m1) rfl rfl ⟨by omega, by omega⟩ ⟨by omega, by omega⟩).mpr c_10
              refine lv_iconst (v := iZ (-1)) hx hb dX8_rulerOfAll_49 (by decide) ?_
              refine lv_istore_n (lv' := [(2, .int (iZ (-1))), (3, .int (iZ i)), (0, .ref hw1), (1, .int (iZ w))]) hx hb dX8_rulerOfAll_50 rfl hl (by decide) rfl (fun ls hl => ?_)
              refine lv_iinc (v := iZ (i + 1)) (lv' := [(3, .int (iZ (i + 1))), (2, .int (iZ (-1))), (0, .ref hw1), (1, .int (iZ w))]) hx hb dX8_rulerOfAll_51 hl (k := 1) rfl (iZ_add i 1) (by decide) rfl (fun ls hl => ?_)
              refine lv_goto (tgt := 23) hx hb dX8_rulerOfAll_54 (by decide) ?_
              exact ih1  _ _ _ (by omega) (by omega) (by omega) (by omega) (by omega) (lv_sub hl [0, 1, 2, 3] rfl)
    exact HL1 9 _ _ _ (by omega) (by omega) (by omega) (by omega) (by omega) (lv_sub hl [0, 1, 2, 3] rfl)
set_option maxHeartbeats 4000000 in
set_option maxRecDepth 100000 in
theorem k_isOneForAll (l : Launch) (D : va_G) (k : Nat → ClassId) (hw1 hc hy cw cg cs ck : Nat) (gf sf kf0 : Nat → Int32) (wk od : Int) (hwk : 0 ≤ wk ∧ wk ≤ 400) (hod : 0 ≤ od ∧ od ≤ 20) (rgg0 : rgI gf 0 5 od) (hs hf : Nat) (fs : List Value) (f1 : fs[1]? = some (.ref hf)) (f : Nat → Int32) (n : Int) (hn : n ≤ 6) (hx0 : FXI f n) (f3 : fs[3]? = some (.int (iZ n))) (hn0 : 0 ≤ n) (lw : Int) (f5 : fs[5]? = some (.int (iZ lw))) (hlw : -2147483648 ≤ lw ∧ lw < 2147483648) (a b : Int) (ha0 : 0 ≤ a ∧ a < od) (hb0 : 0 ≤ b ∧ b < od) : RP l yX8_isOneForAll cX8_isOneForAll 9 (some .boolean) 1 D k [.ref hw1, .int (iZ a), .int (iZ b)] [(hw1, .inr (8, [.ref hs, .ref hc, .ref hy])), (hc, .inr (0, [.ref cw, .ref cg, .ref cs, .ref ck, .int (iZ wk), .int (iZ od)])), (cg, .inl (k 1, 20, .inl gf)), (cs, .inl (k 1, 20, .inl sf)), (ck, .inl (k 1, 120, .inl kf0)), (hs, .inr (5, fs)), (hf, .inl (k 1, 36, .inl f))] (fun z => z = 0 ∨ z = 1) := by
  refine MRP (by decide) (Nat.le_of_ble_eq_true rfl) (fun p e s m below meth c ls hx hb hml hr hlocks hts hown hKK hP hl => ?_)
  have hK := hKK.1
  have hl : lv_has ls 9 [(0, .ref hw1), (1, .int (iZ a)), (2, .int (iZ b))] := hl
  refine lv_iconst (v := iZ 0) hx hb dX8_isOneForAll_0 (by decide) ?_
  refine lv_istore_n (lv' := [(3, .int (iZ 0)), (0, .ref hw1), (1, .int (iZ a)), (2, .int (iZ b))]) hx hb dX8_isOneForAll_1 rfl hl (by decide) rfl (fun ls hl => ?_)
  refine lv_iconst (v := iZ 0) hx hb dX8_isOneForAll_2 (by decide) ?_
  refine lv_istore (lv' := [(4, .int (iZ 0)), (3, .int (iZ 0)), (0, .ref hw1), (1, .int (iZ a)), (2, .int (iZ b))]) hx hb dX8_isOneForAll_3 hl (by decide) rfl (fun ls hl => ?_)
  refine lv_iconst (v := iZ 0) hx hb dX8_isOneForAll_5 (by decide) ?_
  refine lv_istore (lv' := [(5, .int (iZ 0)), (4, .int (iZ 0)), (3, .int (iZ 0)), (0, .ref hw1), (1, .int (iZ a)), (2, .int (iZ b))]) hx hb dX8_isOneForAll_6 hl (by decide) rfl (fun ls hl => ?_)
  have HL1 : ∀ (fu : Nat) (i m1 m2 : Int) (ls : Array Slot), (n + 1 - i) < (fu : Int) → 0 ≤ i → i ≤ n → 0 ≤ m1 → m1 ≤ 1 → -1 ≤ m2 → m2 ≤ 1 → lv_has ls 9 [(5, .int (iZ i)), (4, .int (iZ m2)), (3, .int (iZ m1)), (0, .ref hw1), (1, .int (iZ a)), (2, .int (iZ b))] → W p l e (rj 1 0 0) s m [.ref hw1, .int (iZ a), .int (iZ b)].toArray below meth c s.heap [] 0 0 (MQ below (QcP (fun z => z = 0 ∨ z = 1)) [.ref hw1, .int (iZ a), .int (iZ b)].toArray s 0 0 (fun _ => False)) (F0 m 8 ls []) := by
    intro fu
    induction fu with
    | zero => intro i m1 m2 ls hμ1 hi1 hi2 hm1 hm2 hm3 hm4 hl; exact absurd hμ1 (by omega)
    | succ fu ih1 =>
      intro i m1 m2 ls hμ1 hi1 hi2 hm1 hm2 hm3 hm4 hl
      refine lv_iload hx hb dX8_isOneForAll_8 (lv_at hl 0 rfl) ?_
      refine lv_aload_n hx hb dX8_isOneForAll_10 rfl (lv_at hl 3 rfl) ?_
      refine va_get (D := D) (ci := 8) (v := .ref hs) (C := RX8) (T := TX8) (N := 3) hx hb hts iX8 hown hK hP 0 rfl rfl 0 (by decide) (hts _ qf_X8_12) (fun _ h => h) rfl dX8_isOneForAll_11 ?_
      refine va_get (D := D) (ci := 5) (v := .int (iZ n)) (C := RX5) (T := TX5) (N := 7) hx hb hts iX5 hown hK hP 5 rfl rfl 3 (by decide) (hts _ qf_X8_77) (fun _ h => h) f3 dX8_isOneForAll_14 ?_
      refine lv_icmp_ge (tgt := 90) hx hb dX8_isOneForAll_17 (by decide) (fun c_1 => ?_) (fun c_1 => ?_)
      ·
        have c_1 := (zle (x := iZ n) (y := iZ i) rfl rfl ⟨by omega, by omega⟩ ⟨by omega, by omega⟩).mp c_1
        refine lv_iconst (v := iZ 1) hx hb dX8_isOneForAll_90 (by decide) ?_
        exact EPz hx hb hr hlocks (by omega) (by omega) dX8_isOneForAll_91
      ·
        have c_1 := mt (zle (x := iZ n) (y := iZ i) rfl rfl ⟨by omega, by omega⟩ ⟨by omega, by omega⟩).mpr c_1
        refine lv_aload_n hx hb dX8_isOneForAll_20 rfl (lv_at hl 3 rfl) ?_
        refine va_get (D := D) (ci := 8) (v := .ref hc) (C := RX8) (T := TX8) (N := 3) hx hb hts iX8 hown hK hP 0 rfl rfl 1 (by decide) (hts _ qf_X8_21) (fun _ h => h) rfl dX8_isOneForAll_21 ?_
        refine lv_iload_n hx hb dX8_isOneForAll_24 rfl (lv_at hl 4 rfl) ?_
        refine lv_iload hx hb dX8_isOneForAll_25 (lv_at hl 0 rfl) ?_
        refine CRV (As := [.int (iZ a), .int (iZ i)]) (rest := []) hx hb hml hown hts hKK (hP.sub (ws' := [(hc, .inr (0, [.ref cw, .ref cg, .ref cs, .ref ck, .int (iZ wk), .int (iZ od)])), (ck, .inl (k 1, 120, .inl kf0))]) [1, 4] rfl) (k_firstKnown l D k hc ck [.ref cw, .ref cg, .ref cs, .ref ck, .int (iZ wk), .int (iZ od)] rfl kf0 a i ⟨by omega, by omega⟩ ⟨by omega, by omega⟩) ci_X0_firstKnown qm_X8_56 ⟨Nat.le_of_ble_eq_true rfl, Nat.le_of_ble_eq_true rfl⟩ ⟨Nat.le_of_ble_eq_true rfl, Nat.le_of_ble_eq_true rfl⟩ 0 rfl rfl rfl hl.1 rfl (Nat.le_of_ble_eq_true rfl) dX8_isOneForAll_27 ?_
        have hg_h_2 := gz_rg kf0 ((a * 6) + i)
        refine lv_istore (lv' := [(6, .int (iZ (gz kf0 ((a * 6) + i)))), (5, .int (iZ i)), (4, .int (iZ m2)), (3, .int (iZ m1)), (0, .ref hw1), (1, .int (iZ a)), (2, .int (iZ b))]) hx hb dX8_isOneForAll_30 hl (by decide) rfl (fun ls hl => ?_)
        refine lv_aload_n hx hb dX8_isOneForAll_32 rfl (lv_at hl 4 rfl) ?_
        refine va_get (D := D) (ci := 8) (v := .ref hc) (C := RX8) (T := TX8) (N := 3) hx hb hts iX8 hown hK hP 0 rfl rfl 1 (by decide) (hts _ qf_X8_21) (fun _ h => h) rfl dX8_isOneForAll_33 ?_
        refine lv_iload_n hx hb dX8_isOneForAll_36 rfl (lv_at hl 6 rfl) ?_
        refine lv_iload hx hb dX8_isOneForAll_37 (lv_at hl 1 rfl) ?_
        refine CRV (As := [.int (iZ b), .int (iZ i)]) (rest := []) hx hb hml hown hts hKK (hP.sub (ws' := [(hc, .inr (0, [.ref cw, .ref cg, .ref cs, .ref ck, .int (iZ wk), .int (iZ od)])), (ck, .inl (k 1, 120, .inl kf0))]) [1, 4] rfl) (k_firstKnown l D k hc ck [.ref cw, .ref cg, .ref cs, .ref ck, .int (iZ wk), .int (iZ od)] rfl kf0 b i ⟨by omega, by omega⟩ ⟨by omega, by omega⟩) ci_X0_firstKnown qm_X8_56 ⟨Nat.le_of_ble_eq_true rfl, Nat.le_of_ble_eq_true rfl⟩ ⟨Nat.le_of_ble_eq_true rfl, Nat.le_of_ble_eq_true rfl⟩ 0 rfl rfl rfl hl.1 rfl (Nat.le_of_ble_eq_true rfl) dX8_isOneForAll_39 ?_
        have hg_h_3 := gz_rg kf0 ((b * 6) + i)
        refine lv_istore (lv' := [(7, .int (iZ (gz kf0 ((b * 6) + i)))), (6, .int (iZ (gz kf0 ((a * 6) + i)))), (5, .int (iZ i)), (4, .int (iZ m2)), (3, .int (iZ m1)), (0, .ref hw1), (1, .int (iZ a)), (2, .int (iZ b))]) hx hb dX8_isOneForAll_42 hl (by decide) rfl (fun ls hl => ?_)
        refine lv_iload hx hb dX8_isOneForAll_44 (lv_at hl 1 rfl) ?_
        refine lv_iconst (v := iZ (-1)) hx hb dX8_isOneForAll_46 (by decide) ?_
        refine lv_icmp_eq (tgt := 84) hx hb dX8_isOneForAll_47 (by decide) (fun c_4 => ?_) (fun c_4 => ?_)
        ·
          have c_4 := (zeq (x := iZ (gz kf0 ((a * 6) + i))) (y := iZ (-1)) rfl rfl ⟨by omega, by omega⟩ ⟨by omega, by omega⟩).mp c_4
          refine lv_iinc (v := iZ (i + 1)) (lv' := [(5, .int (iZ (i + 1))), (7, .int (iZ (gz kf0 ((b * 6) + i)))), (6, .int (iZ (gz kf0 ((a * 6) + i)))), (4, .int (iZ m2)), (3, .int (iZ m1)), (0, .ref hw1), (1, .int (iZ a)), (2, .int (iZ b))]) hx hb dX8_isOneForAll_84 hl (k := 2) rfl (iZ_add i 1) (by decide) rfl (fun ls hl => ?_)
          refine lv_goto (tgt := 8) hx hb dX8_isOneForAll_87 (by decide) ?_
          exact ih1  _ _ _ _ (by omega) (by omega) (by omega) (by omega) (by omega) (by omega) (by omega) (lv_sub hl [0, 3, 4, 5, 6, 7] rfl)
        ·
          have c_4 := mt (zeq (x := iZ (gz kf0 ((a * 6) + i))) (y := iZ (-1)) rfl rfl ⟨by omega, by omega⟩ ⟨by omega, by omega⟩).mpr c_4
          refine lv_iload hx hb dX8_isOneForAll_50 (lv_at hl 0 rfl) ?_
          refine lv_iconst (v := iZ (-1)) hx hb dX8_isOneForAll_52 (by decide) ?_
          refine lv_icmp_eq (tgt := 84) hx hb dX8_isOneForAll_53 (by decide) (fun c_5 => ?_) (fun c_5 => ?_)
          ·
            have c_5 := (zeq (x := iZ (gz kf0 ((b * 6) + i))) (y := iZ (-1)) rfl rfl ⟨by omega, by omega⟩ ⟨by omega, by omega⟩).mp c_5
            refine lv_iinc (v := iZ (i + 1)) (lv' := [(5, .int (iZ (i + 1))), (7, .int (iZ (gz kf0 ((b * 6) + i)))), (6, .int (iZ (gz kf0 ((a * 6) + i)))), (4, .int (iZ m2)), (3, .int (iZ m1)), (0, .ref hw1), (1, .int (iZ a)), (2, .int (iZ b))]) hx hb dX8_isOneForAll_84 hl (k := 2) rfl (iZ_add i 1) (by decide) rfl (fun ls hl => ?_)
            refine lv_goto (tgt := 8) hx hb dX8_isOneForAll_87 (by decide) ?_
            exact ih1  _ _ _ _ (by omega) (by omega) (by omega) (by omega) (by omega) (by omega) (by omega) (lv_sub hl [0, 3, 4, 5, 6, 7] rfl)
          ·
            have c_5 := mt (zeq (x := iZ (gz kf0 ((b * 6) + i))) (y := iZ (-1)) rfl rfl ⟨by omega, by omega⟩ ⟨by omega, by omega⟩).mpr c_5
            refine lv_iload hx hb dX8_isOneForAll_56 (lv_at hl 1 rfl) ?_
            refine lv_iload hx hb dX8_isOneForAll_58 (lv_at hl 0 rfl) ?_
            refine CPS (As := [.int (iZ (gz kf0 ((a * 6) + i))), .int (iZ (gz kf0 ((b * 6) + i)))]) (rest := []) hx hb hml hown hts hKK (hP.sub (ws' := []) [] rfl) (k_compare l D k (gz kf0 ((a * 6) + i)) (gz kf0 ((b * 6) + i)) ⟨by omega, by omega⟩ ⟨by omega, by omega⟩) ci_J6_compare_7cf53 qm_X8_83 ⟨Nat.le_of_ble_eq_true rfl, Nat.le_of_ble_eq_true rfl⟩ ⟨Nat.le_of_ble_eq_true rfl, Nat.le_of_ble_eq_true rfl⟩ rfl hl.1 rfl (Nat.le_of_ble_eq_true rfl) dX8_isOneForAll_60 (fun z_6 hz_6 => ?_)
            refine lv_istore (lv' := [(8, .int (iZ z_6)), (7, .int (iZ (gz kf0 ((b * 6) + i)))), (6, .int (iZ (gz kf0 ((a * 6) + i)))), (5, .int (iZ i)), (4, .int (iZ m2)), (3, .int (iZ m1)), (0, .ref hw1), (1, .int (iZ a)), (2, .int (iZ b))]) hx hb dX8_isOneForAll_63 hl (by decide) rfl (fun ls hl => ?_)
            refine lv_iload_n hx hb dX8_isOneForAll_65 rfl (lv_at hl 5 rfl) ?_
            refine lv_if_eq (tgt := 78) hx hb dX8_isOneForAll_66 (by decide) (fun c_7 => ?_) (fun c_7 => ?_)
            ·
              have c_7 := (zeq (x := iZ m1) (y := iZ 0) rfl rfl ⟨by omega, by omega⟩ ⟨by omega, by omega⟩).mp c_7
              refine lv_iconst (v := iZ 1) hx hb dX8_isOneForAll_78 (by decide) ?_
              refine lv_istore_n (lv' := [(3, .int (iZ 1)), (8, .int (iZ z_6)), (7, .int (iZ (gz kf0 ((b * 6) + i)))), (6, .int (iZ (gz kf0 ((a * 6) + i)))), (5, .int (iZ i)), (4, .int (iZ m2)), (0, .ref hw1), (1, .int (iZ a)), (2, .int (iZ b))]) hx hb dX8_isOneForAll_79 rfl hl (by decide) rfl (fun ls hl => ?_)
              refine lv_iload hx hb dX8_isOneForAll_80 (lv_at hl 1 rfl) ?_
              refine lv_istore (lv' := [(4, .int (iZ z_6)), (3, .int (iZ 1)), (8, .int (iZ z_6)), (7, .int (iZ (gz kf0 ((b * 6) + i)))), (6, .int (iZ (gz kf0 ((a * 6) + i)))), (5, .int (iZ i)), (0, .ref hw1), (1, .int (iZ a)), (2, .int (iZ b))]) hx hb dX8_isOneForAll_82 hl (by decide) rfl (fun ls hl => ?_)
              refine lv_iinc (v := iZ (i + 1)) (lv' := [(5, .int (iZ (i + 1))), (4, .int (iZ z_6)), (3, .int (iZ 1)), (8, .int (iZ z_6)), (7, .int (iZ (gz kf0 ((b * 6) + i)))), (6, .int (iZ (gz kf0 ((a * 6) + i)))), (0, .ref hw1), (1, .int (iZ a)), (2, .int (iZ b))]) hx hb dX8_isOneForAll_84 hl (k := 5) rfl (iZ_add i 1) (by decide) rfl (fun ls hl => ?_)
              refine lv_goto (tgt := 8) hx hb dX8_isOneForAll_87 (by decide) ?_
              exact ih1  _ _ _ _ (by omega) (by omega) (by omega) (by omega) (by omega) (by omega) (by omega) (lv_sub hl [0, 1, 2, 6, 7, 8] rfl)
            ·
              have c_7 := mt (zeq (x := iZ m1) (y := iZ 0) rfl rfl ⟨by omega, by omega⟩ ⟨by omega, by omega⟩).mpr c_7
              refine lv_iload hx hb dX8_isOneForAll_69 (lv_at hl 0 rfl) ?_
              refine lv_iload hx hb dX8_isOneForAll_71 (lv_at hl 4 rfl) ?_
              refine lv_icmp_eq (tgt := 78) hx hb dX8_isOneForAll_73 (by decide) (fun c_8 => ?_) (fun c_8 => ?_)
              ·
                have c_8 := (zeq (x := iZ z_6) (y := iZ m2) rfl rfl ⟨by omega, by omega⟩ ⟨by omega, by omega⟩).mp c_8
                refine lv_iconst (v := iZ 1) hx hb dX8_isOneForAll_78 (by decide) ?_
                refine lv_istore_n (lv' := [(3, .int (iZ 1)), (8, .int (iZ z_6)), (7, .int (iZ (gz kf0 ((b * 6) + i)))), (6, .int (iZ (gz kf0 ((a * 6) + i)))), (5, .int (iZ i)), (4, .int (iZ m2)), (0, .ref hw1), (1, .int (iZ a)), (2, .int (iZ b))]) hx hb dX8_isOneForAll_79 rfl hl (by decide) rfl (fun ls hl => ?_)
                refine lv_iload hx hb dX8_isOneForAll_80 (lv_at hl 1 rfl) ?_
                refine lv_istore (lv' := [(4, .int (iZ z_6)), (3, .int (iZ 1)), (8, .int (iZ z_6)), (7, .int (iZ (gz kf0 ((b * 6) + i)))), (6, .int (iZ (gz kf0 ((a * 6) + i)))), (5, .int (iZ i)), (0, .ref hw1), (1, .int (iZ a)), (2, .int (iZ b))]) hx hb dX8_isOneForAll_82 hl (by decide) rfl (fun ls hl => ?_)
                refine lv_iinc (v := iZ (i + 1)) (lv' := [(5, .int (iZ (i + 1))), (4, .int (iZ z_6)), (3, .int (iZ 1)), (8, .int (iZ z_6)), (7, .int (iZ (gz kf0 ((b * 6) + i)))), (6, .int (iZ (gz kf0 ((a * 6) + i)))), (0, .ref hw1), (1, .int (iZ a)), (2, .int (iZ b))]) hx hb dX8_isOneForAll_84 hl (k := 5) rfl (iZ_add i 1) (by decide) rfl (fun ls hl => ?_)
                refine lv_goto (tgt := 8) hx hb dX8_isOneForAll_87 (by decide) ?_
                exact ih1  _ _ _ _ (by omega) (by omega) (by omega) (by omega) (by omega) (by omega) (by omega) (lv_sub hl [0, 1, 2, 6, 7, 8] rfl)
              ·
                have c_8 := mt (zeq (x := iZ z_6) (y := iZ m2) rfl rfl ⟨by omega, by omega⟩ ⟨by omega, by omega⟩).mpr c_8
                refine lv_iconst (v := iZ 0) hx hb dX8_isOneForAll_76 (by decide) ?_
                exact EPz hx hb hr hlocks (by omega) (by omega) dX8_isOneForAll_77
  exact HL1 8 _ _ _ _ (by omega) (by omega) (by omega) (by omega) (by omega) (by omega) (by omega) (lv_sub hl [0, 1, 2, 3, 4, 5] rfl)
